set_option maxRecDepth 100000 in
set_option maxHeartbeats 4000000 in
theorem w_X8_barsAgainst (d : Nat) (f : zM) (m1 : Nat) (h1 : m1 < zcnt 11) (m2 : Nat) (h2 : m2 < zcnt 8) (hI : zInv f) : ZM (d + 1) yX8_barsAgainst cX8_barsAgainst 4 (some .int) [zr 1 0, zr 11 m1, zr 8 m2] f (fun r g => (∃ v, r = some (zi v) ∧ zB v 0 63) ∧ zInv g ∧ zFr [] f g) := by
  refine ZM.intro (by decide +kernel) (Nat.le_of_ble_eq_true rfl) ?_
  intro X C hr hn
  have hF : zFr [] f f := zFr.rf _ _
  have J : ∀ t : Nat, (∀ a22_s1 : Int32, zB a22_s1 0 1 → ∀ g : zM, zInv g → zFr [] f g → (7 : Int) < t → Z X 22 [some (zr 1 0), some (zr 11 m1), some (zr 8 m2), some (zi 0)] [zi a22_s1, zi 0] g) ∧ (∀ a37_3 : Int32, zB a37_3 0 1 → ∀ a37_s0 : Int32, zB a37_s0 0 1 → ∀ a37_s1 : Int32, zB a37_s1 0 2 → ∀ g : zM, zInv g → zFr [] f g → (6 : Int) < t → Z X 37 [some (zr 1 0), some (zr 11 m1), some (zr 8 m2), some (zi a37_3)] [zi a37_s1, zi a37_s0] g) ∧ (∀ a55_3 : Int32, zB a55_3 0 3 → ∀ a55_s0 : Int32, zB a55_s0 0 3 → ∀ a55_s1 : Int32, zB a55_s1 0 4 → ∀ g : zM, zInv g → zFr [] f g → (5 : Int) < t → Z X 55 [some (zr 1 0), some (zr 11 m1), some (zr 8 m2), some (zi a55_3)] [zi a55_s1, zi a55_s0] g) ∧ (∀ a82_3 : Int32, zB a82_3 0 7 → ∀ a82_s0 : Int32, zB a82_s0 0 7 → ∀ g : zM, zInv g → zFr [] f g → (4 : Int) < t → Z X 82 [some (zr 1 0), some (zr 11 m1), some (zr 8 m2), some (zi a82_3)] [zi a82_s0] g) ∧ (∀ a83_3 : Int32, zB a83_3 0 7 → ∀ a83_s0 : Int32, zB a83_s0 0 7 → ∀ a83_s1 : Int32, zB a83_s1 0 8 → ∀ g : zM, zInv g → zFr [] f g → (3 : Int) < t → Z X 83 [some (zr 1 0), some (zr 11 m1), some (zr 8 m2), some (zi a83_3)] [zi a83_s1, zi a83_s0] g) ∧ (∀ a103_3 : Int32, zB a103_3 0 15 → ∀ a103_s0 : Int32, zB a103_s0 0 15 → ∀ a103_s1 : Int32, zB a103_s1 0 16 → ∀ g : zM, zInv g → zFr [] f g → (2 : Int) < t → Z X 103 [some (zr 1 0), some (zr 11 m1), some (zr 8 m2), some (zi a103_3)] [zi a103_s1, zi a103_s0] g) ∧ (∀ a145_3 : Int32, zB a145_3 0 31 → ∀ g : zM, zInv g → zFr [] f g → (1 : Int) < t → Z X 145 [some (zr 1 0), some (zr 11 m1), some (zr 8 m2), some (zi a145_3)] [] g) ∧ (∀ a146_3 : Int32, zB a146_3 0 31 → ∀ a146_s0 : Int32, zB a146_s0 0 63 → ∀ g : zM, zInv g → zFr [] f g → (0 : Int) < t → Z X 146 [some (zr 1 0), some (zr 11 m1), some (zr 8 m2), some (zi a146_3)] [zi a146_s0] g) := by
    intro t
    induction t with
    | zero =>
      refine ⟨?_, ?_, ?_, ?_, ?_, ?_, ?_, ?_⟩ <;> (intros; exfalso; omega)
    | succ t ih =>
      obtain ⟨ih0, ih1, ih2, ih3, ih4, ih5, ih6, ih7⟩ := ih
      refine ⟨?_, ?_, ?_, ?_, ?_, ?_, ?_, ?_⟩
      · skip
        intro a22_s1 b22_s1 g22_ hI22_ hF22_ hM22_
        refine z_ior (pc := 22) C dX8_barsAgainst_22 ?_
        refine w_gb 0 1 (zor_b 1 (zB.of (x := 0) 0 (by decide)) b22_s1 (by decide) (by decide) (by decide) (by decide) (by decide)) (fun v1 b1x => ?_)
        refine z_istore_n (pc := 23) C dX8_barsAgainst_23 (by rw [hn]; decide) rfl ?_
        refine z_iload_n (pc := 24) C dX8_barsAgainst_24 rfl ?_
        refine z_aload_n (pc := 25) C dX8_barsAgainst_25 rfl ?_
        refine z_getI (pc := 26) C zf_X8_110 rfl rfl h2 dX8_barsAgainst_26 ?_
        refine w_gb 0 1 (hI22_ 8 _ 4) (fun v2 b2x => ?_)
        refine z_if_eq (pc := 29) 36 C dX8_barsAgainst_29 (by decide) (fun h29_2 => ?_) (fun h29_2 => ?_)
        · skip
          have b4x : zB v2 0 0 := by have q1 := b2x; have q2 := (zB.of (x := 0) 0 (by decide)); simp only [z32lt, z32le, z32eq, Int32.reduceToInt, Int32.toInt_zero] at h29_2; constructor <;> omega
          refine z_iconst (pc := 36) (v := 0) C dX8_barsAgainst_36 (by decide) ?_
          exact ih1 v1 b1x v1 b1x 0 (zB.wk (a' := 0) (b' := 2) (zB.of (x := 0) 0 (by decide)) (by decide) (by decide)) g22_ hI22_ hF22_  (by have qc0 : (0 : Int32).toInt = 0 := (by decide); omega)
        · skip
          have b5x : zB v2 1 1 := by have q1 := b2x; have q2 := (zB.of (x := 0) 0 (by decide)); simp only [z32lt, z32le, z32eq, Int32.reduceToInt, Int32.toInt_zero] at h29_2; constructor <;> omega
          refine z_iconst (pc := 32) (v := 2) C dX8_barsAgainst_32 (by decide) ?_
          refine z_goto (pc := 33) 37 C dX8_barsAgainst_33 (by decide) ?_
          exact ih1 v1 b1x v1 b1x 2 (zB.wk (a' := 0) (b' := 2) (zB.of (x := 2) 2 (by decide)) (by decide) (by decide)) g22_ hI22_ hF22_  (by have qc0 : (2 : Int32).toInt = 2 := (by decide); omega)
      · skip
        intro a37_3 b37_3 a37_s0 b37_s0 a37_s1 b37_s1 g37_ hI37_ hF37_ hM37_
        refine z_ior (pc := 37) C dX8_barsAgainst_37 ?_
        refine w_gb 0 3 (zor_b 2 b37_s0 b37_s1 (by decide) (by decide) (by decide) (by decide) (by decide)) (fun v6 b6x => ?_)
        refine z_istore_n (pc := 38) C dX8_barsAgainst_38 (by rw [hn]; decide) rfl ?_
        refine z_iload_n (pc := 39) C dX8_barsAgainst_39 rfl ?_
        refine z_aload_n (pc := 40) C dX8_barsAgainst_40 rfl ?_
        refine z_getI (pc := 41) C zf_X8_114 rfl rfl h2 dX8_barsAgainst_41 ?_
        refine w_gb 0 63 (hI37_ 8 _ 0) (fun v7 b7x => ?_)
        refine z_bipush (pc := 44) (v := 32) C dX8_barsAgainst_44 (by decide) ?_
        refine z_iand (pc := 46) C dX8_barsAgainst_46 ?_
        refine w_gb 0 32 (zand_b b7x (zB.of (x := 32) 32 (by decide)) (by decide)) (fun v8 b8x => ?_)
        refine z_if_eq (pc := 47) 54 C dX8_barsAgainst_47 (by decide) (fun h47_8 => ?_) (fun h47_8 => ?_)
        · skip
          have b10x : zB v8 0 0 := by have q1 := b8x; have q2 := (zB.of (x := 0) 0 (by decide)); simp only [z32lt, z32le, z32eq, Int32.reduceToInt, Int32.toInt_zero] at h47_8; constructor <;> omega
          refine z_iconst (pc := 54) (v := 0) C dX8_barsAgainst_54 (by decide) ?_
          exact ih2 v6 b6x v6 b6x 0 (zB.wk (a' := 0) (b' := 4) (zB.of (x := 0) 0 (by decide)) (by decide) (by decide)) g37_ hI37_ hF37_  (by have qc0 : (0 : Int32).toInt = 0 := (by decide); omega)
        · skip
          have b11x : zB v8 1 32 := by have q1 := b8x; have q2 := (zB.of (x := 0) 0 (by decide)); simp only [z32lt, z32le, z32eq, Int32.reduceToInt, Int32.toInt_zero] at h47_8; constructor <;> omega
          refine z_iconst (pc := 50) (v := 4) C dX8_barsAgainst_50 (by decide) ?_
          refine z_goto (pc := 51) 55 C dX8_barsAgainst_51 (by decide) ?_
          exact ih2 v6 b6x v6 b6x 4 (zB.wk (a' := 0) (b' := 4) (zB.of (x := 4) 4 (by decide)) (by decide) (by decide)) g37_ hI37_ hF37_  (by have qc0 : (4 : Int32).toInt = 4 := (by decide); omega)
      · skip
        intro a55_3 b55_3 a55_s0 b55_s0 a55_s1 b55_s1 g55_ hI55_ hF55_ hM55_
        refine z_ior (pc := 55) C dX8_barsAgainst_55 ?_
        refine w_gb 0 7 (zor_b 3 b55_s0 b55_s1 (by decide) (by decide) (by decide) (by decide) (by decide)) (fun v12 b12x => ?_)
        refine z_istore_n (pc := 56) C dX8_barsAgainst_56 (by rw [hn]; decide) rfl ?_
        refine z_iload_n (pc := 57) C dX8_barsAgainst_57 rfl ?_
        refine z_aload_n (pc := 58) C dX8_barsAgainst_58 rfl ?_
        refine z_aload_n (pc := 59) C dX8_barsAgainst_59 rfl ?_
        refine z_getI (pc := 60) C zf_X8_117 rfl rfl h1 dX8_barsAgainst_60 ?_
        refine w_gb 0 5 (hI55_ 11 _ 2) (fun v13 b13x => ?_)
        refine z_callV (pc := 63) C zk_X8_120 (w_X1_isDeadly _ _ m2 h2 v13 b13x hI55_) rfl rfl h2 rfl rfl (Nat.le_of_ble_eq_true rfl) dX8_barsAgainst_63 (fun r14 g14 q14 => ?_)
        obtain ⟨⟨v14, rfl, b14x⟩, hI14, hF14q⟩ := q14
        obtain rfl := zFr_nil hF14q
        simp only [Option.toList, List.cons_append, List.nil_append]
        refine z_if_eq (pc := 66) 82 C dX8_barsAgainst_66 (by decide) (fun h66_14 => ?_) (fun h66_14 => ?_)
        · skip
          have b16x : zB v14 0 0 := by have q1 := b14x; have q2 := (zB.of (x := 0) 0 (by decide)); simp only [z32lt, z32le, z32eq, Int32.reduceToInt, Int32.toInt_zero] at h66_14; constructor <;> omega
          exact ih3 v12 b12x v12 b12x g55_ hI55_ hF55_  (by omega)
        · skip
          have b17x : zB v14 1 1 := by have q1 := b14x; have q2 := (zB.of (x := 0) 0 (by decide)); simp only [z32lt, z32le, z32eq, Int32.reduceToInt, Int32.toInt_zero] at h66_14; constructor <;> omega
          refine z_aload_n (pc := 69) C dX8_barsAgainst_69 rfl ?_
          refine z_iconst (pc := 70) (v := 1) C dX8_barsAgainst_70 (by decide) ?_
          refine z_callV (pc := 71) C zk_X8_123 (w_X4_pledges _ _ m1 h1 1 (zB.wk (a' := (-2147483648)) (b' := 2147483647) (zB.of (x := 1) 1 (by decide)) (by decide) (by decide)) hI55_) rfl rfl h1 rfl rfl (Nat.le_of_ble_eq_true rfl) dX8_barsAgainst_71 (fun r18 g18 q18 => ?_)
          obtain ⟨⟨v18, rfl, b18x⟩, hI18, hF18q⟩ := q18
          obtain rfl := zFr_nil hF18q
          simp only [Option.toList, List.cons_append, List.nil_append]
          refine z_if_ne (pc := 74) 82 C dX8_barsAgainst_74 (by decide) (fun h74_18 => ?_) (fun h74_18 => ?_)
          · skip
            have b20x : zB v18 1 1 := by have q1 := b18x; have q2 := (zB.of (x := 0) 0 (by decide)); simp only [z32lt, z32le, z32eq, Int32.reduceToInt, Int32.toInt_zero] at h74_18; constructor <;> omega
            exact ih3 v12 b12x v12 b12x g55_ hI55_ hF55_  (by omega)
          · skip
            have b21x : zB v18 0 0 := by have q1 := b18x; have q2 := (zB.of (x := 0) 0 (by decide)); simp only [z32lt, z32le, z32eq, Int32.reduceToInt, Int32.toInt_zero] at h74_18; constructor <;> omega
            refine z_bipush (pc := 77) (v := 8) C dX8_barsAgainst_77 (by decide) ?_
            refine z_goto (pc := 79) 83 C dX8_barsAgainst_79 (by decide) ?_
            exact ih4 v12 b12x v12 b12x 8 (zB.wk (a' := 0) (b' := 8) (zB.of (x := 8) 8 (by decide)) (by decide) (by decide)) g55_ hI55_ hF55_  (by have qc0 : (8 : Int32).toInt = 8 := (by decide); omega)
      · skip
        intro a82_3 b82_3 a82_s0 b82_s0 g82_ hI82_ hF82_ hM82_
        refine z_iconst (pc := 82) (v := 0) C dX8_barsAgainst_82 (by decide) ?_
        exact ih4 a82_3 b82_3 a82_s0 b82_s0 0 (zB.wk (a' := 0) (b' := 8) (zB.of (x := 0) 0 (by decide)) (by decide) (by decide)) g82_ hI82_ hF82_  (by have qc0 : (0 : Int32).toInt = 0 := (by decide); omega)
      · skip
        intro a83_3 b83_3 a83_s0 b83_s0 a83_s1 b83_s1 g83_ hI83_ hF83_ hM83_
        refine z_ior (pc := 83) C dX8_barsAgainst_83 ?_
        refine w_gb 0 15 (zor_b 4 b83_s0 b83_s1 (by decide) (by decide) (by decide) (by decide) (by decide)) (fun v22 b22x => ?_)
        refine z_istore_n (pc := 84) C dX8_barsAgainst_84 (by rw [hn]; decide) rfl ?_
        refine z_iload_n (pc := 85) C dX8_barsAgainst_85 rfl ?_
        refine z_aload_n (pc := 86) C dX8_barsAgainst_86 rfl ?_
        refine z_getI (pc := 87) C zf_X8_126 rfl rfl h2 dX8_barsAgainst_87 ?_
        refine w_gb 0 5 (hI83_ 8 _ 2) (fun v23 b23x => ?_)
        refine z_aload_n (pc := 90) C dX8_barsAgainst_90 rfl ?_
        refine z_getI (pc := 91) C zf_X8_107 rfl rfl h1 dX8_barsAgainst_91 ?_
        refine w_gb 0 5 (hI83_ 11 _ 1) (fun v24 b24x => ?_)
        refine z_icmp_ne (pc := 94) 102 C dX8_barsAgainst_94 (by decide) (fun h94_24 => ?_) (fun h94_24 => ?_)
        · skip
          refine z_iconst (pc := 102) (v := 0) C dX8_barsAgainst_102 (by decide) ?_
          exact ih5 v22 b22x v22 b22x 0 (zB.wk (a' := 0) (b' := 16) (zB.of (x := 0) 0 (by decide)) (by decide) (by decide)) g83_ hI83_ hF83_  (by have qc0 : (0 : Int32).toInt = 0 := (by decide); omega)
        · skip
          refine z_bipush (pc := 97) (v := 16) C dX8_barsAgainst_97 (by decide) ?_
          refine z_goto (pc := 99) 103 C dX8_barsAgainst_99 (by decide) ?_
          exact ih5 v22 b22x v22 b22x 16 (zB.wk (a' := 0) (b' := 16) (zB.of (x := 16) 16 (by decide)) (by decide) (by decide)) g83_ hI83_ hF83_  (by have qc0 : (16 : Int32).toInt = 16 := (by decide); omega)
      · skip
        intro a103_3 b103_3 a103_s0 b103_s0 a103_s1 b103_s1 g103_ hI103_ hF103_ hM103_
        refine z_ior (pc := 103) C dX8_barsAgainst_103 ?_
        refine w_gb 0 31 (zor_b 5 b103_s0 b103_s1 (by decide) (by decide) (by decide) (by decide) (by decide)) (fun v26 b26x => ?_)
        refine z_istore_n (pc := 104) C dX8_barsAgainst_104 (by rw [hn]; decide) rfl ?_
        refine z_iload_n (pc := 105) C dX8_barsAgainst_105 rfl ?_
        refine z_aload_n (pc := 106) C dX8_barsAgainst_106 rfl ?_
        refine z_getI (pc := 107) C zf_X8_127 rfl rfl h1 dX8_barsAgainst_107 ?_
        refine w_gb 0 31 (hI103_ 11 _ 5) (fun v27 b27x => ?_)
        refine z_iand (pc := 110) C dX8_barsAgainst_110 ?_
        refine w_gp (fun v => zB v 0 31 ∧ v.toInt ≤ v27.toInt) (zand_r b26x b27x (by decide)) (fun v28 e28 => ?_)
        have b28x := e28.1
        have r28 := e28.2
        refine z_istore_n (pc := 111) C dX8_barsAgainst_111 (by rw [hn]; decide) rfl ?_
        refine z_aload_n (pc := 112) C dX8_barsAgainst_112 rfl ?_
        refine z_getI (pc := 113) C zf_X8_130 rfl rfl h1 dX8_barsAgainst_113 ?_
        refine w_gb 0 99 (hI103_ 11 _ 6) (fun v29 b29x => ?_)
        refine z_if_eq (pc := 116) 145 C dX8_barsAgainst_116 (by decide) (fun h116_29 => ?_) (fun h116_29 => ?_)
        · skip
          have b31x : zB v29 0 0 := by have q1 := b29x; have q2 := (zB.of (x := 0) 0 (by decide)); simp only [z32lt, z32le, z32eq, Int32.reduceToInt, Int32.toInt_zero] at h116_29; constructor <;> omega
          exact ih6 v28 b28x g103_ hI103_ hF103_  (by omega)
        · skip
          have b32x : zB v29 1 99 := by have q1 := b29x; have q2 := (zB.of (x := 0) 0 (by decide)); simp only [z32lt, z32le, z32eq, Int32.reduceToInt, Int32.toInt_zero] at h116_29; constructor <;> omega
          refine z_aload_n (pc := 119) C dX8_barsAgainst_119 rfl ?_
          refine z_getR (pc := 120) C zf_X8_38 rfl rfl (by decide) dX8_barsAgainst_120 ?_
          refine z_getI (pc := 123) C zf_X8_133 rfl rfl (by decide) dX8_barsAgainst_123 ?_
          refine w_gb 0 99 (hI103_ 6 _ 2) (fun v33 b33x => ?_)
          refine z_aload_n (pc := 126) C dX8_barsAgainst_126 rfl ?_
          refine z_getI (pc := 127) C zf_X8_136 rfl rfl h2 dX8_barsAgainst_127 ?_
          refine w_gb 0 99 (hI103_ 8 _ 3) (fun v34 b34x => ?_)
          refine z_isub (pc := 130) C dX8_barsAgainst_130 ?_
          refine w_gp (fun v => v.toInt = v33.toInt - v34.toInt) (zsub_eb b33x b34x (by decide) (by decide)) (fun v35 e35 => ?_)
          have b35x : zB v35 (-99) 99 := by have q1 := b33x; have q2 := b34x; constructor <;> omega
          refine z_aload_n (pc := 131) C dX8_barsAgainst_131 rfl ?_
          refine z_getI (pc := 132) C zf_X8_130 rfl rfl h1 dX8_barsAgainst_132 ?_
          refine w_gb 0 99 (hI103_ 11 _ 6) (fun v36 b36x => ?_)
          refine z_icmp_le (pc := 135) 145 C dX8_barsAgainst_135 (by decide) (fun h135_36 => ?_) (fun h135_36 => ?_)
          · skip
            exact ih6 v28 b28x g103_ hI103_ hF103_  (by omega)
          · skip
            have b38x : zB v35 1 99 := by have q1 := b35x; have q2 := b36x; simp only [z32lt, z32le, z32eq, Int32.reduceToInt, Int32.toInt_zero] at h135_36; constructor <;> omega
            have b39x : zB v36 0 98 := by have q1 := b35x; have q2 := b36x; simp only [z32lt, z32le, z32eq, Int32.reduceToInt, Int32.toInt_zero] at h135_36; constructor <;> omega
            refine z_iload_n (pc := 138) C dX8_barsAgainst_138 rfl ?_
            refine z_bipush (pc := 139) (v := 32) C dX8_barsAgainst_139 (by decide) ?_
            refine z_ior (pc := 141) C dX8_barsAgainst_141 ?_
            refine w_gb 0 63 (zor_b 6 b28x (zB.of (x := 32) 32 (by decide)) (by decide) (by decide) (by decide) (by decide) (by decide)) (fun v40 b40x => ?_)
            refine z_goto (pc := 142) 146 C dX8_barsAgainst_142 (by decide) ?_
            exact ih7 v28 b28x v40 b40x g103_ hI103_ hF103_  (by omega)
      · skip
        intro a145_3 b145_3 g145_ hI145_ hF145_ hM145_
        refine z_iload_n (pc := 145) C dX8_barsAgainst_145 rfl ?_
        exact ih7 a145_3 b145_3 a145_3 (zB.wk (a' := 0) (b' := 63) b145_3 (by decide) (by decide)) g145_ hI145_ hF145_  (by omega)
      · skip
        intro a146_3 b146_3 a146_s0 b146_s0 g146_ hI146_ hF146_ hM146_
        exact z_iret (pc := 146) C hr dX8_barsAgainst_146 ⟨⟨_, rfl, b146_s0⟩, hI146_, hF146_⟩
  obtain ⟨J0, J1, J2, J3, J4, J5, J6, J7⟩ := J 19
  show Z X 0 [some (zr 1 0), some (zr 11 m1), some (zr 8 m2), none] [] f
  refine z_iconst (pc := 0) (v := 0) C dX8_barsAgainst_0 (by decide) ?_
  refine z_istore_n (pc := 1) C dX8_barsAgainst_1 (by rw [hn]; decide) rfl ?_
  refine z_iload_n (pc := 2) C dX8_barsAgainst_2 rfl ?_
  refine z_aload_n (pc := 3) C dX8_barsAgainst_3 rfl ?_
  refine z_getR (pc := 4) C zf_X8_38 rfl rfl (by decide) dX8_barsAgainst_4 ?_
  refine z_getI (pc := 7) C zf_X8_104 rfl rfl (by decide) dX8_barsAgainst_7 ?_
  refine w_gb 0 5 (hI 6 _ 0) (fun v41 b41x => ?_)
  refine z_aload_n (pc := 10) C dX8_barsAgainst_10 rfl ?_
  refine z_getI (pc := 11) C zf_X8_107 rfl rfl h1 dX8_barsAgainst_11 ?_
  refine w_gb 0 5 (hI 11 _ 1) (fun v42 b42x => ?_)
  refine z_icmp_ne (pc := 14) 21 C dX8_barsAgainst_14 (by decide) (fun h14_42 => ?_) (fun h14_42 => ?_)
  · skip
    refine z_iconst (pc := 21) (v := 0) C dX8_barsAgainst_21 (by decide) ?_
    exact J0 0 (zB.wk (a' := 0) (b' := 1) (zB.of (x := 0) 0 (by decide)) (by decide) (by decide)) f hI hF  (by have qc0 : (0 : Int32).toInt = 0 := (by decide); omega)
  · skip
    refine z_iconst (pc := 17) (v := 1) C dX8_barsAgainst_17 (by decide) ?_
    refine z_goto (pc := 18) 22 C dX8_barsAgainst_18 (by decide) ?_
    exact J0 1 (zB.wk (a' := 0) (b' := 1) (zB.of (x := 1) 1 (by decide)) (by decide) (by decide)) f hI hF  (by have qc0 : (0 : Int32).toInt = 0 := (by decide); have qc1 : (1 : Int32).toInt = 1 := (by decide); omega)

set_option maxRecDepth 100000 in
set_option maxHeartbeats 4000000 in
theorem w_X8_weigh (d : Nat) (f : zM) (m1 : Nat) (h1 : m1 < zcnt 11) (hI : zInv f) : ZM (d + 2) yX8_weigh cX8_weigh 4 none [zr 1 0, zr 11 m1] f (fun r g => r = none ∧ zInv g ∧ zFr [(11, some 8), (11, some 9)] f g) := by
  refine ZM.intro (by decide +kernel) (Nat.le_of_ble_eq_true rfl) ?_
  intro X C hr hn
  have hF : zFr [(11, some 8), (11, some 9)] f f := zFr.rf _ _
  have J : ∀ t : Nat, (∀ a12_2 : Int32, zB a12_2 0 8 → ∀ g : zM, zInv g → zFr [(11, some 8), (11, some 9)] f g → (3 + 6 * (8 - a12_2.toInt) : Int) < t → Z X 12 [some (zr 1 0), some (zr 11 m1), some (zi a12_2), none] [] g) ∧ (∀ a55_2 : Int32, zB a55_2 0 7 → ∀ m55_3 : Nat, m55_3 < zcnt 8 → ∀ m55_s0 : Nat, m55_s0 < zcnt 11 → ∀ a55_s1 : Int32, zB a55_s1 0 255 → ∀ g : zM, zInv g → zFr [(11, some 8), (11, some 9)] f g → (2 + 6 * (8 - a55_2.toInt) : Int) < t → Z X 55 [some (zr 1 0), some (zr 11 m1), some (zi a55_2), some (zr 8 m55_3)] [zi a55_s1, zr 11 m55_s0] g) ∧ (∀ a56_2 : Int32, zB a56_2 0 7 → ∀ m56_3 : Nat, m56_3 < zcnt 8 → ∀ m56_s0 : Nat, m56_s0 < zcnt 11 → ∀ a56_s1 : Int32, zB a56_s1 0 255 → ∀ a56_s2 : Int32, zB a56_s2 0 128 → ∀ g : zM, zInv g → zFr [(11, some 8), (11, some 9)] f g → (1 + 6 * (8 - a56_2.toInt) : Int) < t → Z X 56 [some (zr 1 0), some (zr 11 m1), some (zi a56_2), some (zr 8 m56_3)] [zi a56_s2, zi a56_s1, zr 11 m56_s0] g) ∧ (∀ a83_2 : Int32, zB a83_2 0 7 → ∀ m83_3 : Nat, m83_3 < zcnt 8 → ∀ m83_s0 : Nat, m83_s0 < zcnt 11 → ∀ a83_s1 : Int32, zB a83_s1 0 255 → ∀ a83_s2 : Int32, zB a83_s2 0 128 → ∀ g : zM, zInv g → zFr [(11, some 8), (11, some 9)] f g → (0 + 6 * (8 - a83_2.toInt) : Int) < t → Z X 83 [some (zr 1 0), some (zr 11 m1), some (zi a83_2), some (zr 8 m83_3)] [zi a83_s2, zi a83_s1, zr 11 m83_s0] g) := by
    intro t
    induction t with
    | zero =>
      refine ⟨?_, ?_, ?_, ?_⟩ <;> (intros; exfalso; omega)
    | succ t ih =>
      obtain ⟨ih0, ih1, ih2, ih3⟩ := ih
      refine ⟨?_, ?_, ?_, ?_⟩
      · skip
        intro a12_2 b12_2 g12_ hI12_ hF12_ hM12_
        refine z_iload_n (pc := 12) C dX8_weigh_12 rfl ?_
        refine z_aload_n (pc := 13) C dX8_weigh_13 rfl ?_
        refine z_getI (pc := 14) C zf_X8_54 rfl rfl (by decide) dX8_weigh_14 ?_
        refine w_gb 0 8 (hI12_ 1 _ 6) (fun v1 b1x => ?_)
        refine z_icmp_ge (pc := 17) 93 C dX8_weigh_17 (by decide) (fun h17_1 => ?_) (fun h17_1 => ?_)
        · skip
          exact z_vret (pc := 93) C hr dX8_weigh_93 ⟨rfl, hI12_, hF12_⟩
        · skip
          have b3x : zB a12_2 0 7 := by have q1 := b12_2; have q2 := b1x; simp only [z32lt, z32le, z32eq, Int32.reduceToInt, Int32.toInt_zero] at h17_1; constructor <;> omega
          have b4x : zB v1 1 8 := by have q1 := b12_2; have q2 := b1x; simp only [z32lt, z32le, z32eq, Int32.reduceToInt, Int32.toInt_zero] at h17_1; constructor <;> omega
          refine z_aload_n (pc := 20) C dX8_weigh_20 rfl ?_
          refine z_getR (pc := 21) C zf_X8_19 rfl rfl (by decide) dX8_weigh_21 ?_
          refine z_iload_n (pc := 24) C dX8_weigh_24 rfl ?_
          refine z_aald (pc := 25) C rfl ⟨rfl, by decide⟩ (by decide) (zIx b3x (by decide) (by decide)) dX8_weigh_25 ?_
          refine w_gr (by have hq := zN b3x (by decide); show 8 * 0 + a12_2.toNatClampNeg < 16; omega) (fun m5 h5x => ?_)
          refine z_astore_n (pc := 26) C dX8_weigh_26 (by rw [hn]; decide) rfl ?_
          refine z_aload_n (pc := 27) C dX8_weigh_27 rfl ?_
          refine z_dupr (pc := 28) C dX8_weigh_28 ?_
          refine z_getI (pc := 29) C zf_X8_137 rfl rfl h1 dX8_weigh_29 ?_
          refine w_gb 0 255 (hI12_ 11 _ 8) (fun v6 b6x => ?_)
          refine z_aload_n (pc := 32) C dX8_weigh_32 rfl ?_
          refine z_aload_n (pc := 33) C dX8_weigh_33 rfl ?_
          refine z_callV (pc := 34) C zk_X8_100 (w_X4_isFor _ _ m1 h1 m5 h5x hI12_) rfl rfl h1 rfl rfl (Nat.le_of_ble_eq_true rfl) dX8_weigh_34 (fun r7 g7 q7 => ?_)
          obtain ⟨⟨v7, rfl, b7x⟩, hI7, hF7q⟩ := q7
          obtain rfl := zFr_nil hF7q
          simp only [Option.toList, List.cons_append, List.nil_append]
          refine z_if_eq (pc := 37) 55 C dX8_weigh_37 (by decide) (fun h37_7 => ?_) (fun h37_7 => ?_)
          · skip
            have b9x : zB v7 0 0 := by have q1 := b7x; have q2 := (zB.of (x := 0) 0 (by decide)); simp only [z32lt, z32le, z32eq, Int32.reduceToInt, Int32.toInt_zero] at h37_7; constructor <;> omega
            exact ih1 a12_2 b3x m5 h5x m1 h1 v6 b6x g12_ hI12_ hF12_  (by omega)
          · skip
            have b10x : zB v7 1 1 := by have q1 := b7x; have q2 := (zB.of (x := 0) 0 (by decide)); simp only [z32lt, z32le, z32eq, Int32.reduceToInt, Int32.toInt_zero] at h37_7; constructor <;> omega
            refine z_aload_n (pc := 40) C dX8_weigh_40 rfl ?_
            refine z_aload_n (pc := 41) C dX8_weigh_41 rfl ?_
            refine z_aload_n (pc := 42) C dX8_weigh_42 rfl ?_
            refine z_callV (pc := 43) C zk_X8_143 (w_X8_barsAgainst _ _ m1 h1 m5 h5x hI12_) rfl rfl (by decide) rfl rfl (Nat.le_of_ble_eq_true rfl) dX8_weigh_43 (fun r11 g11 q11 => ?_)
            obtain ⟨⟨v11, rfl, b11x⟩, hI11, hF11q⟩ := q11
            obtain rfl := zFr_nil hF11q
            simp only [Option.toList, List.cons_append, List.nil_append]
            refine z_if_ne (pc := 46) 55 C dX8_weigh_46 (by decide) (fun h46_11 => ?_) (fun h46_11 => ?_)
            · skip
              have b13x : zB v11 1 63 := by have q1 := b11x; have q2 := (zB.of (x := 0) 0 (by decide)); simp only [z32lt, z32le, z32eq, Int32.reduceToInt, Int32.toInt_zero] at h46_11; constructor <;> omega
              exact ih1 a12_2 b3x m5 h5x m1 h1 v6 b6x g12_ hI12_ hF12_  (by omega)
            · skip
              have b14x : zB v11 0 0 := by have q1 := b11x; have q2 := (zB.of (x := 0) 0 (by decide)); simp only [z32lt, z32le, z32eq, Int32.reduceToInt, Int32.toInt_zero] at h46_11; constructor <;> omega
              refine z_iconst (pc := 49) (v := 1) C dX8_weigh_49 (by decide) ?_
              refine z_iload_n (pc := 50) C dX8_weigh_50 rfl ?_
              refine z_ishl (pc := 51) C dX8_weigh_51 ?_
              refine w_gb 0 128 (zshl_b b3x 7 (by decide) (by decide)) (fun v15 b15x => ?_)
              refine z_goto (pc := 52) 56 C dX8_weigh_52 (by decide) ?_
              exact ih2 a12_2 b3x m5 h5x m1 h1 v6 b6x v15 b15x g12_ hI12_ hF12_  (by omega)
      · skip
        intro a55_2 b55_2 m55_3 h55_3 m55_s0 h55_s0 a55_s1 b55_s1 g55_ hI55_ hF55_ hM55_
        refine z_iconst (pc := 55) (v := 0) C dX8_weigh_55 (by decide) ?_
        exact ih2 a55_2 b55_2 m55_3 h55_3 m55_s0 h55_s0 a55_s1 b55_s1 0 (zB.wk (a' := 0) (b' := 128) (zB.of (x := 0) 0 (by decide)) (by decide) (by decide)) g55_ hI55_ hF55_  (by have qc0 : (0 : Int32).toInt = 0 := (by decide); omega)
      · skip
        intro a56_2 b56_2 m56_3 h56_3 m56_s0 h56_s0 a56_s1 b56_s1 a56_s2 b56_s2 g56_ hI56_ hF56_ hM56_
        refine z_ior (pc := 56) C dX8_weigh_56 ?_
        refine w_gb 0 255 (zor_b 8 b56_s1 b56_s2 (by decide) (by decide) (by decide) (by decide) (by decide)) (fun v16 b16x => ?_)
        refine z_putI (pc := 57) C zf_X8_137 zp_4_8 rfl rfl h56_s0 dX8_weigh_57 ?_
        refine w_mem hI56_ hF56_ b16x rfl (fun g17 hI17 hF17 => ?_)
        refine z_aload_n (pc := 60) C dX8_weigh_60 rfl ?_
        refine z_dupr (pc := 61) C dX8_weigh_61 ?_
        refine z_getI (pc := 62) C zf_X8_140 rfl rfl h1 dX8_weigh_62 ?_
        refine w_gb 0 255 (hI17 11 _ 9) (fun v18 b18x => ?_)
        refine z_aload_n (pc := 65) C dX8_weigh_65 rfl ?_
        refine z_aload_n (pc := 66) C dX8_weigh_66 rfl ?_
        refine z_getI (pc := 67) C zf_X8_117 rfl rfl h1 dX8_weigh_67 ?_
        refine w_gb 0 5 (hI17 11 _ 2) (fun v19 b19x => ?_)
        refine z_callV (pc := 70) C zk_X8_120 (w_X1_isDeadly _ _ m56_3 h56_3 v19 b19x hI17) rfl rfl h56_3 rfl rfl (Nat.le_of_ble_eq_true rfl) dX8_weigh_70 (fun r20 g20 q20 => ?_)
        obtain ⟨⟨v20, rfl, b20x⟩, hI20, hF20q⟩ := q20
        obtain rfl := zFr_nil hF20q
        simp only [Option.toList, List.cons_append, List.nil_append]
        refine z_if_eq (pc := 73) 82 C dX8_weigh_73 (by decide) (fun h73_20 => ?_) (fun h73_20 => ?_)
        · skip
          have b22x : zB v20 0 0 := by have q1 := b20x; have q2 := (zB.of (x := 0) 0 (by decide)); simp only [z32lt, z32le, z32eq, Int32.reduceToInt, Int32.toInt_zero] at h73_20; constructor <;> omega
          refine z_iconst (pc := 82) (v := 0) C dX8_weigh_82 (by decide) ?_
          exact ih3 a56_2 b56_2 m56_3 h56_3 m1 h1 v18 b18x 0 (zB.wk (a' := 0) (b' := 128) (zB.of (x := 0) 0 (by decide)) (by decide) (by decide)) g17 hI17 hF17  (by have qc0 : (0 : Int32).toInt = 0 := (by decide); omega)
        · skip
          have b23x : zB v20 1 1 := by have q1 := b20x; have q2 := (zB.of (x := 0) 0 (by decide)); simp only [z32lt, z32le, z32eq, Int32.reduceToInt, Int32.toInt_zero] at h73_20; constructor <;> omega
          refine z_iconst (pc := 76) (v := 1) C dX8_weigh_76 (by decide) ?_
          refine z_iload_n (pc := 77) C dX8_weigh_77 rfl ?_
          refine z_ishl (pc := 78) C dX8_weigh_78 ?_
          refine w_gb 0 128 (zshl_b b56_2 7 (by decide) (by decide)) (fun v24 b24x => ?_)
          refine z_goto (pc := 79) 83 C dX8_weigh_79 (by decide) ?_
          exact ih3 a56_2 b56_2 m56_3 h56_3 m1 h1 v18 b18x v24 b24x g17 hI17 hF17  (by omega)
      · skip
        intro a83_2 b83_2 m83_3 h83_3 m83_s0 h83_s0 a83_s1 b83_s1 a83_s2 b83_s2 g83_ hI83_ hF83_ hM83_
        refine z_ior (pc := 83) C dX8_weigh_83 ?_
        refine w_gb 0 255 (zor_b 8 b83_s1 b83_s2 (by decide) (by decide) (by decide) (by decide) (by decide)) (fun v25 b25x => ?_)
        refine z_putI (pc := 84) C zf_X8_140 zp_4_9 rfl rfl h83_s0 dX8_weigh_84 ?_
        refine w_mem hI83_ hF83_ b25x rfl (fun g26 hI26 hF26 => ?_)
        refine z_iinc (pc := 87) (v := 1) C dX8_weigh_87 rfl (by decide) (by rw [hn]; decide) rfl ?_
        obtain ⟨v27, hv27, e27⟩ : ∃ v : Int32, v = a83_2 + 1 ∧ v.toInt = a83_2.toInt + 1 := ⟨_, rfl, zadd_eb b83_2 (zB.of (x := 1) 1 (by decide)) (by decide) (by decide)⟩
        rw [← hv27]
        have b27x : zB v27 1 8 := by have q9 := b83_2; constructor <;> omega
        refine z_goto (pc := 90) 12 C dX8_weigh_90 (by decide) ?_
        refine w_mask [3] ?_
        exact ih0 v27 (zB.wk (a' := 0) (b' := 8) b27x (by decide) (by decide)) g26 hI26 hF26  (by omega)
  obtain ⟨J0, J1, J2, J3⟩ := J 69
  show Z X 0 [some (zr 1 0), some (zr 11 m1), none, none] [] f
  refine z_aload_n (pc := 0) C dX8_weigh_0 rfl ?_
  refine z_iconst (pc := 1) (v := 0) C dX8_weigh_1 (by decide) ?_
  refine z_putI (pc := 2) C zf_X8_137 zp_4_8 rfl rfl h1 dX8_weigh_2 ?_
  refine w_mem hI hF (zB.wk (a' := 0) (b' := 255) (zB.of (x := 0) 0 (by decide)) (by decide) (by decide)) rfl (fun g28 hI28 hF28 => ?_)
  refine z_aload_n (pc := 5) C dX8_weigh_5 rfl ?_
  refine z_iconst (pc := 6) (v := 0) C dX8_weigh_6 (by decide) ?_
  refine z_putI (pc := 7) C zf_X8_140 zp_4_9 rfl rfl h1 dX8_weigh_7 ?_
  refine w_mem hI28 hF28 (zB.wk (a' := 0) (b' := 255) (zB.of (x := 0) 0 (by decide)) (by decide) (by decide)) rfl (fun g29 hI29 hF29 => ?_)
  refine z_iconst (pc := 10) (v := 0) C dX8_weigh_10 (by decide) ?_
  refine z_istore_n (pc := 11) C dX8_weigh_11 (by rw [hn]; decide) rfl ?_
  exact J0 0 (zB.wk (a' := 0) (b' := 8) (zB.of (x := 0) 0 (by decide)) (by decide) (by decide)) g29 hI29 hF29  (by have qc0 : (0 : Int32).toInt = 0 := (by decide); omega)

set_option maxRecDepth 100000 in
set_option maxHeartbeats 4000000 in
theorem w_X8_weighAll (d : Nat) (f : zM)  (hI : zInv f) : ZM (d + 3) yX8_weighAll cX8_weighAll 2 none [zr 1 0] f (fun r g => r = none ∧ zInv g ∧ zFr [(11, some 8), (11, some 9)] f g) := by
  refine ZM.intro (by decide +kernel) (Nat.le_of_ble_eq_true rfl) ?_
  intro X C hr hn
  have hF : zFr [(11, some 8), (11, some 9)] f f := zFr.rf _ _
  have J : ∀ t : Nat, (∀ a2_1 : Int32, zB a2_1 0 12 → ∀ g : zM, zInv g → zFr [(11, some 8), (11, some 9)] f g → (0 + 3 * (12 - a2_1.toInt) : Int) < t → Z X 2 [some (zr 1 0), some (zi a2_1)] [] g) := by
    intro t
    induction t with
    | zero =>
      intros; exfalso; omega
    | succ t ih =>
      have ih0 := ih
      intro a2_1 b2_1 g2_ hI2_ hF2_ hM2_
      refine z_iload_n (pc := 2) C dX8_weighAll_2 rfl ?_
      refine z_aload_n (pc := 3) C dX8_weighAll_3 rfl ?_
      refine z_getI (pc := 4) C zf_X8_64 rfl rfl (by decide) dX8_weighAll_4 ?_
      refine w_gb 0 12 (hI2_ 1 _ 7) (fun v1 b1x => ?_)
      refine z_icmp_ge (pc := 7) 26 C dX8_weighAll_7 (by decide) (fun h7_1 => ?_) (fun h7_1 => ?_)
      · skip
        exact z_vret (pc := 26) C hr dX8_weighAll_26 ⟨rfl, hI2_, hF2_⟩
      · skip
        have b3x : zB a2_1 0 11 := by have q1 := b2_1; have q2 := b1x; simp only [z32lt, z32le, z32eq, Int32.reduceToInt, Int32.toInt_zero] at h7_1; constructor <;> omega
        have b4x : zB v1 1 12 := by have q1 := b2_1; have q2 := b1x; simp only [z32lt, z32le, z32eq, Int32.reduceToInt, Int32.toInt_zero] at h7_1; constructor <;> omega
        refine z_aload_n (pc := 10) C dX8_weighAll_10 rfl ?_
        refine z_aload_n (pc := 11) C dX8_weighAll_11 rfl ?_
        refine z_getR (pc := 12) C zf_X8_25 rfl rfl (by decide) dX8_weighAll_12 ?_
        refine z_iload_n (pc := 15) C dX8_weighAll_15 rfl ?_
        refine z_aald (pc := 16) C rfl ⟨rfl, by decide⟩ (by decide) (zIx b3x (by decide) (by decide)) dX8_weighAll_16 ?_
        refine w_gr (by have hq := zN b3x (by decide); show 12 * 0 + a2_1.toNatClampNeg < 36; omega) (fun m5 h5x => ?_)
        refine z_callV (pc := 17) C zk_X8_147 (w_X8_weigh _ _ m5 h5x hI2_) rfl rfl (by decide) rfl rfl (Nat.le_of_ble_eq_true rfl) dX8_weighAll_17 (fun r6 g6 q6 => ?_)
        obtain ⟨rfl, hI6, hF6q⟩ := q6
        have hF6 := zFr.tr hF2_ hF6q (by decide)
        simp only [Option.toList, List.cons_append, List.nil_append]
        refine z_iinc (pc := 20) (v := 1) C dX8_weighAll_20 rfl (by decide) (by rw [hn]; decide) rfl ?_
        obtain ⟨v7, hv7, e7⟩ : ∃ v : Int32, v = a2_1 + 1 ∧ v.toInt = a2_1.toInt + 1 := ⟨_, rfl, zadd_eb b3x (zB.of (x := 1) 1 (by decide)) (by decide) (by decide)⟩
        rw [← hv7]
        have b7x : zB v7 1 12 := by have q9 := b3x; constructor <;> omega
        refine z_goto (pc := 23) 2 C dX8_weighAll_23 (by decide) ?_
        exact ih0 v7 (zB.wk (a' := 0) (b' := 12) b7x (by decide) (by decide)) g6 hI6 hF6  (by omega)
  have J0 := J 51
  show Z X 0 [some (zr 1 0), none] [] f
  refine z_iconst (pc := 0) (v := 0) C dX8_weighAll_0 (by decide) ?_
  refine z_istore_n (pc := 1) C dX8_weighAll_1 (by rw [hn]; decide) rfl ?_
  exact J0 0 (zB.wk (a' := 0) (b' := 12) (zB.of (x := 0) 0 (by decide)) (by decide) (by decide)) f hI hF  (by have qc0 : (0 : Int32).toInt = 0 := (by decide); omega)
