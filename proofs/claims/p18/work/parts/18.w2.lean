set_option maxRecDepth 100000 in
set_option maxHeartbeats 4000000 in
theorem w_X8_barsAgainst (d : Nat) (f : zM) (m1 : Nat) (h1 : m1 < zcnt 11) (m2 : Nat) (h2 : m2 < zcnt 8) (hI : zInv f) : ZM (d + 1) yX8_barsAgainst cX8_barsAgainst 4 (some .int) [zr 1 0, zr 11 m1, zr 8 m2] f (fun r g => (∃ v, r = some (zi v) ∧ zB v 0 63) ∧ zInv g ∧ zFr [] f g) := by
  refine ZM.intro (by decide +kernel) (Nat.le_of_ble_eq_true rfl) ?_
  intro X C hr hn
  have hF : zFr [] f f := zFr.rf _ _
  have J : ∀ t : Nat, (∀ a22_s1 : Int32, zB a22_s1 0 1 → ∀ g : zM, zInv g → zFr [] f g → (7 : Int) < t → Z X 22 [some (zr 1 0), some (zr 11 m1), some (zr 8 m2), some (zi 0)] [zi a22_s1, zi 0] g) ∧ (∀ a37_3 : Int32, zB a37_3 0 1 → ∀ a37_s0 : Int32, zB a37_s0 0 1 → ∀ a37_s1 : Int32, zB a37_s1 0 2 → ∀ g : zM, zInv g → zFr [] f g → (6 : Int) < t → Z X 37 [some (zr 1 0), some (zr 11 m1), some (zr 8 m2), some (zi a37_3)] [zi a37_s1, zi a37_s0] g) ∧ (∀ a55_3 : Int32, zB a55_3 0 3 → ∀ a55_s0 : Int32, zB a55_s0 0 3 → ∀ a55_s1 : Int32, zB a55_s1 0 4 → ∀ g : zM, zInv g → zFr [] f g → (5 : Int) < t → Z X 55 [some (zr 1 0), some (zr 11 m1), some (zr 8 m2), some (zi a55_3)] [zi a55_s1, zi a55_s0] g) ∧ (∀ a82_3 : Int32, zB a82_3 0 7 → ∀ a82_s0 : Int32, zB a82_s0 0 7 → ∀ g : zM, zInv g → zFr [] f g → (4 : Int) < t → Z X 82 [some (zr 1 0), some (zr 11 m1), some (zr 8 m2), some (zi a82_3)] [zi a82_s0] g) ∧ (∀ a83_3 : Int32, zB a83_3 0 7 → ∀ a83_s0 : Int32, zB a83_s0 0 7 → ∀ a83_s1 : Int32, zB a83_s1 0 8 → ∀ g : zM, zInv g → zFr [] f g → (3 : Int) < t → Z X 83 [some (zr 1 0), some (zr 11 m1), some (zr 8 m2), some (zi a83_3)] [zi a83_s1, zi a83_s0] g) ∧ (∀ a103_3 : Int32, zB a103_3 0 15 → ∀ a103_s0 : Int32, zB a103_s0 0 15 → ∀ a103_s1 : Int32, zB a103_s1 0 16 → ∀ g : zM, zInv g → zFr [] f g → (2 : Int) < t → Z X 103 [some (zr 1 0), some (zr 11 m1), some (zr 8 m2), some (zi a103_3)] [zi a103_s1, zi a103_s0] g) ∧ (∀ a145_3 : Int32, zB a145_3 0 31 → ∀ g : zM, zInv g → zFr [] f g → (1 : Int) < t → Z X 145 [some (zr 1 0), some (zr 11 m1), some (zr 8 m2), some (zi a145_3)] [] g) ∧ (∀ a146_3 : Int32, zB a146_3 0 31 → ∀ a146_s0 : Int32, zB a146_s0 0 63 → ∀ g : zM, zInv g → zFr [] f g → (0 : Int) < t → Z X 146 [some (zr 1 0), some (zr 11 m1), some (zr 8 m2), some (zi a146_3)] [zi a146_s0] g) := by
    intro t
    induction t with
    | zero =>
      refine ⟨?_, ?_, ?_, ?_, ?_, ?_, ?_, ?_⟩ <;> (intros; exfalso; omega)
    | succ t ih =>
      obtain ⟨ih0, ih1, ih2, ih3, ih4, ih5, ih6, ih7⟩ := ih
      refine ⟨?_, ?_, ?_, ?_, ?_, ?_, ?_, ?_⟩
      · skip
        intro a22_s1 b22_s1 g22_ hI22_ hF22_ hM22_
        refine z_ior (pc := 22) C dX8_barsAgainst_22 ?_
        refine w_gb 0 1 (zor_b 1 (zB.of (x := 0) 0 (by decide)) b22_s1 (by decide) (by decide) (by decide) (by decide) (by decide)) (fun v1 b1x => ?_)
        refine z_istore_n (pc := 23) C dX8_barsAgainst_23 (by rw [hn]; decide) rfl ?_
        refine z_iload_n (pc := 24) C dX8_barsAgainst_24 rfl ?_
        refine z_aload_n (pc := 25) C dX8_barsAgainst_25 rfl ?_
        refine z_getI (pc := 26) C zf_X8_110 rfl rfl h2 dX8_barsAgainst_26 ?_
        refine w_gb 0 1 (hI22_ 8 _ 4) (fun v2 b2x => ?_)
        refine z_if_eq (pc := 29) 36 C dX8_barsAgainst_29 (by decide) (fun h29_2 => ?_) (fun h29_2 => ?_)
        · skip
          have b4x : zB v2 0 0 := by have q1 := b2x; have q2 := (zB.of (x := 0) 0 (by decide)); simp only [z32lt, z32le, z32eq, Int32.reduceToInt, Int32.toInt_zero] at h29_2; constructor <;> omega
          refine z_iconst (pc := 36) (v := 0) C dX8_barsAgainst_36 (by decide) ?_
          exact ih1 v1 b1x v1 b1x 0 (zB.wk (a' := 0) (b' := 2) (zB.of (x := 0) 0 (by decide)) (by decide) (by decide)) g22_ hI22_ hF22_  (by have qc0 : (0 : Int32).toInt = 0 := (by decide); omega)
        · skip
          have b5x : zB v2 1 1 := by have q1 := b2x; have q2 := (zB.of (x := 0) 0 (by decide)); simp only [z32lt, z32le, z32eq, Int32.reduceToInt, Int32.toInt_zero] at h29_2; constructor <;> omega
          refine z_iconst (pc := 32) (v := 2) C dX8_barsAgainst_32 (by decide) ?_
          refine z_goto (pc := 33) 37 C dX8_barsAgainst_33 (by decide) ?_
          exact ih1 v1 b1x v1 b1x 2 (zB.wk (a' := 0) (b' := 2) (zB.of (x := 2) 2 (by decide)) (by decide) (by decide)) g22_ hI22_ hF22_  (by have qc0 : (2 : Int32).toInt = 2 := (by decide); omega)
      · skip
        intro a37_3 b37_3 a37_s0 b37_s0 a37_s1 b37_s1 g37_ hI37_ hF37_ hM37_
        refine z_ior (pc := 37) C dX8_barsAgainst_37 ?_
        refine w_gb 0 3 (zor_b 2 b37_s0 b37_s1 (by decide) (by decide) (by decide) (by decide) (by decide)) (fun v6 b6x => ?_)
        refine z_istore_n (pc := 38) C dX8_barsAgainst_38 (by rw [hn]; decide) rfl ?_
        refine z_iload_n (pc := 39) C dX8_barsAgainst_39 rfl ?_
        refine z_aload_n (pc := 40) C dX8_barsAgainst_40 rfl ?_
        refine z_getI (pc := 41) C zf_X8_114 rfl rfl h2 dX8_barsAgainst_41 ?_
        refine w_gb 0 63 (hI37_ 8 _ 0) (fun v7 b7x => ?_)
        refine z_bipush (pc := 44) (v := 32) C dX8_barsAgainst_44 (by decide) ?_
        refine z_iand (pc := 46) C dX8_barsAgainst_46 ?_
        refine w_gb 0 32 (zand_b b7x (zB.of (x := 32) 32 (by decide)) (by decide)) (fun v8 b8x => ?_)
        refine z_if_eq (pc := 47) 54 C dX8_barsAgainst_47 (by decide) (fun h47_8 => ?_) (fun h47_8 => ?_)
        · skip
          have b10x : zB v8 0 0 := by have q1 := b8x; have q2 := (zB.of (x := 0) 0 (by decide)); simp only [z32lt, z32le, z32eq, Int32.reduceToInt, Int32.toInt_zero] at h47_8; constructor <;> omega
          refine z_iconst (pc := 54) (v := 0) C dX8_barsAgainst_54 (by decide) ?_
          exact ih2 v6 b6x v6 b6x 0 (zB.wk (a' := 0) (b' := 4) (zB.of (x := 0) 0 (by decide)) (by decide) (by decide)) g37_ hI37_ hF37_  (by have qc0 : (0 : Int32).toInt = 0 := (by decide); omega)
        · skip
          have b11x : zB v8 1 32 := by have q1 := b8x; have q2 := (zB.of (x := 0) 0 (by decide)); simp only [z32lt, z32le, z32eq, Int32.reduceToInt, Int32.toInt_zero] at h47_8; constructor <;> omega
          refine z_iconst (pc := 50) (v := 4) C dX8_barsAgainst_50 (by decide) ?_
          refine z_goto (pc := 51) 55 C dX8_barsAgainst_51 (by decide) ?_
          exact ih2 v6 b6x v6 b6x 4 (zB.wk (a' := 0) (b' := 4) (zB.of (x := 4) 4 (by decide)) (by decide) (by decide)) g37_ hI37_ hF37_  (by have qc0 : (4 : Int32).toInt = 4 := (by decide); omega)
      · skip
        intro a55_3 b55_3 a55_s0 b55_s0 a55_s1 b55_s1 g55_ hI55_ hF55_ hM55_
        refine z_ior (pc := 55) C dX8_barsAgainst_55 ?_
        refine w_gb 0 7 (zor_b 3 b55_s0 b55_s1 (by decide) (by decide) (by decide) (by decide) (by decide)) (fun v12 b12x => ?_)
        refine z_istore_n (pc := 56) C dX8_barsAgainst_56 (by rw [hn]; decide) rfl ?_
        refine z_iload_n (pc := 57) C dX8_barsAgainst_57 rfl ?_
        refine z_aload_n (pc := 58) C dX8_barsAgainst_58 rfl ?_
        refine z_aload_n (pc := 59) C dX8_barsAgainst_59 rfl ?_
        refine z_getI (pc := 60) C zf_X8_117 rfl rfl h1 dX8_barsAgainst_60 ?_
        refine w_gb 0 5 (hI55_ 11 _ 2) (fun v13 b13x => ?_)
        refine z_callV (pc := 63) C zk_X8_120 (w_X1_isDeadly _ _ m2 h2 v13 b13x hI55_) rfl rfl h2 rfl rfl (Nat.le_of_ble_eq_true rfl) dX8_barsAgainst_63 (fun r14 g14 q14 => ?_)
        obtain ⟨⟨v14, rfl, b14x⟩, hI14, hF14q⟩ := q14
        obtain rfl := zFr_nil hF14q
        simp only [Option.toList, List.cons_append, List.nil_append]
        refine z_if_eq (pc := 66) 82 C dX8_barsAgainst_66 (by decide) (fun h66_14 => ?_) (fun h66_14 => ?_)
        · skip
          have b16x : zB v14 0 0 := by have q1 := b14x; have q2 := (zB.of (x := 0) 0 (by decide)); simp only [z32lt, z32le, z32eq, Int32.reduceToInt, Int32.toInt_zero] at h66_14; constructor <;> omega
          exact ih3 v12 b12x v12 b12x g55_ hI55_ hF55_  (by omega)
        · skip
          have b17x : zB v14 1 1 := by have q1 := b14x; have q2 := (zB.of (x := 0) 0 (by decide)); simp only [z32lt, z32le, z32eq, Int32.reduceToInt, Int32.toInt_zero] at h66_14; constructor <;> omega
          refine z_aload_n (pc := 69) C dX8_barsAgainst_69 rfl ?_
          refine z_iconst (pc := 70) (v := 1) C dX8_barsAgainst_70 (by decide) ?_
          refine z_callV (pc := 71) C zk_X8_123 (w_X4_pledges _ _ m1 h1 1 (zB.wk (a' := (-2147483648)) (b' := 2147483647) (zB.of (x := 1) 1 (by decide)) (by decide) (by decide)) hI55_) rfl rfl h1 rfl rfl (Nat.le_of_ble_eq_true rfl) dX8_barsAgainst_71 (fun r18 g18 q18 => ?_)
          obtain ⟨⟨v18, rfl, b18x⟩, hI18, hF18q⟩ := q18
          obtain rfl := zFr_nil hF18q
          simp only [Option.toList, List.cons_append, List.nil_append]
          refine z_if_ne (pc := 74) 82 C dX8_barsAgainst_74 (by decide) (fun h74_18 => ?_) (fun h74_18 => ?_)
          · skip
            have b20x : zB v18 1 1 := by have q1 := b18x; have q2 := (zB.of (x := 0) 0 (by decide)); simp only [z32lt, z32le, z32eq, Int32.reduceToInt, Int32.toInt_zero] at h74_18; constructor <;> omega
            exact ih3 v12 b12x v12 b12x g55_ hI55_ hF55_  (by omega)
          · skip
            have b21x : zB v18 0 0 := by have q1 := b18x; have q2 := (zB.of (x := 0) 0 (by decide)); simp only [z32lt, z32le, z32eq, Int32.reduceToInt, Int32.toInt_zero] at h74_18; constructor <;> omega
            refine z_bipush (pc := 77) (v := 8) C dX8_barsAgainst_77 (by decide) ?_
            refine z_goto (pc := 79) 83 C dX8_barsAgainst_79 (by decide) ?_
            exact ih4 v12 b12x v12 b12x 8 (zB.wk (a' := 0) (b' := 8) (zB.of (x := 8) 8 (by decide)) (by decide) (by decide)) g55_ hI55_ hF55_  (by have qc0 : (8 : Int32).toInt = 8 := (by decide); omega)
      · skip
        intro a82_3 b82_3 a82_s0 b82_s0 g82_ hI82_ hF82_ hM82_
        refine z_iconst (pc := 82) (v := 0) C dX8_barsAgainst_82 (by decide) ?_
        exact ih4 a82_3 b82_3 a82_s0 b82_s0 0 (zB.wk (a' := 0) (b' := 8) (zB.of (x := 0) 0 (by decide)) (by decide) (by decide)) g82_ hI82_ hF82_  (by have qc0 : (0 : Int32).toInt = 0 := (by decide); omega)
      · skip
        intro a83_3 b83_3 a83_s0 b83_s0 a83_s1 b83_s1 g83_ hI83_ hF83_ hM83_
        refine z_ior (pc := 83) C dX8_barsAgainst_83 ?_
        refine w_gb 0 15 (zor_b 4 b83_s0 b83_s1 (by decide) (by decide) (by decide) (by decide) (by decide)) (fun v22 b22x => ?_)
        refine z_istore_n (pc := 84) C dX8_barsAgainst_84 (by rw [hn]; decide) rfl ?_
        refine z_iload_n (pc := 85) C dX8_barsAgainst_85 rfl ?_
        refine z_aload_n (pc := 86) C dX8_barsAgainst_86 rfl ?_
        refine z_getI (pc := 87) C zf_X8_126 rfl rfl h2 dX8_barsAgainst_87 ?_
        refine w_gb 0 5 (hI83_ 8 _ 2) (fun v23 b23x => ?_)
        refine z_aload_n (pc := 90) C dX8_barsAgainst_90 rfl ?_
        refine z_getI (pc := 91) C zf_X8_107 rfl rfl h1 dX8_barsAgainst_91 ?_
        refine w_gb 0 5 (hI83_ 11 _ 1) (fun v24 b24x => ?_)
        refine z_icmp_ne (pc := 94) 102 C dX8_barsAgainst_94 (by decide) (fun h94_24 => ?_) (fun h94_24 => ?_)
        · skip
          refine z_iconst (pc := 102) (v := 0) C dX8_barsAgainst_102 (by decide) ?_
          exact ih5 v22 b22x v22 b22x 0 (zB.wk (a' := 0) (b' := 16) (zB.of (x := 0) 0 (by decide)) (by decide) (by decide)) g83_ hI83_ hF83_  (by have qc0 : (0 : Int32).toInt = 0 := (by decide); omega)
        · skip
          refine z_bipush (pc := 97) (v := 16) C dX8_barsAgainst_97 (by decide) ?_
          refine z_goto (pc := 99) 103 C dX8_barsAgainst_99 (by decide) ?_
          exact ih5 v22 b22x v22 b22x 16 (zB.wk (a' := 0) (b' := 16) (zB.of (x := 16) 16 (by decide)) (by decide) (by decide)) g83_ hI83_ hF83_  (by have qc0 : (16 : Int32).toInt = 16 := (by decide); omega)
      · skip
        intro a103_3 b103_3 a103_s0 b103_s0 a103_s1 b103_s1 g103_ hI103_ hF103_ hM103_
        refine z_ior (pc := 103) C dX8_barsAgainst_103 ?_
        refine w_gb 0 31 (zor_b 5 b103_s0 b103_s1 (by decide) (by decide) (by decide) (by decide) (by decide)) (fun v26 b26x => ?_)
        refine z_istore_n (pc := 104) C dX8_barsAgainst_104 (by rw [hn]; decide) rfl ?_
        refine z_iload_n (pc := 105) C dX8_barsAgainst_105 rfl ?_
        refine z_aload_n (pc := 106) C dX8_barsAgainst_106 rfl ?_
        refine z_getI (pc := 107) C zf_X8_127 rfl rfl h1 dX8_barsAgainst_107 ?_
        refine w_gb 0 31 (hI103_ 11 _ 5) (fun v27 b27x => ?_)
        refine z_iand (pc := 110) C dX8_barsAgainst_110 ?_
        refine w_gp (fun v => zB v 0 31 ∧ v.toInt ≤ v27.toInt) (zand_r b26x b27x (by decide)) (fun v28 e28 => ?_)
        have b28x := e28.1
        have r28 := e28.2
        refine z_istore_n (pc := 111) C dX8_barsAgainst_111 (by rw [hn]; decide) rfl ?_
        refine z_aload_n (pc := 112) C dX8_barsAgainst_112 rfl ?_
        refine z_getI (pc := 113) C zf_X8_130 rfl rfl h1 dX8_barsAgainst_113 ?_
        refine w_gb 0 99 (hI103_ 11 _ 6) (fun v29 b29x => ?_)
        refine z_if_eq (pc := 116) 145 C dX8_barsAgainst_116 (by decide) (fun h116_29 => ?_) (fun h116_29 => ?_)
        · skip
          have b31x : zB v29 0 0 := by have q1 := b29x; have q2 := (zB.of (x := 0) 0 (by decide)); simp only [z32lt, z32le, z32eq, Int32.reduceToInt, Int32.toInt_zero] at h116_29; constructor <;> omega
          exact ih6 v28 b28x g103_ hI103_ hF103_  (by omega)
        · skip
          have b32x : zB v29 1 99 := by have q1 := b29x; have q2 := (zB.of (x := 0) 0 (by decide)); simp only [z32lt, z32le, z32eq, Int32.reduceToInt, Int32.toInt_zero] at h116_29; constructor <;> omega
          refine z_aload_n (pc := 119) C dX8_barsAgainst_119 rfl ?_
          refine z_getR (pc := 120) C zf_X8_38 rfl rfl (by decide) dX8_barsAgainst_120 ?_
          refine z_getI (pc := 123) C zf_X8_133 rfl rfl (by decide) dX8_barsAgainst_123 ?_
          refine w_gb 0 99 (hI103_ 6 _ 2) (fun v33 b33x => ?_)
          refine z_aload_n (pc := 126) C dX8_barsAgainst_126 rfl ?_
          refine z_getI (pc := 127) C zf_X8_136 rfl rfl h2 dX8_barsAgainst_127 ?_
          refine w_gb 0 99 (hI103_ 8 _ 3) (fun v34 b34x => ?_)
          refine z_isub (pc := 130) C dX8_barsAgainst_130 ?_
          refine w_gp (fun v => v.toInt = v33.toInt - v34.toInt) (zsub_eb b33x b34x (by decide) (by decide)) (fun v35 e35 => ?_)
          have b35x : zB v35 (-99) 99 := by have q1 := b33x; have q2 := b34x; constructor <;> omega
          refine z_aload_n (pc := 131) C dX8_barsAgainst_131 rfl ?_
          refine z_getI (pc := 132) C zf_X8_130 rfl rfl h1 dX8_barsAgainst_132 ?_
          refine w_gb 0 99 (hI103_ 11 _ 6) (fun v36 b36x => ?_)
          refine z_icmp_le (pc := 135) 145 C dX8_barsAgainst_135 (by decide) (fun h135_36 => ?_) (fun h135_36 => ?_)
          · skip
            exact ih6 v28 b28x g103_ hI103_ hF103_  (by omega)
          · skip
            have b38x : zB v35 1 99 := by have q1 := b35x; have q2 := b36x; simp only [z32lt, z32le, z32eq, Int32.reduceToInt, Int32.toInt_zero] at h135_36; constructor <;> omega
            have b39x : zB v36 0 98 := by have q1 := b35x; have q2 := b36x; simp only [z32lt, z32le, z32eq, Int32.reduceToInt, Int32.toInt_zero] at h135_36; constructor <;> omega
            refine z_iload_n (pc := 138) C dX8_barsAgainst_138 rfl ?_
            refine z_bipush (pc := 139) (v := 32) C dX8_barsAgainst_139 (by decide) ?_
            refine z_ior (pc := 141) C dX8_barsAgainst_141 ?_
            refine w_gb 0 63 (zor_b 6 b28x (zB.of (x := 32) 32 (by decide)) (by decide) (by decide) (by decide) (by decide) (by decide)) (fun v40 b40x => ?_)
            refine z_goto (pc := 142) 146 C dX8_barsAgainst_142 (by decide) ?_
            exact ih7 v28 b28x v40 b40x g103_ hI103_ hF103_  (by omega)
      · skip
        intro a145_3 b145_3 g145_ hI145_ hF145_ hM145_
        refine z_iload_n (pc := 145) C dX8_barsAgainst_145 rfl ?_
        exact ih7 a145_3 b145_3 a145_3 (zB.wk (a' := 0) (b' := 63) b145_3 (by decide) (by decide)) g145_ hI145_ hF145_  (by omega)
      · skip
        intro a146_3 b146_3 a146_s0 b146_s0 g146_ hI146_ hF146_ hM146_
        exact z_iret (pc := 146) C hr dX8_barsAgainst_146 ⟨⟨_, rfl, b146_s0⟩, hI146_, hF146_⟩
  obtain ⟨J0, J1, J2, J3, J4, J5, J6, J7⟩ := J 19
  show Z X 0 [some (zr 1 0), some (zr 11 m1), some (zr 8 m2), none] [] f
  refine z_iconst (pc := 0) (v := 0) C dX8_barsAgainst_0 (by decide) ?_
  refine z_istore_n (pc := 1) C dX8_barsAgainst_1 (by rw [hn]; decide) rfl ?_
  refine z_iload_n (pc := 2) C dX8_barsAgainst_2 rfl ?_
  refine z_aload_n (pc := 3) C dX8_barsAgainst_3 rfl ?_
  refine z_getR (pc := 4) C zf_X8_38 rfl rfl (by decide) dX8_barsAgainst_4 ?_
  refine z_getI (pc := 7) C zf_X8_104 rfl rfl (by decide) dX8_barsAgainst_7 ?_
  refine w_gb 0 5 (hI 6 _ 0) (fun v41 b41x => ?_)
  refine z_aload_n (pc := 10) C dX8_barsAgainst_10 rfl ?_
  refine z_getI (pc := 11) C zf_X8_107 rfl rfl h1 dX8_barsAgainst_11 ?_
  refine w_gb 0 5 (hI 11 _ 1) (fun v42 b42x => ?_)
  refine z_icmp_ne (pc := 14) 21 C dX8_barsAgainst_14 (by decide) (fun h14_42 => ?_) (fun h14_42 => ?_)
  · skip
    refine z_iconst (pc := 21) (v := 0) C dX8_barsAgainst_21 (by decide) ?_
    exact J0 0 (zB.wk (a' := 0) (b' := 1) (zB.of (x := 0) 0 (by decide)) (by decide) (by decide)) f hI hF  (by have qc0 : (0 : Int32).toInt = 0 := (by decide); omega)
  · skip
    refine z_iconst (pc := 17) (v := 1) C dX8_barsAgainst_17 (by decide) ?_
    refine z_goto (pc := 18) 22 C dX8_barsAgainst_18 (by decide) ?_
    exact J0 1 (zB.wk (a' := 0) (b' := 1) (zB.of (x := 1) 1 (by decide)) (by decide) (by decide)) f hI hF  (by have qc0 : (0 : Int32).toInt = 0 := (by decide); have qc1 : (1 : Int32).toInt = 1 := (by decide); omega)

set_option maxRecDepth 100000 in
set_option maxHeartbeats 4000000 in
theorem w_X8_weigh (d : Nat) (f : zM) (m1 : Nat) (h1 : m1 < zcnt 11) (hI : zInv f) : ZM (d + 2) yX8_weigh cX8_weigh 4 none [zr 1 0, zr 11 m1] f (fun r g => r = none ∧ zInv g ∧ zFr [(11, some 8), (11, some 9)] f g) := by
  refine ZM.intro (by decide +kernel) (Nat.le_of_ble_eq_true rfl) ?_
  intro X C hr hn
  have hF : zFr [(11, some 8), (11, some 9)] f f := zFr.rf _ _
  have J : ∀ t : Nat, (∀ a12_2 : Int32, zB a12_2 0 8 → ∀ g : zM, zInv g → zFr [(11, some 8), (11, some 9)] f g → (3 + 6 * (8 - a12_2.toInt) : Int) < t → Z X 12 [some (zr 1 0), some (zr 11 m1), some (zi a12_2), none] [] g) ∧ (∀ a55_2 : Int32, zB a55_2 0 7 → ∀ m55_3 : Nat, m55_3 < zcnt 8 → ∀ m55_s0 : Nat, m55_s0 < zcnt 11 → ∀ a55_s1 : Int32, zB a55_s1 0 255 → ∀ g : zM, zInv g → zFr [(11, some 8), (11, some 9)] f g → (2 + 6 * (8 - a55_2.toInt) : Int) < t → Z X 55 [some (zr 1 0), some (zr 11 m1), some (zi a55_2), some (zr 8 m55_3)] [zi a55_s1, zr 11 m55_s0] g) ∧ (∀ a56_2 : Int32, zB a56_2 0 7 → ∀ m56_3 : Nat, m56_3 < zcnt 8 → ∀ m56_s0 : Nat, m56_s0 < zcnt 11 → ∀ a56_s1 : Int32, zB a56_s1 0 255 → ∀ a56_s2 : Int32, zB a56_s2 0 128 → ∀ g : zM, zInv g → zFr [(11, some 8), (11, some 9)] f g → (1 + 6 * (8 - a56_2.toInt) : Int) < t → Z X 56 [some (zr 1 0), some (zr 11 m1), some (zi a56_2), some (zr 8 m56_3)] [zi a56_s2, zi a56_s1, zr 11 m56_s0] g) ∧ (∀ a83_2 : Int32, zB a83_2 0 7 → ∀ m83_3 : Nat, m83_3 < zcnt 8 → ∀ m83_s0 : Nat, m83_s0 < zcnt 11 → ∀ a83_s1 : Int32, zB a83_s1 0 255 → ∀ a83_s2 : Int32, zB a83_s2 0 128 → ∀ g : zM, zInv g → zFr [(11, some 8), (11, some 9)] f g → (0 + 6 * (8 - a83_2.toInt) : Int) < t → Z X 83 [some (zr 1 0), some (zr 11 m1), some (zi a83_2), some (zr 8 m83_3)] [zi a83_s2, zi a83_s1, zr 11 m83_s0] g) := by
    intro t
    induction t with
    | zero =>
      refine ⟨?_, ?_, ?_, ?_⟩ <;> (intros; exfalso; omega)
    | succ t ih =>
      obtain ⟨ih0, ih1, ih2, ih3⟩ := ih
      refine ⟨?_, ?_, ?_, ?_⟩
      · skip
        intro a12_2 b12_2 g12_ hI12_ hF12_ hM12_
        refine z_iload_n (pc := 12) C dX8_weigh_12 rfl ?_
        refine z_aload_n (pc := 13) C dX8_weigh_13 rfl ?_
        refine z_getI (pc := 14) C zf_X8_54 rfl rfl (by decide) dX8_weigh_14 ?_
        refine w_gb 0 8 (hI12_ 1 _ 6) (fun v1 b1x => ?_)
        refine z_icmp_ge (pc := 17) 93 C dX8_weigh_17 (by decide) (fun h17_1 => ?_) (fun h17_1 => ?_)
        · skip
          exact z_vret (pc := 93) C hr dX8_weigh_93 ⟨rfl, hI12_, hF12_⟩
        · skip
          have b3x : zB a12_2 0 7 := by have q1 := b12_2; have q2 := b1x; simp only [z32lt, z32le, z32eq, Int32.reduceToInt, Int32.toInt_zero] at h17_1; constructor <;> omega
          have b4x : zB v1 1 8 := by have q1 := b12_2; have q2 := b1x; simp only [z32lt, z32le, z32eq, Int32.reduceToInt, Int32.toInt_zero] at h17_1; constructor <;> omega
          refine z_aload_n (pc := 20) C dX8_weigh_20 rfl ?_
          refine z_getR (pc := 21) C zf_X8_19 rfl rfl (by decide) dX8_weigh_21 ?_
          refine z_iload_n (pc := 24) C dX8_weigh_24 rfl ?_
          refine z_aald (pc := 25) C rfl ⟨rfl, by decide⟩ (by decide) (zIx b3x (by decide) (by decide)) dX8_weigh_25 ?_
          refine w_gr (by have hq := zN b3x (by decide); show 8 * 0 + a12_2.toNatClampNeg < 16; omega) (fun m5 h5x => ?_)
          refine z_astore_n (pc := 26) C dX8_weigh_26 (by rw [hn]; decide) rfl ?_
          refine z_aload_n (pc := 27) C dX8_weigh_27 rfl ?_
          refine z_dupr (pc := 28) C dX8_weigh_28 ?_
          refine z_getI (pc := 29) C zf_X8_137 rfl rfl h1 dX8_weigh_29 ?_
          refine w_gb 0 255 (hI12_ 11 _ 8) (fun v6 b6x => ?_)
          refine z_aload_n (pc := 32) C dX8_weigh_32 rfl ?_
          refine z_aload_n (pc := 33) C dX8_weigh_33 rfl ?_
          refine z_callV (pc := 34) C zk_X8_100 (w_X4_isFor _ _ m1 h1 m5 h5x hI12_) rfl rfl h1 rfl rfl (Nat.le_of_ble_eq_true rfl) dX8_weigh_34 (fun r7 g7 q7 => ?_)
          obtain ⟨⟨v7, rfl, b7x⟩, hI7, hF7q⟩ := q7
          obtain rfl := zFr_nil hF7q
          simp only [Option.toList, List.cons_append, List.nil_append]
          refine z_if_eq (pc := 37) 55 C dX8_weigh_37 (by decide) (fun h37_7 => ?_) (fun h37_7 => ?_)
          · skip
            have b9x : zB v7 0 0 := by have q1 := b7x; have q2 := (zB.of (x := 0) 0 (by decide)); simp only [z32lt, z32le, z32eq, Int32.reduceToInt, Int32.toInt_zero] at h37_7; constructor <;> omega
            exact ih1 a12_2 b3x m5 h5x m1 h1 v6 b6x g12_ hI12_ hF12_  (by omega)
          · skip
            have b10x : zB v7 1 1 := by have q1 := b7x; have q2 := (zB.of (x := 0) 0 (by decide)); simp only [z32lt, z32le, z32eq, Int32.reduceToInt, Int32.toInt_zero] at h37_7; constructor <;> omega
            refine z_aload_n (pc := 40) C dX8_weigh_40 rfl ?_
            refine z_aload_n (pc := 41) C dX8_weigh_41 rfl ?_
            refine z_aload_n (pc := 42) C dX8_weigh_42 rfl ?_
            refine z_callV (pc := 43) C zk_X8_143 (w_X8_barsAgainst _ _ m1 h1 m5 h5x hI12_) rfl rfl (by decide) rfl rfl (Nat.le_of_ble_eq_true rfl) dX8_weigh_43 (fun r11 g11 q11 => ?_)
            obtain ⟨⟨v11, rfl, b11x⟩, hI11, hF11q⟩ := q11
            obtain rfl := zFr_nil hF11q
            simp only [Option.toList, List.cons_append, List.nil_append]
            refine z_if_ne (pc := 46) 55 C dX8_weigh_46 (by decide) (fun h46_11 => ?_) (fun h46_11 => ?_)
            · skip
              have b13x : zB v11 1 63 := by have q1 := b11x; have q2 := (zB.of (x := 0) 0 (by decide)); simp only [z32lt, z32le, z32eq, Int32.reduceToInt, Int32.toInt_zero] at h46_11; constructor <;> omega
              exact ih1 a12_2 b3x m5 h5x m1 h1 v6 b6x g12_ hI12_ hF12_  (by omega)
            · skip
              have b14x : zB v11 0 0 := by have q1 := b11x; have q2 := (zB.of (x := 0) 0 (by decide)); simp only [z32lt, z32le, z32eq, Int32.reduceToInt, Int32.toInt_zero] at h46_11; constructor <;> omega
              refine z_iconst (pc := 49) (v := 1) C dX8_weigh_49 (by decide) ?_
              refine z_iload_n (pc := 50) C dX8_weigh_50 rfl ?_
              refine z_ishl (pc := 51) C dX8_weigh_51 ?_
              refine w_gb 0 128 (zshl_b b3x 7 (by decide) (by decide)) (fun v15 b15x => ?_)
              refine z_goto (pc := 52) 56 C dX8_weigh_52 (by decide) ?_
              exact ih2 a12_2 b3x m5 h5x m1 h1 v6 b6x v15 b15x g12_ hI12_ hF12_  (by omega)
      · skip
        intro a55_2 b55_2 m55_3 h55_3 m55_s0 h55_s0 a55_s1 b55_s1 g55_ hI55_ hF55_ hM55_
        refine z_iconst (pc := 55) (v := 0) C dX8_weigh_55 (by decide) ?_
        exact ih2 a55_2 b55_2 m55_3 h55_3 m55_s0 h55_s0 a55_s1 b55_s1 0 (zB.wk (a' := 0) (b' := 128) (zB.of (x := 0) 0 (by decide)) (by decide) (by decide)) g55_ hI55_ hF55_  (by have qc0 : (0 : Int32).toInt = 0 := (by decide); omega)
      · skip
        intro a56_2 b56_2 m56_3 h56_3 m56_s0 h56_s0 a56_s1 b56_s1 a56_s2 b56_s2 g56_ hI56_ hF56_ hM56_
        refine z_ior (pc := 56) C dX8_weigh_56 ?_
        refine w_gb 0 255 (zor_b 8 b56_s1 b56_s2 (by decide) (by decide) (by decide) (by decide) (by decide)) (fun v16 b16x => ?_)
        refine z_putI (pc := 57) C zf_X8_137 zp_4_8 rfl rfl h56_s0 dX8_weigh_57 ?_
        refine w_mem hI56_ hF56_ b16x rfl (fun g17 hI17 hF17 => ?_)
        refine z_aload_n (pc := 60) C dX8_weigh_60 rfl ?_
        refine z_dupr (pc := 61) C dX8_weigh_61 ?_
        refine z_getI (pc := 62) C zf_X8_140 rfl rfl h1 dX8_weigh_62 ?_
        refine w_gb 0 255 (hI17 11 _ 9) (fun v18 b18x => ?_)
        refine z_aload_n (pc := 65) C dX8_weigh_65 rfl ?_
        refine z_aload_n (pc := 66) C dX8_weigh_66 rfl ?_
        refine z_getI (pc := 67) C zf_X8_117 rfl rfl h1 dX8_weigh_67 ?_
        refine w_gb 0 5 (hI17 11 _ 2) (fun v19 b19x => ?_)
        refine z_callV (pc := 70) C zk_X8_120 (w_X1_isDeadly _ _ m56_3 h56_3 v19 b19x hI17) rfl rfl h56_3 rfl rfl (Nat.le_of_ble_eq_true rfl) dX8_weigh_70 (fun r20 g20 q20 => ?_)
        obtain ⟨⟨v20, rfl, b20x⟩, hI20, hF20q⟩ := q20
        obtain rfl := zFr_nil hF20q
        simp only [Option.toList, List.cons_append, List.nil_append]
        refine z_if_eq (pc := 73) 82 C dX8_weigh_73 (by decide) (fun h73_20 => ?_) (fun h73_20 => ?_)
        · skip
          have b22x : zB v20 0 0 := by have q1 := b20x; have q2 := (zB.of (x := 0) 0 (by decide)); simp only [z32lt, z32le, z32eq, Int32.reduceToInt, Int32.toInt_zero] at h73_20; constructor <;> omega
          refine z_iconst (pc := 82) (v := 0) C dX8_weigh_82 (by decide) ?_
          exact ih3 a56_2 b56_2 m56_3 h56_3 m1 h1 v18 b18x 0 (zB.wk (a' := 0) (b' := 128) (zB.of (x := 0) 0 (by decide)) (by decide) (by decide)) g17 hI17 hF17  (by have qc0 : (0 : Int32).toInt = 0 := (by decide); omega)
        · skip
          have b23x : zB v20 1 1 := by have q1 := b20x; have q2 := (zB.of (x := 0) 0 (by decide)); simp only [z32lt, z32le, z32eq, Int32.reduceToInt, Int32.toInt_zero] at h73_20; constructor <;> omega
          refine z_iconst (pc := 76) (v := 1) C dX8_weigh_76 (by decide) ?_
          refine z_iload_n (pc := 77) C dX8_weigh_77 rfl ?_
          refine z_ishl (pc := 78) C dX8_weigh_78 ?_
          refine w_gb 0 128 (zshl_b b56_2 7 (by decide) (by decide)) (fun v24 b24x => ?_)
          refine z_goto (pc := 79) 83 C dX8_weigh_79 (by decide) ?_
          exact ih3 a56_2 b56_2 m56_3 h56_3 m1 h1 v18 b18x v24 b24x g17 hI17 hF17  (by omega)
      · skip
        intro a83_2 b83_2 m83_3 h83_3 m83_s0 h83_s0 a83_s1 b83_s1 a83_s2 b83_s2 g83_ hI83_ hF83_ hM83_
        refine z_ior (pc := 83) C dX8_weigh_83 ?_
        refine w_gb 0 255 (zor_b 8 b83_s1 b83_s2 (by decide) (by decide) (by decide) (by decide) (by decide)) (fun v25 b25x => ?_)
        refine z_putI (pc := 84) C zf_X8_140 zp_4_9 rfl rfl h83_s0 dX8_weigh_84 ?_
        refine w_mem hI83_ hF83_ b25x rfl (fun g26 hI26 hF26 => ?_)
        refine z_iinc (pc := 87) (v := 1) C dX8_weigh_87 rfl (by decide) (by rw [hn]; decide) rfl ?_
        obtain ⟨v27, hv27, e27⟩ : ∃ v : Int32, v = a83_2 + 1 ∧ v.toInt = a83_2.toInt + 1 := ⟨_, rfl, zadd_eb b83_2 (zB.of (x := 1) 1 (by decide)) (by decide) (by decide)⟩
        rw [← hv27]
        have b27x : zB v27 1 8 := by have q9 := b83_2; constructor <;> omega
        refine z_goto (pc := 90) 12 C dX8_weigh_90 (by decide) ?_
        refine w_mask [3] ?_
        exact ih0 v27 (zB.wk (a' := 0) (b' := 8) b27x (by decide) (by decide)) g26 hI26 hF26  (by omega)
  obtain ⟨J0, J1, J2, J3⟩ := J 69
  show Z X 0 [some (zr 1 0), some (zr 11 m1), none, none] [] f
  refine z_aload_n (pc := 0) C dX8_weigh_0 rfl ?_
  refine z_iconst (pc := 1) (v := 0) C dX8_weigh_1 (by decide) ?_
  refine z_putI (pc := 2) C zf_X8_137 zp_4_8 rfl rfl h1 dX8_weigh_2 ?_
  refine w_mem hI hF (zB.wk (a' := 0) (b' := 255) (zB.of (x := 0) 0 (by decide)) (by decide) (by decide)) rfl (fun g28 hI28 hF28 => ?_)
  refine z_aload_n (pc := 5) C dX8_weigh_5 rfl ?_
  refine z_iconst (pc := 6) (v := 0) C dX8_weigh_6 (by decide) ?_
  refine z_putI (pc := 7) C zf_X8_140 zp_4_9 rfl rfl h1 dX8_weigh_7 ?_
  refine w_mem hI28 hF28 (zB.wk (a' := 0) (b' := 255) (zB.of (x := 0) 0 (by decide)) (by decide) (by decide)) rfl (fun g29 hI29 hF29 => ?_)
  refine z_iconst (pc := 10) (v := 0) C dX8_weigh_10 (by decide) ?_
  refine z_istore_n (pc := 11) C dX8_weigh_11 (by rw [hn]; decide) rfl ?_
  exact J0 0 (zB.wk (a' := 0) (b' := 8) (zB.of (x := 0) 0 (by decide)) (by decide) (by decide)) g29 hI29 hF29  (by have qc0 : (0 : Int32).toInt = 0 := (by decide); omega)

set_option maxRecDepth 100000 in
set_option maxHeartbeats 4000000 in
theorem w_X8_weighAll (d : Nat) (f : zM)  (hI : zInv f) : ZM (d + 3) yX8_weighAll cX8_weighAll 2 none [zr 1 0] f (fun r g => r = none ∧ zInv g ∧ zFr [(11, some 8), (11, some 9)] f g) := by
  refine ZM.intro (by decide +kernel) (Nat.le_of_ble_eq_true rfl) ?_
  intro X C hr hn
  have hF : zFr [(11, some 8), (11, some 9)] f f := zFr.rf _ _
  have J : ∀ t : Nat, (∀ a2_1 : Int32, zB a2_1 0 12 → ∀ g : zM, zInv g → zFr [(11, some 8), (11, some 9)] f g → (0 + 3 * (12 - a2_1.toInt) : Int) < t → Z X 2 [some (zr 1 0), some (zi a2_1)] [] g) := by
    intro t
    induction t with
    | zero =>
      intros; exfalso; omega
    | succ t ih =>
      have ih0 := ih
      intro a2_1 b2_1 g2_ hI2_ hF2_ hM2_
      refine z_iload_n (pc := 2) C dX8_weighAll_2 rfl ?_
      refine z_aload_n (pc := 3) C dX8_weighAll_3 rfl ?_
      refine z_getI (pc := 4) C zf_X8_64 rfl rfl (by decide) dX8_weighAll_4 ?_
      refine w_gb 0 12 (hI2_ 1 _ 7) (fun v1 b1x => ?_)
      refine z_icmp_ge (pc := 7) 26 C dX8_weighAll_7 (by decide) (fun h7_1 => ?_) (fun h7_1 => ?_)
      · skip
        exact z_vret (pc := 26) C hr dX8_weighAll_26 ⟨rfl, hI2_, hF2_⟩
      · skip
        have b3x : zB a2_1 0 11 := by have q1 := b2_1; have q2 := b1x; simp only [z32lt, z32le, z32eq, Int32.reduceToInt, Int32.toInt_zero] at h7_1; constructor <;> omega
        have b4x : zB v1 1 12 := by have q1 := b2_1; have q2 := b1x; simp only [z32lt, z32le, z32eq, Int32.reduceToInt, Int32.toInt_zero] at h7_1; constructor <;> omega
        refine z_aload_n (pc := 10) C dX8_weighAll_10 rfl ?_
        refine z_aload_n (pc := 11) C dX8_weighAll_11 rfl ?_
        refine z_getR (pc := 12) C zf_X8_25 rfl rfl (by decide) dX8_weighAll_12 ?_
        refine z_iload_n (pc := 15) C dX8_weighAll_15 rfl ?_
        refine z_aald (pc := 16) C rfl ⟨rfl, by decide⟩ (by decide) (zIx b3x (by decide) (by decide)) dX8_weighAll_16 ?_
        refine w_gr (by have hq := zN b3x (by decide); show 12 * 0 + a2_1.toNatClampNeg < 36; omega) (fun m5 h5x => ?_)
        refine z_callV (pc := 17) C zk_X8_147 (w_X8_weigh _ _ m5 h5x hI2_) rfl rfl (by decide) rfl rfl (Nat.le_of_ble_eq_true rfl) dX8_weighAll_17 (fun r6 g6 q6 => ?_)
        obtain ⟨rfl, hI6, hF6q⟩ := q6
        have hF6 := zFr.tr hF2_ hF6q (by decide)
        simp only [Option.toList, List.cons_append, List.nil_append]
        refine z_iinc (pc := 20) (v := 1) C dX8_weighAll_20 rfl (by decide) (by rw [hn]; decide) rfl ?_
        obtain ⟨v7, hv7, e7⟩ : ∃ v : Int32, v = a2_1 + 1 ∧ v.toInt = a2_1.toInt + 1 := ⟨_, rfl, zadd_eb b3x (zB.of (x := 1) 1 (by decide)) (by decide) (by decide)⟩
        rw [← hv7]
        have b7x : zB v7 1 12 := by have q9 := b3x; constructor <;> omega
        refine z_goto (pc := 23) 2 C dX8_weighAll_23 (by decide) ?_
        exact ih0 v7 (zB.wk (a' := 0) (b' := 12) b7x (by decide) (by decide)) g6 hI6 hF6  (by omega)
  have J0 := J 51
  show Z X 0 [some (zr 1 0), none] [] f
  refine z_iconst (pc := 0) (v := 0) C dX8_weighAll_0 (by decide) ?_
  refine z_istore_n (pc := 1) C dX8_weighAll_1 (by rw [hn]; decide) rfl ?_
  exact J0 0 (zB.wk (a' := 0) (b' := 12) (zB.of (x := 0) 0 (by decide)) (by decide) (by decide)) f hI hF  (by have qc0 : (0 : Int32).toInt = 0 := (by decide); omega)

set_option maxRecDepth 100000 in
set_option maxHeartbeats 4000000 in
theorem w_X8_weighAlone (d : Nat) (f : zM) (a1 : Int32) (b1 : zB a1 0 7) (hI : zInv f) : ZM (d + 1) yX8_weighAlone cX8_weighAlone 4 none [zr 1 0, zi a1] f (fun r g => r = none ∧ zInv g ∧ zFr [(11, some 8), (11, some 9)] f g) := by
  refine ZM.intro (by decide +kernel) (Nat.le_of_ble_eq_true rfl) ?_
  intro X C hr hn
  have hF : zFr [(11, some 8), (11, some 9)] f f := zFr.rf _ _
  have J : ∀ t : Nat, (∀ a2_2 : Int32, zB a2_2 0 12 → ∀ g : zM, zInv g → zFr [(11, some 8), (11, some 9)] f g → (2 + 5 * (12 - a2_2.toInt) : Int) < t → Z X 2 [some (zr 1 0), some (zi a1), some (zi a2_2), none] [] g) ∧ (∀ a38_2 : Int32, zB a38_2 0 11 → ∀ m38_3 : Nat, m38_3 < zcnt 11 → ∀ m38_s0 : Nat, m38_s0 < zcnt 11 → ∀ a38_s1 : Int32, zB a38_s1 0 128 → ∀ g : zM, zInv g → zFr [(11, some 8), (11, some 9)] f g → (1 + 5 * (12 - a38_2.toInt) : Int) < t → Z X 38 [some (zr 1 0), some (zi a1), some (zi a38_2), some (zr 11 m38_3)] [zi a38_s1, zr 11 m38_s0] g) ∧ (∀ a65_2 : Int32, zB a65_2 0 11 → ∀ m65_3 : Nat, m65_3 < zcnt 11 → ∀ m65_s0 : Nat, m65_s0 < zcnt 11 → ∀ a65_s1 : Int32, zB a65_s1 0 128 → ∀ g : zM, zInv g → zFr [(11, some 8), (11, some 9)] f g → (0 + 5 * (12 - a65_2.toInt) : Int) < t → Z X 65 [some (zr 1 0), some (zi a1), some (zi a65_2), some (zr 11 m65_3)] [zi a65_s1, zr 11 m65_s0] g) := by
    intro t
    induction t with
    | zero =>
      refine ⟨?_, ?_, ?_⟩ <;> (intros; exfalso; omega)
    | succ t ih =>
      obtain ⟨ih0, ih1, ih2⟩ := ih
      refine ⟨?_, ?_, ?_⟩
      · skip
        intro a2_2 b2_2 g2_ hI2_ hF2_ hM2_
        refine z_iload_n (pc := 2) C dX8_weighAlone_2 rfl ?_
        refine z_aload_n (pc := 3) C dX8_weighAlone_3 rfl ?_
        refine z_getI (pc := 4) C zf_X8_64 rfl rfl (by decide) dX8_weighAlone_4 ?_
        refine w_gb 0 12 (hI2_ 1 _ 7) (fun v1 b1x => ?_)
        refine z_icmp_ge (pc := 7) 74 C dX8_weighAlone_7 (by decide) (fun h7_1 => ?_) (fun h7_1 => ?_)
        · skip
          exact z_vret (pc := 74) C hr dX8_weighAlone_74 ⟨rfl, hI2_, hF2_⟩
        · skip
          have b3x : zB a2_2 0 11 := by have q1 := b2_2; have q2 := b1x; simp only [z32lt, z32le, z32eq, Int32.reduceToInt, Int32.toInt_zero] at h7_1; constructor <;> omega
          have b4x : zB v1 1 12 := by have q1 := b2_2; have q2 := b1x; simp only [z32lt, z32le, z32eq, Int32.reduceToInt, Int32.toInt_zero] at h7_1; constructor <;> omega
          refine z_aload_n (pc := 10) C dX8_weighAlone_10 rfl ?_
          refine z_getR (pc := 11) C zf_X8_25 rfl rfl (by decide) dX8_weighAlone_11 ?_
          refine z_iload_n (pc := 14) C dX8_weighAlone_14 rfl ?_
          refine z_aald (pc := 15) C rfl ⟨rfl, by decide⟩ (by decide) (zIx b3x (by decide) (by decide)) dX8_weighAlone_15 ?_
          refine w_gr (by have hq := zN b3x (by decide); show 12 * 0 + a2_2.toNatClampNeg < 36; omega) (fun m5 h5x => ?_)
          refine z_astore_n (pc := 16) C dX8_weighAlone_16 (by rw [hn]; decide) rfl ?_
          refine z_aload_n (pc := 17) C dX8_weighAlone_17 rfl ?_
          refine z_aload_n (pc := 18) C dX8_weighAlone_18 rfl ?_
          refine z_aload_n (pc := 19) C dX8_weighAlone_19 rfl ?_
          refine z_getR (pc := 20) C zf_X8_19 rfl rfl (by decide) dX8_weighAlone_20 ?_
          refine z_iload_n (pc := 23) C dX8_weighAlone_23 rfl ?_
          refine z_aald (pc := 24) C rfl ⟨rfl, by decide⟩ (by decide) (zIx b1 (by decide) (by decide)) dX8_weighAlone_24 ?_
          refine w_gr (by have hq := zN b1 (by decide); show 8 * 0 + a1.toNatClampNeg < 16; omega) (fun m6 h6x => ?_)
          refine z_callV (pc := 25) C zk_X8_100 (w_X4_isFor _ _ m5 h5x m6 h6x hI2_) rfl rfl h5x rfl rfl (Nat.le_of_ble_eq_true rfl) dX8_weighAlone_25 (fun r7 g7 q7 => ?_)
          obtain ⟨⟨v7, rfl, b7x⟩, hI7, hF7q⟩ := q7
          obtain rfl := zFr_nil hF7q
          simp only [Option.toList, List.cons_append, List.nil_append]
          refine z_if_eq (pc := 28) 37 C dX8_weighAlone_28 (by decide) (fun h28_7 => ?_) (fun h28_7 => ?_)
          · skip
            have b9x : zB v7 0 0 := by have q1 := b7x; have q2 := (zB.of (x := 0) 0 (by decide)); simp only [z32lt, z32le, z32eq, Int32.reduceToInt, Int32.toInt_zero] at h28_7; constructor <;> omega
            refine z_iconst (pc := 37) (v := 0) C dX8_weighAlone_37 (by decide) ?_
            exact ih1 a2_2 b3x m5 h5x m5 h5x 0 (zB.wk (a' := 0) (b' := 128) (zB.of (x := 0) 0 (by decide)) (by decide) (by decide)) g2_ hI2_ hF2_  (by have qc0 : (0 : Int32).toInt = 0 := (by decide); omega)
          · skip
            have b10x : zB v7 1 1 := by have q1 := b7x; have q2 := (zB.of (x := 0) 0 (by decide)); simp only [z32lt, z32le, z32eq, Int32.reduceToInt, Int32.toInt_zero] at h28_7; constructor <;> omega
            refine z_iconst (pc := 31) (v := 1) C dX8_weighAlone_31 (by decide) ?_
            refine z_iload_n (pc := 32) C dX8_weighAlone_32 rfl ?_
            refine z_ishl (pc := 33) C dX8_weighAlone_33 ?_
            refine w_gb 0 128 (zshl_b b1 7 (by decide) (by decide)) (fun v11 b11x => ?_)
            refine z_goto (pc := 34) 38 C dX8_weighAlone_34 (by decide) ?_
            exact ih1 a2_2 b3x m5 h5x m5 h5x v11 b11x g2_ hI2_ hF2_  (by omega)
      · skip
        intro a38_2 b38_2 m38_3 h38_3 m38_s0 h38_s0 a38_s1 b38_s1 g38_ hI38_ hF38_ hM38_
        refine z_putI (pc := 38) C zf_X8_137 zp_4_8 rfl rfl h38_s0 dX8_weighAlone_38 ?_
        refine w_mem hI38_ hF38_ (zB.wk (a' := 0) (b' := 255) b38_s1 (by decide) (by decide)) rfl (fun g12 hI12 hF12 => ?_)
        refine z_aload_n (pc := 41) C dX8_weighAlone_41 rfl ?_
        refine z_aload_n (pc := 42) C dX8_weighAlone_42 rfl ?_
        refine z_getR (pc := 43) C zf_X8_19 rfl rfl (by decide) dX8_weighAlone_43 ?_
        refine z_iload_n (pc := 46) C dX8_weighAlone_46 rfl ?_
        refine z_aald (pc := 47) C rfl ⟨rfl, by decide⟩ (by decide) (zIx b1 (by decide) (by decide)) dX8_weighAlone_47 ?_
        refine w_gr (by have hq := zN b1 (by decide); show 8 * 0 + a1.toNatClampNeg < 16; omega) (fun m13 h13x => ?_)
        refine z_aload_n (pc := 48) C dX8_weighAlone_48 rfl ?_
        refine z_getI (pc := 49) C zf_X8_117 rfl rfl h38_3 dX8_weighAlone_49 ?_
        refine w_gb 0 5 (hI12 11 _ 2) (fun v14 b14x => ?_)
        refine z_callV (pc := 52) C zk_X8_120 (w_X1_isDeadly _ _ m13 h13x v14 b14x hI12) rfl rfl h13x rfl rfl (Nat.le_of_ble_eq_true rfl) dX8_weighAlone_52 (fun r15 g15 q15 => ?_)
        obtain ⟨⟨v15, rfl, b15x⟩, hI15, hF15q⟩ := q15
        obtain rfl := zFr_nil hF15q
        simp only [Option.toList, List.cons_append, List.nil_append]
        refine z_if_eq (pc := 55) 64 C dX8_weighAlone_55 (by decide) (fun h55_15 => ?_) (fun h55_15 => ?_)
        · skip
          have b17x : zB v15 0 0 := by have q1 := b15x; have q2 := (zB.of (x := 0) 0 (by decide)); simp only [z32lt, z32le, z32eq, Int32.reduceToInt, Int32.toInt_zero] at h55_15; constructor <;> omega
          refine z_iconst (pc := 64) (v := 0) C dX8_weighAlone_64 (by decide) ?_
          exact ih2 a38_2 b38_2 m38_3 h38_3 m38_3 h38_3 0 (zB.wk (a' := 0) (b' := 128) (zB.of (x := 0) 0 (by decide)) (by decide) (by decide)) g12 hI12 hF12  (by have qc0 : (0 : Int32).toInt = 0 := (by decide); omega)
        · skip
          have b18x : zB v15 1 1 := by have q1 := b15x; have q2 := (zB.of (x := 0) 0 (by decide)); simp only [z32lt, z32le, z32eq, Int32.reduceToInt, Int32.toInt_zero] at h55_15; constructor <;> omega
          refine z_iconst (pc := 58) (v := 1) C dX8_weighAlone_58 (by decide) ?_
          refine z_iload_n (pc := 59) C dX8_weighAlone_59 rfl ?_
          refine z_ishl (pc := 60) C dX8_weighAlone_60 ?_
          refine w_gb 0 128 (zshl_b b1 7 (by decide) (by decide)) (fun v19 b19x => ?_)
          refine z_goto (pc := 61) 65 C dX8_weighAlone_61 (by decide) ?_
          exact ih2 a38_2 b38_2 m38_3 h38_3 m38_3 h38_3 v19 b19x g12 hI12 hF12  (by omega)
      · skip
        intro a65_2 b65_2 m65_3 h65_3 m65_s0 h65_s0 a65_s1 b65_s1 g65_ hI65_ hF65_ hM65_
        refine z_putI (pc := 65) C zf_X8_140 zp_4_9 rfl rfl h65_s0 dX8_weighAlone_65 ?_
        refine w_mem hI65_ hF65_ (zB.wk (a' := 0) (b' := 255) b65_s1 (by decide) (by decide)) rfl (fun g20 hI20 hF20 => ?_)
        refine z_iinc (pc := 68) (v := 1) C dX8_weighAlone_68 rfl (by decide) (by rw [hn]; decide) rfl ?_
        obtain ⟨v21, hv21, e21⟩ : ∃ v : Int32, v = a65_2 + 1 ∧ v.toInt = a65_2.toInt + 1 := ⟨_, rfl, zadd_eb b65_2 (zB.of (x := 1) 1 (by decide)) (by decide) (by decide)⟩
        rw [← hv21]
        have b21x : zB v21 1 12 := by have q9 := b65_2; constructor <;> omega
        refine z_goto (pc := 71) 2 C dX8_weighAlone_71 (by decide) ?_
        refine w_mask [3] ?_
        exact ih0 v21 (zB.wk (a' := 0) (b' := 12) b21x (by decide) (by decide)) g20 hI20 hF20  (by omega)
  obtain ⟨J0, J1, J2⟩ := J 79
  show Z X 0 [some (zr 1 0), some (zi a1), none, none] [] f
  refine z_iconst (pc := 0) (v := 0) C dX8_weighAlone_0 (by decide) ?_
  refine z_istore_n (pc := 1) C dX8_weighAlone_1 (by rw [hn]; decide) rfl ?_
  exact J0 0 (zB.wk (a' := 0) (b' := 12) (zB.of (x := 0) 0 (by decide)) (by decide) (by decide)) f hI hF  (by have qc0 : (0 : Int32).toInt = 0 := (by decide); omega)

set_option maxRecDepth 100000 in
set_option maxHeartbeats 4000000 in
theorem w_X8_letTo (d : Nat) (f : zM) (a1 : Int32) (b1 : zB a1 0 5) (hI : zInv f) : ZM (d + 2) yX8_letTo cX8_letTo 4 (some .int) [zr 1 0, zi a1] f (fun r g => (∃ v, r = some (zi v) ∧ zB v 0 255) ∧ zInv g ∧ zFr [] f g) := by
  refine ZM.intro (by decide +kernel) (Nat.le_of_ble_eq_true rfl) ?_
  intro X C hr hn
  have hF : zFr [] f f := zFr.rf _ _
  have J : ∀ t : Nat, (∀ a4_2 : Int32, zB a4_2 0 255 → ∀ a4_3 : Int32, zB a4_3 0 12 → ∀ g : zM, zInv g → zFr [] f g → (1 + 4 * (12 - a4_3.toInt) : Int) < t → Z X 4 [some (zr 1 0), some (zi a1), some (zi a4_2), some (zi a4_3)] [] g) ∧ (∀ a43_2 : Int32, zB a43_2 0 255 → ∀ a43_3 : Int32, zB a43_3 0 11 → ∀ a43_s0 : Int32, zB a43_s0 0 255 → ∀ a43_s1 : Int32, zB a43_s1 0 255 → ∀ g : zM, zInv g → zFr [] f g → (0 + 4 * (12 - a43_3.toInt) : Int) < t → Z X 43 [some (zr 1 0), some (zi a1), some (zi a43_2), some (zi a43_3)] [zi a43_s1, zi a43_s0] g) := by
    intro t
    induction t with
    | zero =>
      refine ⟨?_, ?_⟩ <;> (intros; exfalso; omega)
    | succ t ih =>
      obtain ⟨ih0, ih1⟩ := ih
      refine ⟨?_, ?_⟩
      · skip
        intro a4_2 b4_2 a4_3 b4_3 g4_ hI4_ hF4_ hM4_
        refine z_iload_n (pc := 4) C dX8_letTo_4 rfl ?_
        refine z_aload_n (pc := 5) C dX8_letTo_5 rfl ?_
        refine z_getI (pc := 6) C zf_X8_64 rfl rfl (by decide) dX8_letTo_6 ?_
        refine w_gb 0 12 (hI4_ 1 _ 7) (fun v1 b1x => ?_)
        refine z_icmp_ge (pc := 9) 51 C dX8_letTo_9 (by decide) (fun h9_1 => ?_) (fun h9_1 => ?_)
        · skip
          refine z_iload_n (pc := 51) C dX8_letTo_51 rfl ?_
          exact z_iret (pc := 52) C hr dX8_letTo_52 ⟨⟨_, rfl, b4_2⟩, hI4_, hF4_⟩
        · skip
          have b3x : zB a4_3 0 11 := by have q1 := b4_3; have q2 := b1x; simp only [z32lt, z32le, z32eq, Int32.reduceToInt, Int32.toInt_zero] at h9_1; constructor <;> omega
          have b4x : zB v1 1 12 := by have q1 := b4_3; have q2 := b1x; simp only [z32lt, z32le, z32eq, Int32.reduceToInt, Int32.toInt_zero] at h9_1; constructor <;> omega
          refine z_iload_n (pc := 12) C dX8_letTo_12 rfl ?_
          refine z_aload_n (pc := 13) C dX8_letTo_13 rfl ?_
          refine z_getR (pc := 14) C zf_X8_25 rfl rfl (by decide) dX8_letTo_14 ?_
          refine z_iload_n (pc := 17) C dX8_letTo_17 rfl ?_
          refine z_aald (pc := 18) C rfl ⟨rfl, by decide⟩ (by decide) (zIx b3x (by decide) (by decide)) dX8_letTo_18 ?_
          refine w_gr (by have hq := zN b3x (by decide); show 12 * 0 + a4_3.toNatClampNeg < 36; omega) (fun m5 h5x => ?_)
          refine z_getI (pc := 19) C zf_X8_117 rfl rfl h5x dX8_letTo_19 ?_
          refine w_gb 0 5 (hI4_ 11 _ 2) (fun v6 b6x => ?_)
          refine z_iload_n (pc := 22) C dX8_letTo_22 rfl ?_
          refine z_icmp_ne (pc := 23) 42 C dX8_letTo_23 (by decide) (fun h23_6 => ?_) (fun h23_6 => ?_)
          · skip
            refine z_iconst (pc := 42) (v := 0) C dX8_letTo_42 (by decide) ?_
            exact ih1 a4_2 b4_2 a4_3 b3x a4_2 b4_2 0 (zB.wk (a' := 0) (b' := 255) (zB.of (x := 0) 0 (by decide)) (by decide) (by decide)) g4_ hI4_ hF4_  (by have qc0 : (0 : Int32).toInt = 0 := (by decide); omega)
          · skip
            refine z_aload_n (pc := 26) C dX8_letTo_26 rfl ?_
            refine z_getR (pc := 27) C zf_X8_38 rfl rfl (by decide) dX8_letTo_27 ?_
            refine z_aload_n (pc := 30) C dX8_letTo_30 rfl ?_
            refine z_getR (pc := 31) C zf_X8_25 rfl rfl (by decide) dX8_letTo_31 ?_
            refine z_iload_n (pc := 34) C dX8_letTo_34 rfl ?_
            refine z_aald (pc := 35) C rfl ⟨rfl, by decide⟩ (by decide) (zIx b3x (by decide) (by decide)) dX8_letTo_35 ?_
            refine w_gr (by have hq := zN b3x (by decide); show 12 * 0 + a4_3.toNatClampNeg < 36; omega) (fun m8 h8x => ?_)
            refine z_callV (pc := 36) C zk_X8_180 (w_X3_goesBy _ _ 0 (by decide) m8 h8x hI4_) rfl rfl (by decide) rfl rfl (Nat.le_of_ble_eq_true rfl) dX8_letTo_36 (fun r9 g9 q9 => ?_)
            obtain ⟨⟨v9, rfl, b9x⟩, hI9, hF9q⟩ := q9
            obtain rfl := zFr_nil hF9q
            simp only [Option.toList, List.cons_append, List.nil_append]
            refine z_goto (pc := 39) 43 C dX8_letTo_39 (by decide) ?_
            exact ih1 a4_2 b4_2 a4_3 b3x a4_2 b4_2 v9 b9x g4_ hI4_ hF4_  (by omega)
      · skip
        intro a43_2 b43_2 a43_3 b43_3 a43_s0 b43_s0 a43_s1 b43_s1 g43_ hI43_ hF43_ hM43_
        refine z_ior (pc := 43) C dX8_letTo_43 ?_
        refine w_gb 0 255 (zor_b 8 b43_s0 b43_s1 (by decide) (by decide) (by decide) (by decide) (by decide)) (fun v10 b10x => ?_)
        refine z_istore_n (pc := 44) C dX8_letTo_44 (by rw [hn]; decide) rfl ?_
        refine z_iinc (pc := 45) (v := 1) C dX8_letTo_45 rfl (by decide) (by rw [hn]; decide) rfl ?_
        obtain ⟨v11, hv11, e11⟩ : ∃ v : Int32, v = a43_3 + 1 ∧ v.toInt = a43_3.toInt + 1 := ⟨_, rfl, zadd_eb b43_3 (zB.of (x := 1) 1 (by decide)) (by decide) (by decide)⟩
        rw [← hv11]
        have b11x : zB v11 1 12 := by have q9 := b43_3; constructor <;> omega
        refine z_goto (pc := 48) 4 C dX8_letTo_48 (by decide) ?_
        exact ih0 v10 b10x v11 (zB.wk (a' := 0) (b' := 12) b11x (by decide) (by decide)) g43_ hI43_ hF43_  (by omega)
  obtain ⟨J0, J1⟩ := J 65
  show Z X 0 [some (zr 1 0), some (zi a1), none, none] [] f
  refine z_iconst (pc := 0) (v := 0) C dX8_letTo_0 (by decide) ?_
  refine z_istore_n (pc := 1) C dX8_letTo_1 (by rw [hn]; decide) rfl ?_
  refine z_iconst (pc := 2) (v := 0) C dX8_letTo_2 (by decide) ?_
  refine z_istore_n (pc := 3) C dX8_letTo_3 (by rw [hn]; decide) rfl ?_
  exact J0 0 (zB.wk (a' := 0) (b' := 255) (zB.of (x := 0) 0 (by decide)) (by decide) (by decide)) 0 (zB.wk (a' := 0) (b' := 12) (zB.of (x := 0) 0 (by decide)) (by decide) (by decide)) f hI hF  (by have qc0 : (0 : Int32).toInt = 0 := (by decide); omega)

set_option maxRecDepth 100000 in
set_option maxHeartbeats 4000000 in
theorem w_X8_weighDemands (d : Nat) (f : zM)  (hI : zInv f) : ZM (d + 3) yX8_weighDemands cX8_weighDemands 4 none [zr 1 0] f (fun r g => r = none ∧ zInv g ∧ zFr [(12, some 3), (12, some 4), (12, some 5)] f g) := by
  refine ZM.intro (by decide +kernel) (Nat.le_of_ble_eq_true rfl) ?_
  intro X C hr hn
  have hF : zFr [(12, some 3), (12, some 4), (12, some 5)] f f := zFr.rf _ _
  have J : ∀ t : Nat, (∀ a2_1 : Int32, zB a2_1 0 8 → ∀ g : zM, zInv g → zFr [(12, some 3), (12, some 4), (12, some 5)] f g → (67 + 70 * (8 - a2_1.toInt) : Int) < t → Z X 2 [some (zr 1 0), some (zi a2_1), none, none] [] g) ∧ (∀ a46_1 : Int32, zB a46_1 0 7 → ∀ m46_2 : Nat, m46_2 < zcnt 12 → ∀ a46_3 : Int32, zB a46_3 0 8 → ∀ g : zM, zInv g → zFr [(12, some 3), (12, some 4), (12, some 5)] f g → (3 + 7 * (8 - a46_3.toInt) + 70 * (8 - a46_1.toInt) : Int) < t → Z X 46 [some (zr 1 0), some (zi a46_1), some (zr 12 m46_2), some (zi a46_3)] [] g) ∧ (∀ a114_1 : Int32, zB a114_1 0 7 → ∀ m114_2 : Nat, m114_2 < zcnt 12 → ∀ a114_3 : Int32, zB a114_3 0 7 → ∀ m114_s0 : Nat, m114_s0 < zcnt 12 → ∀ g : zM, zInv g → zFr [(12, some 3), (12, some 4), (12, some 5)] f g → (2 + 7 * (8 - a114_3.toInt) + 70 * (8 - a114_1.toInt) : Int) < t → Z X 114 [some (zr 1 0), some (zi a114_1), some (zr 12 m114_2), some (zi a114_3)] [zr 12 m114_s0] g) ∧ (∀ a119_1 : Int32, zB a119_1 0 7 → ∀ m119_2 : Nat, m119_2 < zcnt 12 → ∀ a119_3 : Int32, zB a119_3 0 7 → ∀ m119_s0 : Nat, m119_s0 < zcnt 12 → ∀ a119_s1 : Int32, zB a119_s1 0 1 → ∀ g : zM, zInv g → zFr [(12, some 3), (12, some 4), (12, some 5)] f g → (1 + 7 * (8 - a119_3.toInt) + 70 * (8 - a119_1.toInt) : Int) < t → Z X 119 [some (zr 1 0), some (zi a119_1), some (zr 12 m119_2), some (zi a119_3)] [zi a119_s1, zr 12 m119_s0] g) ∧ (∀ a122_1 : Int32, zB a122_1 0 7 → ∀ m122_2 : Nat, m122_2 < zcnt 12 → ∀ a122_3 : Int32, zB a122_3 0 7 → ∀ g : zM, zInv g → zFr [(12, some 3), (12, some 4), (12, some 5)] f g → (0 + 7 * (8 - a122_3.toInt) + 70 * (8 - a122_1.toInt) : Int) < t → Z X 122 [some (zr 1 0), some (zi a122_1), some (zr 12 m122_2), some (zi a122_3)] [] g) := by
    intro t
    induction t with
    | zero =>
      refine ⟨?_, ?_, ?_, ?_, ?_⟩ <;> (intros; exfalso; omega)
    | succ t ih =>
      obtain ⟨ih0, ih1, ih2, ih3, ih4⟩ := ih
      refine ⟨?_, ?_, ?_, ?_, ?_⟩
      · skip
        intro a2_1 b2_1 g2_ hI2_ hF2_ hM2_
        refine z_iload_n (pc := 2) C dX8_weighDemands_2 rfl ?_
        refine z_aload_n (pc := 3) C dX8_weighDemands_3 rfl ?_
        refine z_getI (pc := 4) C zf_X8_70 rfl rfl (by decide) dX8_weighDemands_4 ?_
        refine w_gb 0 8 (hI2_ 1 _ 8) (fun v1 b1x => ?_)
        refine z_icmp_ge (pc := 7) 134 C dX8_weighDemands_7 (by decide) (fun h7_1 => ?_) (fun h7_1 => ?_)
        · skip
          exact z_vret (pc := 134) C hr dX8_weighDemands_134 ⟨rfl, hI2_, hF2_⟩
        · skip
          have b3x : zB a2_1 0 7 := by have q1 := b2_1; have q2 := b1x; simp only [z32lt, z32le, z32eq, Int32.reduceToInt, Int32.toInt_zero] at h7_1; constructor <;> omega
          have b4x : zB v1 1 8 := by have q1 := b2_1; have q2 := b1x; simp only [z32lt, z32le, z32eq, Int32.reduceToInt, Int32.toInt_zero] at h7_1; constructor <;> omega
          refine z_aload_n (pc := 10) C dX8_weighDemands_10 rfl ?_
          refine z_getR (pc := 11) C zf_X8_31 rfl rfl (by decide) dX8_weighDemands_11 ?_
          refine z_iload_n (pc := 14) C dX8_weighDemands_14 rfl ?_
          refine z_aald (pc := 15) C rfl ⟨rfl, by decide⟩ (by decide) (zIx b3x (by decide) (by decide)) dX8_weighDemands_15 ?_
          refine w_gr (by have hq := zN b3x (by decide); show 8 * 0 + a2_1.toNatClampNeg < 16; omega) (fun m5 h5x => ?_)
          refine z_astore_n (pc := 16) C dX8_weighDemands_16 (by rw [hn]; decide) rfl ?_
          refine z_aload_n (pc := 17) C dX8_weighDemands_17 rfl ?_
          refine z_aload_n (pc := 18) C dX8_weighDemands_18 rfl ?_
          refine z_getI (pc := 19) C zf_X8_76 rfl rfl h5x dX8_weighDemands_19 ?_
          refine w_gb 0 255 (hI2_ 12 _ 1) (fun v6 b6x => ?_)
          refine z_aload_n (pc := 22) C dX8_weighDemands_22 rfl ?_
          refine z_aload_n (pc := 23) C dX8_weighDemands_23 rfl ?_
          refine z_getI (pc := 24) C zf_X8_73 rfl rfl h5x dX8_weighDemands_24 ?_
          refine w_gb 0 5 (hI2_ 12 _ 0) (fun v7 b7x => ?_)
          refine z_callV (pc := 27) C zk_X8_157 (w_X8_letTo _ _ v7 b7x hI2_) rfl rfl (by decide) rfl rfl (Nat.le_of_ble_eq_true rfl) dX8_weighDemands_27 (fun r8 g8 q8 => ?_)
          obtain ⟨⟨v8, rfl, b8x⟩, hI8, hF8q⟩ := q8
          obtain rfl := zFr_nil hF8q
          simp only [Option.toList, List.cons_append, List.nil_append]
          refine z_iand (pc := 30) C dX8_weighDemands_30 ?_
          refine w_gp (fun v => zB v 0 255 ∧ v.toInt ≤ v8.toInt) (zand_r b6x b8x (by decide)) (fun v9 e9 => ?_)
          have b9x := e9.1
          have r9 := e9.2
          refine z_putI (pc := 31) C zf_X8_161 zp_2_3 rfl rfl h5x dX8_weighDemands_31 ?_
          refine w_mem hI2_ hF2_ b9x rfl (fun g10 hI10 hF10 => ?_)
          refine z_aload_n (pc := 34) C dX8_weighDemands_34 rfl ?_
          refine z_iconst (pc := 35) (v := 0) C dX8_weighDemands_35 (by decide) ?_
          refine z_putI (pc := 36) C zf_X8_164 zp_2_4 rfl rfl h5x dX8_weighDemands_36 ?_
          refine w_mem hI10 hF10 (zB.wk (a' := 0) (b' := 40) (zB.of (x := 0) 0 (by decide)) (by decide) (by decide)) rfl (fun g11 hI11 hF11 => ?_)
          refine z_aload_n (pc := 39) C dX8_weighDemands_39 rfl ?_
          refine z_iconst (pc := 40) (v := 0) C dX8_weighDemands_40 (by decide) ?_
          refine z_putZ (pc := 41) C zf_X8_167 zp_2_5 (z01 (zB.wk (a' := 0) (b' := 1) (zB.of (x := 0) 0 (by decide)) (by decide) (by decide))) rfl rfl h5x dX8_weighDemands_41 ?_
          refine w_mem hI11 hF11 (zB.wk (a' := 0) (b' := 1) (zB.of (x := 0) 0 (by decide)) (by decide) (by decide)) rfl (fun g12 hI12 hF12 => ?_)
          refine z_iconst (pc := 44) (v := 0) C dX8_weighDemands_44 (by decide) ?_
          refine z_istore_n (pc := 45) C dX8_weighDemands_45 (by rw [hn]; decide) rfl ?_
          exact ih1 a2_1 b3x m5 h5x 0 (zB.wk (a' := 0) (b' := 8) (zB.of (x := 0) 0 (by decide)) (by decide) (by decide)) g12 hI12 hF12  (by have qc0 : (0 : Int32).toInt = 0 := (by decide); omega)
      · skip
        intro a46_1 b46_1 m46_2 h46_2 a46_3 b46_3 g46_ hI46_ hF46_ hM46_
        refine z_iload_n (pc := 46) C dX8_weighDemands_46 rfl ?_
        refine z_aload_n (pc := 47) C dX8_weighDemands_47 rfl ?_
        refine z_getI (pc := 48) C zf_X8_54 rfl rfl (by decide) dX8_weighDemands_48 ?_
        refine w_gb 0 8 (hI46_ 1 _ 6) (fun v13 b13x => ?_)
        refine z_icmp_ge (pc := 51) 128 C dX8_weighDemands_51 (by decide) (fun h51_13 => ?_) (fun h51_13 => ?_)
        · skip
          refine z_iinc (pc := 128) (v := 1) C dX8_weighDemands_128 rfl (by decide) (by rw [hn]; decide) rfl ?_
          obtain ⟨v15, hv15, e15⟩ : ∃ v : Int32, v = a46_1 + 1 ∧ v.toInt = a46_1.toInt + 1 := ⟨_, rfl, zadd_eb b46_1 (zB.of (x := 1) 1 (by decide)) (by decide) (by decide)⟩
          rw [← hv15]
          have b15x : zB v15 1 8 := by have q9 := b46_1; constructor <;> omega
          refine z_goto (pc := 131) 2 C dX8_weighDemands_131 (by decide) ?_
          refine w_mask [2, 3] ?_
          exact ih0 v15 (zB.wk (a' := 0) (b' := 8) b15x (by decide) (by decide)) g46_ hI46_ hF46_  (by omega)
        · skip
          have b16x : zB a46_3 0 7 := by have q1 := b46_3; have q2 := b13x; simp only [z32lt, z32le, z32eq, Int32.reduceToInt, Int32.toInt_zero] at h51_13; constructor <;> omega
          have b17x : zB v13 1 8 := by have q1 := b46_3; have q2 := b13x; simp only [z32lt, z32le, z32eq, Int32.reduceToInt, Int32.toInt_zero] at h51_13; constructor <;> omega
          refine z_aload_n (pc := 54) C dX8_weighDemands_54 rfl ?_
          refine z_getI (pc := 55) C zf_X8_161 rfl rfl h46_2 dX8_weighDemands_55 ?_
          refine w_gb 0 255 (hI46_ 12 _ 3) (fun v18 b18x => ?_)
          refine z_iload_n (pc := 58) C dX8_weighDemands_58 rfl ?_
          refine z_ishr (pc := 59) C dX8_weighDemands_59 ?_
          refine w_gb (-2147483648) 2147483647 (zB_any _) (fun v19 b19x => ?_)
          refine z_iconst (pc := 60) (v := 1) C dX8_weighDemands_60 (by decide) ?_
          refine z_iand (pc := 61) C dX8_weighDemands_61 ?_
          refine w_gb 0 1 (zand_b b19x (zB.of (x := 1) 1 (by decide)) (by decide)) (fun v20 b20x => ?_)
          refine z_if_eq (pc := 62) 122 C dX8_weighDemands_62 (by decide) (fun h62_20 => ?_) (fun h62_20 => ?_)
          · skip
            have b22x : zB v20 0 0 := by have q1 := b20x; have q2 := (zB.of (x := 0) 0 (by decide)); simp only [z32lt, z32le, z32eq, Int32.reduceToInt, Int32.toInt_zero] at h62_20; constructor <;> omega
            exact ih4 a46_1 b46_1 m46_2 h46_2 a46_3 b16x g46_ hI46_ hF46_  (by omega)
          · skip
            have b23x : zB v20 1 1 := by have q1 := b20x; have q2 := (zB.of (x := 0) 0 (by decide)); simp only [z32lt, z32le, z32eq, Int32.reduceToInt, Int32.toInt_zero] at h62_20; constructor <;> omega
            refine z_aload_n (pc := 65) C dX8_weighDemands_65 rfl ?_
            refine z_aload_n (pc := 66) C dX8_weighDemands_66 rfl ?_
            refine z_getI (pc := 67) C zf_X8_164 rfl rfl h46_2 dX8_weighDemands_67 ?_
            refine w_gb 0 40 (hI46_ 12 _ 4) (fun v24 b24x => ?_)
            refine z_aload_n (pc := 70) C dX8_weighDemands_70 rfl ?_
            refine z_getR (pc := 71) C zf_X8_19 rfl rfl (by decide) dX8_weighDemands_71 ?_
            refine z_iload_n (pc := 74) C dX8_weighDemands_74 rfl ?_
            refine z_aald (pc := 75) C rfl ⟨rfl, by decide⟩ (by decide) (zIx b16x (by decide) (by decide)) dX8_weighDemands_75 ?_
            refine w_gr (by have hq := zN b16x (by decide); show 8 * 0 + a46_3.toNatClampNeg < 16; omega) (fun m25 h25x => ?_)
            refine z_getR (pc := 76) C zf_X8_170 rfl rfl h25x dX8_weighDemands_76 ?_
            refine z_aload_n (pc := 79) C dX8_weighDemands_79 rfl ?_
            refine z_getI (pc := 80) C zf_X8_73 rfl rfl h46_2 dX8_weighDemands_80 ?_
            refine w_gb 0 5 (hI46_ 12 _ 0) (fun v26 b26x => ?_)
            refine z_iald (pc := 83) C rfl h25x (zIx b26x (by decide) (by decide)) dX8_weighDemands_83 ?_
            refine w_gb 0 40 (hI46_ 9 _ _) (fun v27 b27x => ?_)
            refine z_mmax (pc := 84) C zk_X8_174 (Nat.le_of_ble_eq_true rfl) dX8_weighDemands_84 ?_
            refine w_gb 0 40 (by have q9 := zmax_b b24x b27x; constructor <;> omega) (fun v28 b28x => ?_)
            refine z_putI (pc := 87) C zf_X8_164 zp_2_4 rfl rfl h46_2 dX8_weighDemands_87 ?_
            refine w_mem hI46_ hF46_ b28x rfl (fun g29 hI29 hF29 => ?_)
            refine z_aload_n (pc := 90) C dX8_weighDemands_90 rfl ?_
            refine z_aload_n (pc := 91) C dX8_weighDemands_91 rfl ?_
            refine z_getI (pc := 92) C zf_X8_167 rfl rfl h46_2 dX8_weighDemands_92 ?_
            refine w_gb 0 1 (hI29 12 _ 5) (fun v30 b30x => ?_)
            refine z_if_ne (pc := 95) 114 C dX8_weighDemands_95 (by decide) (fun h95_30 => ?_) (fun h95_30 => ?_)
            · skip
              have b32x : zB v30 1 1 := by have q1 := b30x; have q2 := (zB.of (x := 0) 0 (by decide)); simp only [z32lt, z32le, z32eq, Int32.reduceToInt, Int32.toInt_zero] at h95_30; constructor <;> omega
              exact ih2 a46_1 b46_1 m46_2 h46_2 a46_3 b16x m46_2 h46_2 g29 hI29 hF29  (by omega)
            · skip
              have b33x : zB v30 0 0 := by have q1 := b30x; have q2 := (zB.of (x := 0) 0 (by decide)); simp only [z32lt, z32le, z32eq, Int32.reduceToInt, Int32.toInt_zero] at h95_30; constructor <;> omega
              refine z_aload_n (pc := 98) C dX8_weighDemands_98 rfl ?_
              refine z_getR (pc := 99) C zf_X8_19 rfl rfl (by decide) dX8_weighDemands_99 ?_
              refine z_iload_n (pc := 102) C dX8_weighDemands_102 rfl ?_
              refine z_aald (pc := 103) C rfl ⟨rfl, by decide⟩ (by decide) (zIx b16x (by decide) (by decide)) dX8_weighDemands_103 ?_
              refine w_gr (by have hq := zN b16x (by decide); show 8 * 0 + a46_3.toNatClampNeg < 16; omega) (fun m34 h34x => ?_)
              refine z_getI (pc := 104) C zf_X8_126 rfl rfl h34x dX8_weighDemands_104 ?_
              refine w_gb 0 5 (hI29 8 _ 2) (fun v35 b35x => ?_)
              refine z_aload_n (pc := 107) C dX8_weighDemands_107 rfl ?_
              refine z_getI (pc := 108) C zf_X8_73 rfl rfl h46_2 dX8_weighDemands_108 ?_
              refine w_gb 0 5 (hI29 12 _ 0) (fun v36 b36x => ?_)
              refine z_icmp_ne (pc := 111) 118 C dX8_weighDemands_111 (by decide) (fun h111_36 => ?_) (fun h111_36 => ?_)
              · skip
                refine z_iconst (pc := 118) (v := 0) C dX8_weighDemands_118 (by decide) ?_
                exact ih3 a46_1 b46_1 m46_2 h46_2 a46_3 b16x m46_2 h46_2 0 (zB.wk (a' := 0) (b' := 1) (zB.of (x := 0) 0 (by decide)) (by decide) (by decide)) g29 hI29 hF29  (by have qc0 : (0 : Int32).toInt = 0 := (by decide); omega)
              · skip
                exact ih2 a46_1 b46_1 m46_2 h46_2 a46_3 b16x m46_2 h46_2 g29 hI29 hF29  (by omega)
      · skip
        intro a114_1 b114_1 m114_2 h114_2 a114_3 b114_3 m114_s0 h114_s0 g114_ hI114_ hF114_ hM114_
        refine z_iconst (pc := 114) (v := 1) C dX8_weighDemands_114 (by decide) ?_
        refine z_goto (pc := 115) 119 C dX8_weighDemands_115 (by decide) ?_
        exact ih3 a114_1 b114_1 m114_2 h114_2 a114_3 b114_3 m114_s0 h114_s0 1 (zB.wk (a' := 0) (b' := 1) (zB.of (x := 1) 1 (by decide)) (by decide) (by decide)) g114_ hI114_ hF114_  (by have qc0 : (1 : Int32).toInt = 1 := (by decide); omega)
      · skip
        intro a119_1 b119_1 m119_2 h119_2 a119_3 b119_3 m119_s0 h119_s0 a119_s1 b119_s1 g119_ hI119_ hF119_ hM119_
        refine z_putZ (pc := 119) C zf_X8_167 zp_2_5 (z01 b119_s1) rfl rfl h119_s0 dX8_weighDemands_119 ?_
        refine w_mem hI119_ hF119_ b119_s1 rfl (fun g38 hI38 hF38 => ?_)
        exact ih4 a119_1 b119_1 m119_2 h119_2 a119_3 b119_3 g38 hI38 hF38  (by omega)
      · skip
        intro a122_1 b122_1 m122_2 h122_2 a122_3 b122_3 g122_ hI122_ hF122_ hM122_
        refine z_iinc (pc := 122) (v := 1) C dX8_weighDemands_122 rfl (by decide) (by rw [hn]; decide) rfl ?_
        obtain ⟨v39, hv39, e39⟩ : ∃ v : Int32, v = a122_3 + 1 ∧ v.toInt = a122_3.toInt + 1 := ⟨_, rfl, zadd_eb b122_3 (zB.of (x := 1) 1 (by decide)) (by decide) (by decide)⟩
        rw [← hv39]
        have b39x : zB v39 1 8 := by have q9 := b122_3; constructor <;> omega
        refine z_goto (pc := 125) 46 C dX8_weighDemands_125 (by decide) ?_
        exact ih1 a122_1 b122_1 m122_2 h122_2 v39 (zB.wk (a' := 0) (b' := 8) b39x (by decide) (by decide)) g122_ hI122_ hF122_  (by omega)
  obtain ⟨J0, J1, J2, J3, J4⟩ := J 709
  show Z X 0 [some (zr 1 0), none, none, none] [] f
  refine z_iconst (pc := 0) (v := 0) C dX8_weighDemands_0 (by decide) ?_
  refine z_istore_n (pc := 1) C dX8_weighDemands_1 (by rw [hn]; decide) rfl ?_
  exact J0 0 (zB.wk (a' := 0) (b' := 8) (zB.of (x := 0) 0 (by decide)) (by decide) (by decide)) f hI hF  (by have qc0 : (0 : Int32).toInt = 0 := (by decide); omega)

set_option maxRecDepth 100000 in
set_option maxHeartbeats 4000000 in
theorem w_X8_placeOf (d : Nat) (f : zM) (a1 : Int32) (b1 : zB a1 0 7) (hI : zInv f) : ZM (d + 1) yX8_placeOf cX8_placeOf 5 (some .int) [zr 1 0, zi a1] f (fun r g => (∃ v, r = some (zi v) ∧ zB v (-2147483648) 2147483647) ∧ zInv g ∧ zFr [] f g) := by
  refine ZM.intro (by decide +kernel) (Nat.le_of_ble_eq_true rfl) ?_
  intro X C hr hn
  have hF : zFr [] f f := zFr.rf _ _
  have J : ∀ t : Nat, (∀ a4_2 : Int32, zB a4_2 (-2147483648) 2147483647 → ∀ a4_3 : Int32, zB a4_3 0 8 → ∀ g : zM, zInv g → zFr [] f g → (3 + 6 * (8 - a4_3.toInt) : Int) < t → Z X 4 [some (zr 1 0), some (zi a1), some (zi a4_2), some (zi a4_3), none] [] g) ∧ (∀ a57_2 : Int32, zB a57_2 (-2147483648) 2147483647 → ∀ a57_3 : Int32, zB a57_3 0 7 → ∀ a57_4 : Int32, zB a57_4 (-99) 0 → ∀ a57_s0 : Int32, zB a57_s0 (-2147483648) 2147483647 → ∀ g : zM, zInv g → zFr [] f g → (2 + 6 * (8 - a57_3.toInt) : Int) < t → Z X 57 [some (zr 1 0), some (zi a1), some (zi a57_2), some (zi a57_3), some (zi a57_4)] [zi a57_s0] g) ∧ (∀ a61_2 : Int32, zB a61_2 (-2147483648) 2147483647 → ∀ a61_3 : Int32, zB a61_3 0 7 → ∀ a61_4 : Int32, zB a61_4 (-99) 99 → ∀ a61_s0 : Int32, zB a61_s0 (-2147483648) 2147483647 → ∀ g : zM, zInv g → zFr [] f g → (1 + 6 * (8 - a61_3.toInt) : Int) < t → Z X 61 [some (zr 1 0), some (zi a1), some (zi a61_2), some (zi a61_3), some (zi a61_4)] [zi a61_s0] g) ∧ (∀ a62_2 : Int32, zB a62_2 (-2147483648) 2147483647 → ∀ a62_3 : Int32, zB a62_3 0 7 → ∀ a62_4 : Int32, zB a62_4 (-99) 99 → ∀ a62_s0 : Int32, zB a62_s0 (-2147483648) 2147483647 → ∀ a62_s1 : Int32, zB a62_s1 0 1 → ∀ g : zM, zInv g → zFr [] f g → (0 + 6 * (8 - a62_3.toInt) : Int) < t → Z X 62 [some (zr 1 0), some (zi a1), some (zi a62_2), some (zi a62_3), some (zi a62_4)] [zi a62_s1, zi a62_s0] g) := by
    intro t
    induction t with
    | zero =>
      refine ⟨?_, ?_, ?_, ?_⟩ <;> (intros; exfalso; omega)
    | succ t ih =>
      obtain ⟨ih0, ih1, ih2, ih3⟩ := ih
      refine ⟨?_, ?_, ?_, ?_⟩
      · skip
        intro a4_2 b4_2 a4_3 b4_3 g4_ hI4_ hF4_ hM4_
        refine z_iload_n (pc := 4) C dX8_placeOf_4 rfl ?_
        refine z_aload_n (pc := 5) C dX8_placeOf_5 rfl ?_
        refine z_getI (pc := 6) C zf_X8_70 rfl rfl (by decide) dX8_placeOf_6 ?_
        refine w_gb 0 8 (hI4_ 1 _ 8) (fun v1 b1x => ?_)
        refine z_icmp_ge (pc := 9) 70 C dX8_placeOf_9 (by decide) (fun h9_1 => ?_) (fun h9_1 => ?_)
        · skip
          refine z_iload_n (pc := 70) C dX8_placeOf_70 rfl ?_
          exact z_iret (pc := 71) C hr dX8_placeOf_71 ⟨⟨_, rfl, b4_2⟩, hI4_, hF4_⟩
        · skip
          have b3x : zB a4_3 0 7 := by have q1 := b4_3; have q2 := b1x; simp only [z32lt, z32le, z32eq, Int32.reduceToInt, Int32.toInt_zero] at h9_1; constructor <;> omega
          have b4x : zB v1 1 8 := by have q1 := b4_3; have q2 := b1x; simp only [z32lt, z32le, z32eq, Int32.reduceToInt, Int32.toInt_zero] at h9_1; constructor <;> omega
          refine z_aload_n (pc := 12) C dX8_placeOf_12 rfl ?_
          refine z_getR (pc := 13) C zf_X8_31 rfl rfl (by decide) dX8_placeOf_13 ?_
          refine z_iload_n (pc := 16) C dX8_placeOf_16 rfl ?_
          refine z_aald (pc := 17) C rfl ⟨rfl, by decide⟩ (by decide) (zIx b3x (by decide) (by decide)) dX8_placeOf_17 ?_
          refine w_gr (by have hq := zN b3x (by decide); show 8 * 0 + a4_3.toNatClampNeg < 16; omega) (fun m5 h5x => ?_)
          refine z_aload_n (pc := 18) C dX8_placeOf_18 rfl ?_
          refine z_getR (pc := 19) C zf_X8_31 rfl rfl (by decide) dX8_placeOf_19 ?_
          refine z_iload_n (pc := 22) C dX8_placeOf_22 rfl ?_
          refine z_aald (pc := 23) C rfl ⟨rfl, by decide⟩ (by decide) (zIx b1 (by decide) (by decide)) dX8_placeOf_23 ?_
          refine w_gr (by have hq := zN b1 (by decide); show 8 * 0 + a1.toNatClampNeg < 16; omega) (fun m6 h6x => ?_)
          refine z_callV (pc := 24) C zk_X8_184 (w_X2_order _ _ m5 h5x m6 h6x hI4_) rfl rfl h5x rfl rfl (Nat.le_of_ble_eq_true rfl) dX8_placeOf_24 (fun r7 g7 q7 => ?_)
          obtain ⟨⟨v7, rfl, b7x⟩, hI7, hF7q⟩ := q7
          obtain rfl := zFr_nil hF7q
          simp only [Option.toList, List.cons_append, List.nil_append]
          refine z_istore (pc := 27) C dX8_placeOf_27 (by rw [hn]; decide) rfl ?_
          refine z_iload_n (pc := 29) C dX8_placeOf_29 rfl ?_
          refine z_aload_n (pc := 30) C dX8_placeOf_30 rfl ?_
          refine z_getR (pc := 31) C zf_X8_31 rfl rfl (by decide) dX8_placeOf_31 ?_
          refine z_iload_n (pc := 34) C dX8_placeOf_34 rfl ?_
          refine z_aald (pc := 35) C rfl ⟨rfl, by decide⟩ (by decide) (zIx b3x (by decide) (by decide)) dX8_placeOf_35 ?_
          refine w_gr (by have hq := zN b3x (by decide); show 8 * 0 + a4_3.toNatClampNeg < 16; omega) (fun m8 h8x => ?_)
          refine z_getI (pc := 36) C zf_X8_161 rfl rfl h8x dX8_placeOf_36 ?_
          refine w_gb 0 255 (hI4_ 12 _ 3) (fun v9 b9x => ?_)
          refine z_if_eq (pc := 39) 61 C dX8_placeOf_39 (by decide) (fun h39_9 => ?_) (fun h39_9 => ?_)
          · skip
            have b11x : zB v9 0 0 := by have q1 := b9x; have q2 := (zB.of (x := 0) 0 (by decide)); simp only [z32lt, z32le, z32eq, Int32.reduceToInt, Int32.toInt_zero] at h39_9; constructor <;> omega
            exact ih2 a4_2 b4_2 a4_3 b3x v7 b7x a4_2 b4_2 g4_ hI4_ hF4_  (by omega)
          · skip
            have b12x : zB v9 1 255 := by have q1 := b9x; have q2 := (zB.of (x := 0) 0 (by decide)); simp only [z32lt, z32le, z32eq, Int32.reduceToInt, Int32.toInt_zero] at h39_9; constructor <;> omega
            refine z_iload (pc := 42) C dX8_placeOf_42 rfl ?_
            refine z_if_lt (pc := 44) 57 C dX8_placeOf_44 (by decide) (fun h44_12 => ?_) (fun h44_12 => ?_)
            · skip
              have b14x : zB v7 (-99) (-1) := by have q1 := b7x; have q2 := (zB.of (x := 0) 0 (by decide)); simp only [z32lt, z32le, z32eq, Int32.reduceToInt, Int32.toInt_zero] at h44_12; constructor <;> omega
              exact ih1 a4_2 b4_2 a4_3 b3x v7 (zB.wk (a' := (-99)) (b' := 0) b14x (by decide) (by decide)) a4_2 b4_2 g4_ hI4_ hF4_  (by omega)
            · skip
              have b15x : zB v7 0 99 := by have q1 := b7x; have q2 := (zB.of (x := 0) 0 (by decide)); simp only [z32lt, z32le, z32eq, Int32.reduceToInt, Int32.toInt_zero] at h44_12; constructor <;> omega
              refine z_iload (pc := 47) C dX8_placeOf_47 rfl ?_
              refine z_if_ne (pc := 49) 61 C dX8_placeOf_49 (by decide) (fun h49_15 => ?_) (fun h49_15 => ?_)
              · skip
                have b17x : zB v7 1 99 := by have q1 := b15x; have q2 := (zB.of (x := 0) 0 (by decide)); simp only [z32lt, z32le, z32eq, Int32.reduceToInt, Int32.toInt_zero] at h49_15; constructor <;> omega
                exact ih2 a4_2 b4_2 a4_3 b3x v7 (zB.wk (a' := (-99)) (b' := 99) b17x (by decide) (by decide)) a4_2 b4_2 g4_ hI4_ hF4_  (by omega)
              · skip
                have b18x : zB v7 0 0 := by have q1 := b15x; have q2 := (zB.of (x := 0) 0 (by decide)); simp only [z32lt, z32le, z32eq, Int32.reduceToInt, Int32.toInt_zero] at h49_15; constructor <;> omega
                refine z_iload_n (pc := 52) C dX8_placeOf_52 rfl ?_
                refine z_iload_n (pc := 53) C dX8_placeOf_53 rfl ?_
                refine z_icmp_ge (pc := 54) 61 C dX8_placeOf_54 (by decide) (fun h54_18 => ?_) (fun h54_18 => ?_)
                · skip
                  exact ih2 a4_2 b4_2 a4_3 b3x v7 (zB.wk (a' := (-99)) (b' := 99) b18x (by decide) (by decide)) a4_2 b4_2 g4_ hI4_ hF4_  (by omega)
                · skip
                  have b20x : zB a4_3 0 6 := by have q1 := b3x; have q2 := b1; simp only [z32lt, z32le, z32eq, Int32.reduceToInt, Int32.toInt_zero] at h54_18; constructor <;> omega
                  have b21x : zB a1 1 7 := by have q1 := b3x; have q2 := b1; simp only [z32lt, z32le, z32eq, Int32.reduceToInt, Int32.toInt_zero] at h54_18; constructor <;> omega
                  exact ih1 a4_2 b4_2 a4_3 (zB.wk (a' := 0) (b' := 7) b20x (by decide) (by decide)) v7 (zB.wk (a' := (-99)) (b' := 0) b18x (by decide) (by decide)) a4_2 b4_2 g4_ hI4_ hF4_  (by omega)
      · skip
        intro a57_2 b57_2 a57_3 b57_3 a57_4 b57_4 a57_s0 b57_s0 g57_ hI57_ hF57_ hM57_
        refine z_iconst (pc := 57) (v := 1) C dX8_placeOf_57 (by decide) ?_
        refine z_goto (pc := 58) 62 C dX8_placeOf_58 (by decide) ?_
        exact ih3 a57_2 b57_2 a57_3 b57_3 a57_4 (zB.wk (a' := (-99)) (b' := 99) b57_4 (by decide) (by decide)) a57_s0 b57_s0 1 (zB.wk (a' := 0) (b' := 1) (zB.of (x := 1) 1 (by decide)) (by decide) (by decide)) g57_ hI57_ hF57_  (by have qc0 : (1 : Int32).toInt = 1 := (by decide); omega)
      · skip
        intro a61_2 b61_2 a61_3 b61_3 a61_4 b61_4 a61_s0 b61_s0 g61_ hI61_ hF61_ hM61_
        refine z_iconst (pc := 61) (v := 0) C dX8_placeOf_61 (by decide) ?_
        exact ih3 a61_2 b61_2 a61_3 b61_3 a61_4 b61_4 a61_s0 b61_s0 0 (zB.wk (a' := 0) (b' := 1) (zB.of (x := 0) 0 (by decide)) (by decide) (by decide)) g61_ hI61_ hF61_  (by have qc0 : (0 : Int32).toInt = 0 := (by decide); omega)
      · skip
        intro a62_2 b62_2 a62_3 b62_3 a62_4 b62_4 a62_s0 b62_s0 a62_s1 b62_s1 g62_ hI62_ hF62_ hM62_
        refine z_iadd (pc := 62) C dX8_placeOf_62 ?_
        refine w_gb (-2147483648) 2147483647 (zB_any _) (fun v22 b22x => ?_)
        refine z_istore_n (pc := 63) C dX8_placeOf_63 (by rw [hn]; decide) rfl ?_
        refine z_iinc (pc := 64) (v := 1) C dX8_placeOf_64 rfl (by decide) (by rw [hn]; decide) rfl ?_
        obtain ⟨v23, hv23, e23⟩ : ∃ v : Int32, v = a62_3 + 1 ∧ v.toInt = a62_3.toInt + 1 := ⟨_, rfl, zadd_eb b62_3 (zB.of (x := 1) 1 (by decide)) (by decide) (by decide)⟩
        rw [← hv23]
        have b23x : zB v23 1 8 := by have q9 := b62_3; constructor <;> omega
        refine z_goto (pc := 67) 4 C dX8_placeOf_67 (by decide) ?_
        refine w_mask [4] ?_
        exact ih0 v22 b22x v23 (zB.wk (a' := 0) (b' := 8) b23x (by decide) (by decide)) g62_ hI62_ hF62_  (by omega)
  obtain ⟨J0, J1, J2, J3⟩ := J 69
  show Z X 0 [some (zr 1 0), some (zi a1), none, none, none] [] f
  refine z_iconst (pc := 0) (v := 0) C dX8_placeOf_0 (by decide) ?_
  refine z_istore_n (pc := 1) C dX8_placeOf_1 (by rw [hn]; decide) rfl ?_
  refine z_iconst (pc := 2) (v := 0) C dX8_placeOf_2 (by decide) ?_
  refine z_istore_n (pc := 3) C dX8_placeOf_3 (by rw [hn]; decide) rfl ?_
  exact J0 0 (zB.wk (a' := (-2147483648)) (b' := 2147483647) (zB.of (x := 0) 0 (by decide)) (by decide) (by decide)) 0 (zB.wk (a' := 0) (b' := 8) (zB.of (x := 0) 0 (by decide)) (by decide) (by decide)) f hI hF  (by have qc0 : (0 : Int32).toInt = 0 := (by decide); omega)
