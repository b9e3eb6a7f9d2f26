set_option maxRecDepth 100000 in
set_option maxHeartbeats 4000000 in
theorem w_X10_readCrime (d : Nat) (f : zM) (a1 : Int32) (b1 : zB a1 0 5) (pf25_0_18 : zB (f 25 0 18) 0 11) (hI : zInv f) : ZM (d + 2) yX10_readCrime cX10_readCrime 7 (some .boolean) [zr 25 0, zi a1] f (fun r g => (∃ v, r = some (zi v) ∧ zB v 0 1) ∧ zInv g ∧ zFr [(25, some 17), (25, some 18), (37, none)] f g ∧ (∀ v : Int32, r = some (zi v) → (g 25 0 18).toInt ≤ (f 25 0 18).toInt + 1)) := by
  refine ZM.intro (by decide +kernel) (Nat.le_of_ble_eq_true rfl) ?_
  intro X C hr hn
  have hF : zFr [(25, some 17), (25, some 18), (37, none)] f f := zFr.rf _ _
  have J : ∀ t : Nat, (∀ a46_2 : Int32, zB a46_2 0 66 → a46_2.toInt % 6 = 0 → ∀ a46_3 : Int32, zB a46_3 1 63 → ∀ a46_4 : Int32, zB a46_4 0 63 → ∀ g : zM, zInv g → zFr [(25, some 17), (25, some 18), (37, none)] f g → zB (g 25 0 18) 0 11 → ((g 25 0 18).toInt = (f 25 0 18).toInt) → (3 : Int) < t → Z X 46 [some (zr 25 0), some (zi a1), some (zi a46_2), some (zi a46_3), some (zi a46_4), none, none] [] g) ∧ (∀ a78_2 : Int32, zB a78_2 0 66 → a78_2.toInt % 6 = 0 → ∀ a78_3 : Int32, zB a78_3 1 63 → ∀ a78_4 : Int32, zB a78_4 0 63 → ∀ a78_5 : Int32, zB a78_5 (-1) 40 → ∀ g : zM, zInv g → zFr [(25, some 17), (25, some 18), (37, none)] f g → zB (g 25 0 18) 0 11 → ((g 25 0 18).toInt = (f 25 0 18).toInt) → (2 : Int) < t → Z X 78 [some (zr 25 0), some (zi a1), some (zi a78_2), some (zi a78_3), some (zi a78_4), some (zi a78_5), none] [] g) ∧ (∀ a92_2 : Int32, zB a92_2 0 66 → a92_2.toInt % 6 = 0 → ∀ a92_3 : Int32, zB a92_3 1 63 → ∀ a92_4 : Int32, zB a92_4 0 63 → ∀ a92_5 : Int32, zB a92_5 0 40 → ∀ a92_s1 : Int32, zB a92_s1 1 40 → ∀ g : zM, zInv g → zFr [(25, some 17), (25, some 18), (37, none)] f g → zB (g 25 0 18) 0 11 → ((g 25 0 18).toInt = (f 25 0 18).toInt) → (1 : Int) < t → Z X 92 [some (zr 25 0), some (zi a1), some (zi a92_2), some (zi a92_3), some (zi a92_4), some (zi a92_5), none] [zi a92_s1, zr 25 0] g) ∧ (∀ a173_2 : Int32, zB a173_2 0 66 → a173_2.toInt % 6 = 0 → ∀ a173_3 : Int32, zB a173_3 1 63 → ∀ a173_4 : Int32, zB a173_4 0 63 → ∀ a173_5 : Int32, zB a173_5 0 40 → ∀ a173_6 : Int32, zB a173_6 0 40 → ∀ a173_s1 : Int32, zB a173_s1 5 71 → a173_s1.toInt % 6 = 5 → ∀ a173_s2 : Int32, zB a173_s2 0 1 → ∀ g : zM, zInv g → zFr [(25, some 17), (25, some 18), (37, none)] f g → zB (g 25 0 18) 0 11 → ((g 25 0 18).toInt = (f 25 0 18).toInt) → (0 : Int) < t → Z X 173 [some (zr 25 0), some (zi a1), some (zi a173_2), some (zi a173_3), some (zi a173_4), some (zi a173_5), some (zi a173_6)] [zi a173_s2, zi a173_s1, zr 37 0] g) := by
    intro t
    induction t with
    | zero =>
      refine ⟨?_, ?_, ?_, ?_⟩ <;> (intros; exfalso; omega)
    | succ t ih =>
      obtain ⟨ih0, ih1, ih2, ih3⟩ := ih
      refine ⟨?_, ?_, ?_, ?_⟩
      · skip
        intro a46_2 b46_2 n46_2 a46_3 b46_3 a46_4 b46_4 g46_ hI46_ hF46_ f46_25_0_18 hR46_0 hM46_
        refine z_aload_n (pc := 46) C dX10_readCrime_46 rfl ?_
        refine z_iconst (pc := 47) (v := 0) C dX10_readCrime_47 (by decide) ?_
        refine z_bipush (pc := 48) (v := 40) C dX10_readCrime_48 (by decide) ?_
        refine z_callV (pc := 50) C zk_X10_230 (w_X10_readNumber _ _ 0 (zB.wk (a' := 0) (b' := 40) (zB.of (x := 0) 0 (by decide)) (by decide) (by decide)) 40 (zB.wk (a' := 0) (b' := 99) (zB.of (x := 40) 40 (by decide)) (by decide) (by decide)) hI46_) rfl rfl (by decide) rfl rfl (Nat.le_of_ble_eq_true rfl) dX10_readCrime_50 (fun r1 g1 q1 => ?_)
        have qa1_0 : (0 : Int32).toInt = 0 := by decide
        have qa1_40 : (40 : Int32).toInt = 40 := by decide
        obtain ⟨⟨v1, rfl, b1x⟩, hI1, hF1q, hp1_0⟩ := q1
        have hp1_0 := hp1_0 _ rfl
        have b1y : zB v1 (-1) 40 := by have q8 := (zB.of (x := 40) 40 (by decide)); constructor <;> omega
        have hF1 := zFr.tr hF46_ hF1q (by decide)
        simp only [Option.toList, List.cons_append, List.nil_append]
        have ek1_25_0_18 : (g1 25 0 18).toInt = (g46_ 25 0 18).toInt := by rw [hF1q 25 0 18 rfl]
        have c1_25_0_18x : zB (g1 25 0 18) 0 11 := by have q9 := f46_25_0_18; constructor <;> omega
        refine z_istore (pc := 53) C dX10_readCrime_53 (by rw [hn]; decide) rfl ?_
        refine z_iload (pc := 55) C dX10_readCrime_55 rfl ?_
        refine z_if_lt (pc := 57) 78 C dX10_readCrime_57 (by decide) (fun h57_1 => ?_) (fun h57_1 => ?_)
        · skip
          have b3x : zB v1 (-1) (-1) := by have q1 := b1y; have q2 := (zB.of (x := 0) 0 (by decide)); simp only [z32lt, z32le, z32eq, Int32.reduceToInt, Int32.toInt_zero] at h57_1; constructor <;> omega
          exact ih1 a46_2 b46_2 (by omega) a46_3 b46_3 a46_4 b46_4 v1 (zB.wk (a' := (-1)) (b' := 40) b3x (by decide) (by decide)) g1 hI1 hF1 c1_25_0_18x (by omega) (by omega)
        · skip
          have b4x : zB v1 0 40 := by have q1 := b1y; have q2 := (zB.of (x := 0) 0 (by decide)); simp only [z32lt, z32le, z32eq, Int32.reduceToInt, Int32.toInt_zero] at h57_1; constructor <;> omega
          refine z_aload_n (pc := 60) C dX10_readCrime_60 rfl ?_
          refine z_bipush (pc := 61) (v := 46) C dX10_readCrime_61 (by decide) ?_
          refine z_callV (pc := 63) C zk_X10_227 (w_X10_takes _ _ 46 (zB.wk (a' := 1) (b' := 126) (zB.of (x := 46) 46 (by decide)) (by decide) (by decide)) hI1) rfl rfl (by decide) rfl rfl (Nat.le_of_ble_eq_true rfl) dX10_readCrime_63 (fun r5 g5 q5 => ?_)
          obtain ⟨⟨v5, rfl, b5x⟩, hI5, hF5q⟩ := q5
          have hF5 := zFr.tr hF1 hF5q (by decide)
          simp only [Option.toList, List.cons_append, List.nil_append]
          have ek5_25_0_18 : (g5 25 0 18).toInt = (g1 25 0 18).toInt := by rw [hF5q 25 0 18 rfl]
          have c5_25_0_18x : zB (g5 25 0 18) 0 11 := by have q9 := c1_25_0_18x; constructor <;> omega
          refine z_if_eq (pc := 66) 78 C dX10_readCrime_66 (by decide) (fun h66_5 => ?_) (fun h66_5 => ?_)
          · skip
            have b7x : zB v5 0 0 := by have q1 := b5x; have q2 := (zB.of (x := 0) 0 (by decide)); simp only [z32lt, z32le, z32eq, Int32.reduceToInt, Int32.toInt_zero] at h66_5; constructor <;> omega
            exact ih1 a46_2 b46_2 (by omega) a46_3 b46_3 a46_4 b46_4 v1 (zB.wk (a' := (-1)) (b' := 40) b4x (by decide) (by decide)) g5 hI5 hF5 c5_25_0_18x (by omega) (by omega)
          · skip
            have b8x : zB v5 1 1 := by have q1 := b5x; have q2 := (zB.of (x := 0) 0 (by decide)); simp only [z32lt, z32le, z32eq, Int32.reduceToInt, Int32.toInt_zero] at h66_5; constructor <;> omega
            refine z_aload_n (pc := 69) C dX10_readCrime_69 rfl ?_
            refine z_bipush (pc := 70) (v := 46) C dX10_readCrime_70 (by decide) ?_
            refine z_callV (pc := 72) C zk_X10_227 (w_X10_takes _ _ 46 (zB.wk (a' := 1) (b' := 126) (zB.of (x := 46) 46 (by decide)) (by decide) (by decide)) hI5) rfl rfl (by decide) rfl rfl (Nat.le_of_ble_eq_true rfl) dX10_readCrime_72 (fun r9 g9 q9 => ?_)
            obtain ⟨⟨v9, rfl, b9x⟩, hI9, hF9q⟩ := q9
            have hF9 := zFr.tr hF5 hF9q (by decide)
            simp only [Option.toList, List.cons_append, List.nil_append]
            have ek9_25_0_18 : (g9 25 0 18).toInt = (g5 25 0 18).toInt := by rw [hF9q 25 0 18 rfl]
            have c9_25_0_18x : zB (g9 25 0 18) 0 11 := by have q9 := c5_25_0_18x; constructor <;> omega
            refine z_if_ne (pc := 75) 80 C dX10_readCrime_75 (by decide) (fun h75_9 => ?_) (fun h75_9 => ?_)
            · skip
              have b11x : zB v9 1 1 := by have q1 := b9x; have q2 := (zB.of (x := 0) 0 (by decide)); simp only [z32lt, z32le, z32eq, Int32.reduceToInt, Int32.toInt_zero] at h75_9; constructor <;> omega
              refine z_aload_n (pc := 80) C dX10_readCrime_80 rfl ?_
              refine z_iload (pc := 81) C dX10_readCrime_81 rfl ?_
              refine z_if_le (pc := 83) 91 C dX10_readCrime_83 (by decide) (fun h83_11 => ?_) (fun h83_11 => ?_)
              · skip
                have b13x : zB v1 0 0 := by have q1 := b4x; have q2 := (zB.of (x := 0) 0 (by decide)); simp only [z32lt, z32le, z32eq, Int32.reduceToInt, Int32.toInt_zero] at h83_11; constructor <;> omega
                refine z_iconst (pc := 91) (v := 1) C dX10_readCrime_91 (by decide) ?_
                exact ih2 a46_2 b46_2 (by have qc0 : (1 : Int32).toInt = 1 := (by decide); omega) a46_3 b46_3 a46_4 b46_4 v1 (zB.wk (a' := 0) (b' := 40) b13x (by decide) (by decide)) 1 (zB.wk (a' := 1) (b' := 40) (zB.of (x := 1) 1 (by decide)) (by decide) (by decide)) g9 hI9 hF9 c9_25_0_18x (by have qc0 : (1 : Int32).toInt = 1 := (by decide); omega) (by have qc0 : (1 : Int32).toInt = 1 := (by decide); omega)
              · skip
                have b14x : zB v1 1 40 := by have q1 := b4x; have q2 := (zB.of (x := 0) 0 (by decide)); simp only [z32lt, z32le, z32eq, Int32.reduceToInt, Int32.toInt_zero] at h83_11; constructor <;> omega
                refine z_iload (pc := 86) C dX10_readCrime_86 rfl ?_
                refine z_goto (pc := 88) 92 C dX10_readCrime_88 (by decide) ?_
                exact ih2 a46_2 b46_2 (by omega) a46_3 b46_3 a46_4 b46_4 v1 (zB.wk (a' := 0) (b' := 40) b14x (by decide) (by decide)) v1 b14x g9 hI9 hF9 c9_25_0_18x (by omega) (by omega)
            · skip
              have b15x : zB v9 0 0 := by have q1 := b9x; have q2 := (zB.of (x := 0) 0 (by decide)); simp only [z32lt, z32le, z32eq, Int32.reduceToInt, Int32.toInt_zero] at h75_9; constructor <;> omega
              exact ih1 a46_2 b46_2 (by omega) a46_3 b46_3 a46_4 b46_4 v1 (zB.wk (a' := (-1)) (b' := 40) b4x (by decide) (by decide)) g9 hI9 hF9 c9_25_0_18x (by omega) (by omega)
      · skip
        intro a78_2 b78_2 n78_2 a78_3 b78_3 a78_4 b78_4 a78_5 b78_5 g78_ hI78_ hF78_ f78_25_0_18 hR78_0 hM78_
        refine z_iconst (pc := 78) (v := 0) C dX10_readCrime_78 (by decide) ?_
        exact z_zret (pc := 79) C hr (z01 (zB.wk (a' := 0) (b' := 1) (zB.of (x := 0) 0 (by decide)) (by decide) (by decide))) dX10_readCrime_79 ⟨⟨_, rfl, (zB.wk (a' := 0) (b' := 1) (zB.of (x := 0) 0 (by decide)) (by decide) (by decide))⟩, hI78_, hF78_, (by intro v hv; cases hv; have qc0 : (0 : Int32).toInt = 0 := (by decide); omega)⟩
      · skip
        intro a92_2 b92_2 n92_2 a92_3 b92_3 a92_4 b92_4 a92_5 b92_5 a92_s1 b92_s1 g92_ hI92_ hF92_ f92_25_0_18 hR92_0 hM92_
        refine z_bipush (pc := 92) (v := 40) C dX10_readCrime_92 (by decide) ?_
        refine z_callV (pc := 94) C zk_X10_230 (w_X10_readNumber _ _ a92_s1 (zB.wk (a' := 0) (b' := 40) b92_s1 (by decide) (by decide)) 40 (zB.wk (a' := 0) (b' := 99) (zB.of (x := 40) 40 (by decide)) (by decide) (by decide)) hI92_) rfl rfl (by decide) rfl rfl (Nat.le_of_ble_eq_true rfl) dX10_readCrime_94 (fun r16 g16 q16 => ?_)
        have qa16_40 : (40 : Int32).toInt = 40 := by decide
        obtain ⟨⟨v16, rfl, b16x⟩, hI16, hF16q, hp16_0⟩ := q16
        have hp16_0 := hp16_0 _ rfl
        have b16y : zB v16 (-1) 40 := by have q8 := (zB.of (x := 40) 40 (by decide)); constructor <;> omega
        have hF16 := zFr.tr hF92_ hF16q (by decide)
        simp only [Option.toList, List.cons_append, List.nil_append]
        have ek16_25_0_18 : (g16 25 0 18).toInt = (g92_ 25 0 18).toInt := by rw [hF16q 25 0 18 rfl]
        have c16_25_0_18x : zB (g16 25 0 18) 0 11 := by have q9 := f92_25_0_18; constructor <;> omega
        refine z_istore (pc := 97) C dX10_readCrime_97 (by rw [hn]; decide) rfl ?_
        refine z_iload (pc := 99) C dX10_readCrime_99 rfl ?_
        refine z_if_ge (pc := 101) 106 C dX10_readCrime_101 (by decide) (fun h101_16 => ?_) (fun h101_16 => ?_)
        · skip
          have b18x : zB v16 0 40 := by have q1 := b16y; have q2 := (zB.of (x := 0) 0 (by decide)); simp only [z32lt, z32le, z32eq, Int32.reduceToInt, Int32.toInt_zero] at h101_16; constructor <;> omega
          refine z_aload_n (pc := 106) C dX10_readCrime_106 rfl ?_
          refine z_getR (pc := 107) C zf_X10_43 rfl rfl (by decide) dX10_readCrime_107 ?_
          refine z_iload_n (pc := 110) C dX10_readCrime_110 rfl ?_
          refine z_iload_n (pc := 111) C dX10_readCrime_111 rfl ?_
          refine z_iast (pc := 112) C rfl (by decide) (zIx b92_2 (by decide) (by decide)) dX10_readCrime_112 ?_
          refine w_mem2 hI16 hF16 (by rw [zrg37 (r := 0) (by have hq : a92_2.toNatClampNeg = a92_2.toInt.toNat := rfl; have hq2 := b92_2; omega)]; exact b1) rfl (fun g19 hI19 hF19 hq19 hx19 => ?_)
          have ek19_25_0_18 : (g19 25 0 18).toInt = (g16 25 0 18).toInt := by rw [hq19 25 0 18 (by omega)]
          have c19_25_0_18x : zB (g19 25 0 18) 0 11 := by have q9 := c16_25_0_18x; constructor <;> omega
          refine z_aload_n (pc := 113) C dX10_readCrime_113 rfl ?_
          refine z_getR (pc := 114) C zf_X10_43 rfl rfl (by decide) dX10_readCrime_114 ?_
          refine z_iload_n (pc := 117) C dX10_readCrime_117 rfl ?_
          refine z_iconst (pc := 118) (v := 1) C dX10_readCrime_118 (by decide) ?_
          refine z_iadd (pc := 119) C dX10_readCrime_119 ?_
          refine w_gp (fun v => v.toInt = a92_2.toInt + 1) (zadd_eb b92_2 (zB.of (x := 1) 1 (by decide)) (by decide) (by decide)) (fun v20 e20 => ?_)
          have b20x : zB v20 1 67 := by have q1 := b92_2; have q2 := (zB.of (x := 1) 1 (by decide)); constructor <;> omega
          refine z_iload_n (pc := 120) C dX10_readCrime_120 rfl ?_
          refine z_iast (pc := 121) C rfl (by decide) (zIx b20x (by decide) (by decide)) dX10_readCrime_121 ?_
          refine w_mem2 hI19 hF19 (by rw [zrg37 (r := 1) (by have hq : v20.toNatClampNeg = v20.toInt.toNat := rfl; have hq2 := b20x; omega)]; exact (zB.wk (a' := 0) (b' := 63) b92_3 (by decide) (by decide))) rfl (fun g21 hI21 hF21 hq21 hx21 => ?_)
          have ek21_25_0_18 : (g21 25 0 18).toInt = (g19 25 0 18).toInt := by rw [hq21 25 0 18 (by omega)]
          have c21_25_0_18x : zB (g21 25 0 18) 0 11 := by have q9 := c19_25_0_18x; constructor <;> omega
          refine z_aload_n (pc := 122) C dX10_readCrime_122 rfl ?_
          refine z_getR (pc := 123) C zf_X10_43 rfl rfl (by decide) dX10_readCrime_123 ?_
          refine z_iload_n (pc := 126) C dX10_readCrime_126 rfl ?_
          refine z_iconst (pc := 127) (v := 2) C dX10_readCrime_127 (by decide) ?_
          refine z_iadd (pc := 128) C dX10_readCrime_128 ?_
          refine w_gp (fun v => v.toInt = a92_2.toInt + 2) (zadd_eb b92_2 (zB.of (x := 2) 2 (by decide)) (by decide) (by decide)) (fun v22 e22 => ?_)
          have b22x : zB v22 2 68 := by have q1 := b92_2; have q2 := (zB.of (x := 2) 2 (by decide)); constructor <;> omega
          refine z_iload (pc := 129) C dX10_readCrime_129 rfl ?_
          refine z_iast (pc := 131) C rfl (by decide) (zIx b22x (by decide) (by decide)) dX10_readCrime_131 ?_
          refine w_mem2 hI21 hF21 (by rw [zrg37 (r := 2) (by have hq : v22.toNatClampNeg = v22.toInt.toNat := rfl; have hq2 := b22x; omega)]; exact b92_4) rfl (fun g23 hI23 hF23 hq23 hx23 => ?_)
          have ek23_25_0_18 : (g23 25 0 18).toInt = (g21 25 0 18).toInt := by rw [hq23 25 0 18 (by omega)]
          have c23_25_0_18x : zB (g23 25 0 18) 0 11 := by have q9 := c21_25_0_18x; constructor <;> omega
          refine z_aload_n (pc := 132) C dX10_readCrime_132 rfl ?_
          refine z_getR (pc := 133) C zf_X10_43 rfl rfl (by decide) dX10_readCrime_133 ?_
          refine z_iload_n (pc := 136) C dX10_readCrime_136 rfl ?_
          refine z_iconst (pc := 137) (v := 3) C dX10_readCrime_137 (by decide) ?_
          refine z_iadd (pc := 138) C dX10_readCrime_138 ?_
          refine w_gp (fun v => v.toInt = a92_2.toInt + 3) (zadd_eb b92_2 (zB.of (x := 3) 3 (by decide)) (by decide) (by decide)) (fun v24 e24 => ?_)
          have b24x : zB v24 3 69 := by have q1 := b92_2; have q2 := (zB.of (x := 3) 3 (by decide)); constructor <;> omega
          refine z_iload (pc := 139) C dX10_readCrime_139 rfl ?_
          refine z_iast (pc := 141) C rfl (by decide) (zIx b24x (by decide) (by decide)) dX10_readCrime_141 ?_
          refine w_mem2 hI23 hF23 (by rw [zrg37 (r := 3) (by have hq : v24.toNatClampNeg = v24.toInt.toNat := rfl; have hq2 := b24x; omega)]; exact b92_5) rfl (fun g25 hI25 hF25 hq25 hx25 => ?_)
          have ek25_25_0_18 : (g25 25 0 18).toInt = (g23 25 0 18).toInt := by rw [hq25 25 0 18 (by omega)]
          have c25_25_0_18x : zB (g25 25 0 18) 0 11 := by have q9 := c23_25_0_18x; constructor <;> omega
          refine z_aload_n (pc := 142) C dX10_readCrime_142 rfl ?_
          refine z_getR (pc := 143) C zf_X10_43 rfl rfl (by decide) dX10_readCrime_143 ?_
          refine z_iload_n (pc := 146) C dX10_readCrime_146 rfl ?_
          refine z_iconst (pc := 147) (v := 4) C dX10_readCrime_147 (by decide) ?_
          refine z_iadd (pc := 148) C dX10_readCrime_148 ?_
          refine w_gp (fun v => v.toInt = a92_2.toInt + 4) (zadd_eb b92_2 (zB.of (x := 4) 4 (by decide)) (by decide) (by decide)) (fun v26 e26 => ?_)
          have b26x : zB v26 4 70 := by have q1 := b92_2; have q2 := (zB.of (x := 4) 4 (by decide)); constructor <;> omega
          refine z_iload (pc := 149) C dX10_readCrime_149 rfl ?_
          refine z_iast (pc := 151) C rfl (by decide) (zIx b26x (by decide) (by decide)) dX10_readCrime_151 ?_
          refine w_mem2 hI25 hF25 (by rw [zrg37 (r := 4) (by have hq : v26.toNatClampNeg = v26.toInt.toNat := rfl; have hq2 := b26x; omega)]; exact b18x) rfl (fun g27 hI27 hF27 hq27 hx27 => ?_)
          have ek27_25_0_18 : (g27 25 0 18).toInt = (g25 25 0 18).toInt := by rw [hq27 25 0 18 (by omega)]
          have c27_25_0_18x : zB (g27 25 0 18) 0 11 := by have q9 := c25_25_0_18x; constructor <;> omega
          refine z_aload_n (pc := 152) C dX10_readCrime_152 rfl ?_
          refine z_getR (pc := 153) C zf_X10_43 rfl rfl (by decide) dX10_readCrime_153 ?_
          refine z_iload_n (pc := 156) C dX10_readCrime_156 rfl ?_
          refine z_iconst (pc := 157) (v := 5) C dX10_readCrime_157 (by decide) ?_
          refine z_iadd (pc := 158) C dX10_readCrime_158 ?_
          refine w_gp (fun v => v.toInt = a92_2.toInt + 5) (zadd_eb b92_2 (zB.of (x := 5) 5 (by decide)) (by decide) (by decide)) (fun v28 e28 => ?_)
          have b28x : zB v28 5 71 := by have q1 := b92_2; have q2 := (zB.of (x := 5) 5 (by decide)); constructor <;> omega
          refine z_aload_n (pc := 159) C dX10_readCrime_159 rfl ?_
          refine z_bipush (pc := 160) (v := 33) C dX10_readCrime_160 (by decide) ?_
          refine z_callV (pc := 162) C zk_X10_227 (w_X10_takes _ _ 33 (zB.wk (a' := 1) (b' := 126) (zB.of (x := 33) 33 (by decide)) (by decide) (by decide)) hI27) rfl rfl (by decide) rfl rfl (Nat.le_of_ble_eq_true rfl) dX10_readCrime_162 (fun r29 g29 q29 => ?_)
          obtain ⟨⟨v29, rfl, b29x⟩, hI29, hF29q⟩ := q29
          have hF29 := zFr.tr hF27 hF29q (by decide)
          simp only [Option.toList, List.cons_append, List.nil_append]
          have ek29_25_0_18 : (g29 25 0 18).toInt = (g27 25 0 18).toInt := by rw [hF29q 25 0 18 rfl]
          have c29_25_0_18x : zB (g29 25 0 18) 0 11 := by have q9 := c27_25_0_18x; constructor <;> omega
          refine z_if_eq (pc := 165) 172 C dX10_readCrime_165 (by decide) (fun h165_29 => ?_) (fun h165_29 => ?_)
          · skip
            have b31x : zB v29 0 0 := by have q1 := b29x; have q2 := (zB.of (x := 0) 0 (by decide)); simp only [z32lt, z32le, z32eq, Int32.reduceToInt, Int32.toInt_zero] at h165_29; constructor <;> omega
            refine z_iconst (pc := 172) (v := 0) C dX10_readCrime_172 (by decide) ?_
            exact ih3 a92_2 b92_2 (by have qc0 : (0 : Int32).toInt = 0 := (by decide); omega) a92_3 b92_3 a92_4 b92_4 a92_5 b92_5 v16 b18x v28 b28x (by have qc0 : (0 : Int32).toInt = 0 := (by decide); omega) 0 (zB.wk (a' := 0) (b' := 1) (zB.of (x := 0) 0 (by decide)) (by decide) (by decide)) g29 hI29 hF29 c29_25_0_18x (by have qc0 : (0 : Int32).toInt = 0 := (by decide); omega) (by have qc0 : (0 : Int32).toInt = 0 := (by decide); omega)
          · skip
            have b32x : zB v29 1 1 := by have q1 := b29x; have q2 := (zB.of (x := 0) 0 (by decide)); simp only [z32lt, z32le, z32eq, Int32.reduceToInt, Int32.toInt_zero] at h165_29; constructor <;> omega
            refine z_iconst (pc := 168) (v := 1) C dX10_readCrime_168 (by decide) ?_
            refine z_goto (pc := 169) 173 C dX10_readCrime_169 (by decide) ?_
            exact ih3 a92_2 b92_2 (by have qc0 : (1 : Int32).toInt = 1 := (by decide); omega) a92_3 b92_3 a92_4 b92_4 a92_5 b92_5 v16 b18x v28 b28x (by have qc0 : (1 : Int32).toInt = 1 := (by decide); omega) 1 (zB.wk (a' := 0) (b' := 1) (zB.of (x := 1) 1 (by decide)) (by decide) (by decide)) g29 hI29 hF29 c29_25_0_18x (by have qc0 : (1 : Int32).toInt = 1 := (by decide); omega) (by have qc0 : (1 : Int32).toInt = 1 := (by decide); omega)
        · skip
          have b33x : zB v16 (-1) (-1) := by have q1 := b16y; have q2 := (zB.of (x := 0) 0 (by decide)); simp only [z32lt, z32le, z32eq, Int32.reduceToInt, Int32.toInt_zero] at h101_16; constructor <;> omega
          refine z_iconst (pc := 104) (v := 0) C dX10_readCrime_104 (by decide) ?_
          exact z_zret (pc := 105) C hr (z01 (zB.wk (a' := 0) (b' := 1) (zB.of (x := 0) 0 (by decide)) (by decide) (by decide))) dX10_readCrime_105 ⟨⟨_, rfl, (zB.wk (a' := 0) (b' := 1) (zB.of (x := 0) 0 (by decide)) (by decide) (by decide))⟩, hI16, hF16, (by intro v hv; cases hv; have qc0 : (0 : Int32).toInt = 0 := (by decide); omega)⟩
      · skip
        intro a173_2 b173_2 n173_2 a173_3 b173_3 a173_4 b173_4 a173_5 b173_5 a173_6 b173_6 a173_s1 b173_s1 n173_s1 a173_s2 b173_s2 g173_ hI173_ hF173_ f173_25_0_18 hR173_0 hM173_
        refine z_iast (pc := 173) C rfl (by decide) (zIx b173_s1 (by decide) (by decide)) dX10_readCrime_173 ?_
        refine w_mem2 hI173_ hF173_ (by rw [zrg37 (r := 5) (by have hq : a173_s1.toNatClampNeg = a173_s1.toInt.toNat := rfl; have hq2 := b173_s1; omega)]; exact b173_s2) rfl (fun g34 hI34 hF34 hq34 hx34 => ?_)
        have ek34_25_0_18 : (g34 25 0 18).toInt = (g173_ 25 0 18).toInt := by rw [hq34 25 0 18 (by omega)]
        have c34_25_0_18x : zB (g34 25 0 18) 0 11 := by have q9 := f173_25_0_18; constructor <;> omega
        refine z_aload_n (pc := 174) C dX10_readCrime_174 rfl ?_
        refine z_dupr (pc := 175) C dX10_readCrime_175 ?_
        refine z_getI (pc := 176) C zf_X10_221 rfl rfl (by decide) dX10_readCrime_176 ?_
        refine w_gp (fun v => v.toInt = (g34 25 0 18).toInt) rfl (fun v35 e35 => ?_)
        have b35x : zB v35 0 11 := by have q9 : zB (g34 25 0 18) 0 11 := c34_25_0_18x; constructor <;> omega
        refine z_iconst (pc := 179) (v := 1) C dX10_readCrime_179 (by decide) ?_
        refine z_iadd (pc := 180) C dX10_readCrime_180 ?_
        refine w_gp (fun v => v.toInt = v35.toInt + 1) (zadd_eb b35x (zB.of (x := 1) 1 (by decide)) (by decide) (by decide)) (fun v36 e36 => ?_)
        have b36x : zB v36 1 12 := by have q1 := b35x; have q2 := (zB.of (x := 1) 1 (by decide)); constructor <;> omega
        refine z_putI (pc := 181) C zf_X10_221 zp_10_18 rfl rfl (by decide) dX10_readCrime_181 ?_
        refine w_mem2 hI34 hF34 (zB.wk (a' := 0) (b' := 12) b36x (by decide) (by decide)) rfl (fun g37 hI37 hF37 hq37 hx37 => ?_)
        have ec37 : (g37 25 0 18).toInt = v36.toInt := by rw [hx37]
        have c37x : zB (g37 25 0 18) 1 12 := by have q9 := b36x; constructor <;> omega
        refine z_iconst (pc := 184) (v := 1) C dX10_readCrime_184 (by decide) ?_
        exact z_zret (pc := 185) C hr (z01 (zB.wk (a' := 0) (b' := 1) (zB.of (x := 1) 1 (by decide)) (by decide) (by decide))) dX10_readCrime_185 ⟨⟨_, rfl, (zB.wk (a' := 0) (b' := 1) (zB.of (x := 1) 1 (by decide)) (by decide) (by decide))⟩, hI37, hF37, (by intro v hv; cases hv; have qc0 : (1 : Int32).toInt = 1 := (by decide); omega)⟩
  obtain ⟨J0, J1, J2, J3⟩ := J 15
  show Z X 0 [some (zr 25 0), some (zi a1), none, none, none, none, none] [] f
  refine z_bipush (pc := 0) (v := 6) C dX10_readCrime_0 (by decide) ?_
  refine z_aload_n (pc := 2) C dX10_readCrime_2 rfl ?_
  refine z_getI (pc := 3) C zf_X10_221 rfl rfl (by decide) dX10_readCrime_3 ?_
  refine w_gp (fun v => v.toInt = (f 25 0 18).toInt) rfl (fun v38 e38 => ?_)
  have b38x : zB v38 0 11 := by have q9 : zB (f 25 0 18) 0 11 := pf25_0_18; constructor <;> omega
  refine z_imul (pc := 6) C dX10_readCrime_6 ?_
  refine w_gp (fun v => v.toInt = 6 * v38.toInt) (zmul_kb 6 (by decide) (by decide) b38x (by decide) (by decide)) (fun v39 e39 => ?_)
  have b39x : zB v39 0 66 := zmul_bb e39 (by decide) b38x
  refine z_istore_n (pc := 7) C dX10_readCrime_7 (by rw [hn]; decide) rfl ?_
  refine z_aload_n (pc := 8) C dX10_readCrime_8 rfl ?_
  refine z_iconst (pc := 9) (v := 0) C dX10_readCrime_9 (by decide) ?_
  refine z_callV (pc := 10) C zk_X10_224 (w_X10_readMarks _ _ 0 (zB.wk (a' := 0) (b' := 63) (zB.of (x := 0) 0 (by decide)) (by decide) (by decide)) hI) rfl rfl (by decide) rfl rfl (Nat.le_of_ble_eq_true rfl) dX10_readCrime_10 (fun r40 g40 q40 => ?_)
  obtain ⟨⟨v40, rfl, b40x⟩, hI40, hF40q⟩ := q40
  have hF40 := zFr.tr hF hF40q (by decide)
  simp only [Option.toList, List.cons_append, List.nil_append]
  have ek40_25_0_18 : (g40 25 0 18).toInt = (f 25 0 18).toInt := by rw [hF40q 25 0 18 rfl]
  have c40_25_0_18x : zB (g40 25 0 18) 0 11 := by have q9 := pf25_0_18; constructor <;> omega
  refine z_istore_n (pc := 13) C dX10_readCrime_13 (by rw [hn]; decide) rfl ?_
  refine z_iload_n (pc := 14) C dX10_readCrime_14 rfl ?_
  refine z_if_ne (pc := 15) 20 C dX10_readCrime_15 (by decide) (fun h15_40 => ?_) (fun h15_40 => ?_)
  · skip
    have b42x : zB v40 1 63 := by have q1 := b40x; have q2 := (zB.of (x := 0) 0 (by decide)); simp only [z32lt, z32le, z32eq, Int32.reduceToInt, Int32.toInt_zero] at h15_40; constructor <;> omega
    refine z_iconst (pc := 20) (v := 0) C dX10_readCrime_20 (by decide) ?_
    refine z_istore (pc := 21) C dX10_readCrime_21 (by rw [hn]; decide) rfl ?_
    refine z_aload_n (pc := 23) C dX10_readCrime_23 rfl ?_
    refine z_bipush (pc := 24) (v := 45) C dX10_readCrime_24 (by decide) ?_
    refine z_callV (pc := 26) C zk_X10_227 (w_X10_takes _ _ 45 (zB.wk (a' := 1) (b' := 126) (zB.of (x := 45) 45 (by decide)) (by decide) (by decide)) hI40) rfl rfl (by decide) rfl rfl (Nat.le_of_ble_eq_true rfl) dX10_readCrime_26 (fun r43 g43 q43 => ?_)
    obtain ⟨⟨v43, rfl, b43x⟩, hI43, hF43q⟩ := q43
    have hF43 := zFr.tr hF40 hF43q (by decide)
    simp only [Option.toList, List.cons_append, List.nil_append]
    have ek43_25_0_18 : (g43 25 0 18).toInt = (g40 25 0 18).toInt := by rw [hF43q 25 0 18 rfl]
    have c43_25_0_18x : zB (g43 25 0 18) 0 11 := by have q9 := c40_25_0_18x; constructor <;> omega
    refine z_if_eq (pc := 29) 46 C dX10_readCrime_29 (by decide) (fun h29_43 => ?_) (fun h29_43 => ?_)
    · skip
      have b45x : zB v43 0 0 := by have q1 := b43x; have q2 := (zB.of (x := 0) 0 (by decide)); simp only [z32lt, z32le, z32eq, Int32.reduceToInt, Int32.toInt_zero] at h29_43; constructor <;> omega
      exact J0 v39 b39x (by have qc0 : (0 : Int32).toInt = 0 := (by decide); omega) v40 b42x 0 (zB.wk (a' := 0) (b' := 63) (zB.of (x := 0) 0 (by decide)) (by decide) (by decide)) g43 hI43 hF43 c43_25_0_18x (by have qc0 : (0 : Int32).toInt = 0 := (by decide); omega) (by have qc0 : (0 : Int32).toInt = 0 := (by decide); omega)
    · skip
      have b46x : zB v43 1 1 := by have q1 := b43x; have q2 := (zB.of (x := 0) 0 (by decide)); simp only [z32lt, z32le, z32eq, Int32.reduceToInt, Int32.toInt_zero] at h29_43; constructor <;> omega
      refine z_aload_n (pc := 32) C dX10_readCrime_32 rfl ?_
      refine z_iload_n (pc := 33) C dX10_readCrime_33 rfl ?_
      refine z_callV (pc := 34) C zk_X10_224 (w_X10_readMarks _ _ v40 (zB.wk (a' := 0) (b' := 63) b42x (by decide) (by decide)) hI43) rfl rfl (by decide) rfl rfl (Nat.le_of_ble_eq_true rfl) dX10_readCrime_34 (fun r47 g47 q47 => ?_)
      obtain ⟨⟨v47, rfl, b47x⟩, hI47, hF47q⟩ := q47
      have hF47 := zFr.tr hF43 hF47q (by decide)
      simp only [Option.toList, List.cons_append, List.nil_append]
      have ek47_25_0_18 : (g47 25 0 18).toInt = (g43 25 0 18).toInt := by rw [hF47q 25 0 18 rfl]
      have c47_25_0_18x : zB (g47 25 0 18) 0 11 := by have q9 := c43_25_0_18x; constructor <;> omega
      refine z_istore (pc := 37) C dX10_readCrime_37 (by rw [hn]; decide) rfl ?_
      refine z_iload (pc := 39) C dX10_readCrime_39 rfl ?_
      refine z_if_ne (pc := 41) 46 C dX10_readCrime_41 (by decide) (fun h41_47 => ?_) (fun h41_47 => ?_)
      · skip
        have b49x : zB v47 1 63 := by have q1 := b47x; have q2 := (zB.of (x := 0) 0 (by decide)); simp only [z32lt, z32le, z32eq, Int32.reduceToInt, Int32.toInt_zero] at h41_47; constructor <;> omega
        exact J0 v39 b39x (by omega) v40 b42x v47 (zB.wk (a' := 0) (b' := 63) b49x (by decide) (by decide)) g47 hI47 hF47 c47_25_0_18x (by omega) (by omega)
      · skip
        have b50x : zB v47 0 0 := by have q1 := b47x; have q2 := (zB.of (x := 0) 0 (by decide)); simp only [z32lt, z32le, z32eq, Int32.reduceToInt, Int32.toInt_zero] at h41_47; constructor <;> omega
        refine z_iconst (pc := 44) (v := 0) C dX10_readCrime_44 (by decide) ?_
        exact z_zret (pc := 45) C hr (z01 (zB.wk (a' := 0) (b' := 1) (zB.of (x := 0) 0 (by decide)) (by decide) (by decide))) dX10_readCrime_45 ⟨⟨_, rfl, (zB.wk (a' := 0) (b' := 1) (zB.of (x := 0) 0 (by decide)) (by decide) (by decide))⟩, hI47, hF47, (by intro v hv; cases hv; have qc0 : (0 : Int32).toInt = 0 := (by decide); omega)⟩
  · skip
    have b51x : zB v40 0 0 := by have q1 := b40x; have q2 := (zB.of (x := 0) 0 (by decide)); simp only [z32lt, z32le, z32eq, Int32.reduceToInt, Int32.toInt_zero] at h15_40; constructor <;> omega
    refine z_iconst (pc := 18) (v := 0) C dX10_readCrime_18 (by decide) ?_
    exact z_zret (pc := 19) C hr (z01 (zB.wk (a' := 0) (b' := 1) (zB.of (x := 0) 0 (by decide)) (by decide) (by decide))) dX10_readCrime_19 ⟨⟨_, rfl, (zB.wk (a' := 0) (b' := 1) (zB.of (x := 0) 0 (by decide)) (by decide) (by decide))⟩, hI40, hF40, (by intro v hv; cases hv; have qc0 : (0 : Int32).toInt = 0 := (by decide); omega)⟩

set_option maxRecDepth 100000 in
set_option maxHeartbeats 4000000 in
theorem w_X10_readPaper (d : Nat) (f : zM) (a1 : Int32) (b1 : zB a1 0 5) (pf25_0_20 : zB (f 25 0 20) 0 11) (hI : zInv f) : ZM (d + 2) yX10_readPaper cX10_readPaper 9 (some .boolean) [zr 25 0, zi a1] f (fun r g => (∃ v, r = some (zi v) ∧ zB v 0 1) ∧ zInv g ∧ zFr [(25, some 17), (25, some 20), (38, none)] f g ∧ (∀ v : Int32, r = some (zi v) → (g 25 0 20).toInt ≤ (f 25 0 20).toInt + 1)) := by
  refine ZM.intro (by decide +kernel) (Nat.le_of_ble_eq_true rfl) ?_
  intro X C hr hn
  have hF : zFr [(25, some 17), (25, some 20), (38, none)] f f := zFr.rf _ _
  have ct25_0_17 : zB (f 25 0 17) 0 120 := hI 25 0 17
  have J : ∀ t : Nat, (∀ a28_2 : Int32, zB a28_2 0 88 → a28_2.toInt % 8 = 0 → ∀ a28_3 : Int32, zB a28_3 (-66) 190 → ∀ g : zM, zInv g → zFr [(25, some 17), (25, some 20), (38, none)] f g → zB (g 25 0 17) 0 120 → zB (g 25 0 20) 0 11 → ((g 25 0 20).toInt = (f 25 0 20).toInt) → (133953 : Int) < t → Z X 28 [some (zr 25 0), some (zi a1), some (zi a28_2), some (zi a28_3), none, none, none, none, none] [] g) ∧ (∀ a83_2 : Int32, zB a83_2 0 88 → a83_2.toInt % 8 = 0 → ∀ a83_3 : Int32, zB a83_3 0 5 → ∀ a83_4 : Int32, zB a83_4 0 1 → ∀ a83_5 : Int32, zB a83_5 0 40 → ∀ g : zM, zInv g → zFr [(25, some 17), (25, some 20), (38, none)] f g → zB (g 25 0 17) 0 120 → zB (g 25 0 20) 0 11 → ((g 25 0 20).toInt = (f 25 0 20).toInt) → (133952 : Int) < t → Z X 83 [some (zr 25 0), some (zi a1), some (zi a83_2), some (zi a83_3), some (zi a83_4), some (zi a83_5), none, none, none] [] g) ∧ (∀ a86_2 : Int32, zB a86_2 0 88 → a86_2.toInt % 8 = 0 → ∀ a86_3 : Int32, zB a86_3 0 5 → ∀ a86_4 : Int32, zB a86_4 0 1 → ∀ a86_5 : Int32, zB a86_5 0 40 → ∀ a86_6 : Int32, zB a86_6 0 31 → ∀ g : zM, zInv g → zFr [(25, some 17), (25, some 20), (38, none)] f g → zB (g 25 0 17) 0 120 → zB (g 25 0 20) 0 11 → ((g 25 0 20).toInt = (f 25 0 20).toInt) → (1093 + 1098 * (120 - (g 25 0 17).toInt) : Int) < t → Z X 86 [some (zr 25 0), some (zi a1), some (zi a86_2), some (zi a86_3), some (zi a86_4), some (zi a86_5), some (zi a86_6), none, none] [] g) ∧ (∀ a164_2 : Int32, zB a164_2 0 88 → a164_2.toInt % 8 = 0 → ∀ a164_3 : Int32, zB a164_3 0 5 → ∀ a164_4 : Int32, zB a164_4 0 1 → ∀ a164_5 : Int32, zB a164_5 0 40 → ∀ a164_6 : Int32, zB a164_6 0 31 → ∀ a164_7 : Int32, zB a164_7 0 99 → ∀ g : zM, zInv g → zFr [(25, some 17), (25, some 20), (38, none)] f g → zB (g 25 0 17) 0 120 → zB (g 25 0 20) 0 11 → ((g 25 0 20).toInt = (f 25 0 20).toInt) → (1092 : Int) < t → Z X 164 [some (zr 25 0), some (zi a1), some (zi a164_2), some (zi a164_3), some (zi a164_4), some (zi a164_5), some (zi a164_6), some (zi a164_7), none] [] g) ∧ (∀ a176_2 : Int32, zB a176_2 0 88 → a176_2.toInt % 8 = 0 → ∀ a176_3 : Int32, zB a176_3 0 5 → ∀ a176_4 : Int32, zB a176_4 0 1 → ∀ a176_5 : Int32, zB a176_5 0 40 → ∀ a176_6 : Int32, zB a176_6 0 31 → ∀ a176_7 : Int32, zB a176_7 0 99 → ∀ a176_8 : Int32, zB a176_8 0 7 → ∀ g : zM, zInv g → zFr [(25, some 17), (25, some 20), (38, none)] f g → zB (g 25 0 17) 0 120 → zB (g 25 0 20) 0 11 → ((g 25 0 20).toInt = (f 25 0 20).toInt) → (2 + 9 * (120 - (g 25 0 17).toInt) : Int) < t → Z X 176 [some (zr 25 0), some (zi a1), some (zi a176_2), some (zi a176_3), some (zi a176_4), some (zi a176_5), some (zi a176_6), some (zi a176_7), some (zi a176_8)] [] g) ∧ (∀ a220_2 : Int32, zB a220_2 0 88 → a220_2.toInt % 8 = 0 → ∀ a220_3 : Int32, zB a220_3 0 5 → ∀ a220_4 : Int32, zB a220_4 0 1 → ∀ a220_5 : Int32, zB a220_5 0 40 → ∀ a220_6 : Int32, zB a220_6 0 31 → ∀ a220_7 : Int32, zB a220_7 0 99 → ∀ a220_8 : Int32, zB a220_8 0 7 → ∀ g : zM, zInv g → zFr [(25, some 17), (25, some 20), (38, none)] f g → zB (g 25 0 17) 0 120 → zB (g 25 0 20) 0 11 → ((g 25 0 20).toInt = (f 25 0 20).toInt) → (1 : Int) < t → Z X 220 [some (zr 25 0), some (zi a1), some (zi a220_2), some (zi a220_3), some (zi a220_4), some (zi a220_5), some (zi a220_6), some (zi a220_7), some (zi a220_8)] [] g) ∧ (∀ a235_2 : Int32, zB a235_2 0 88 → a235_2.toInt % 8 = 0 → ∀ a235_3 : Int32, zB a235_3 0 5 → ∀ a235_4 : Int32, zB a235_4 0 1 → ∀ a235_5 : Int32, zB a235_5 0 40 → ∀ a235_6 : Int32, zB a235_6 0 31 → ∀ a235_7 : Int32, zB a235_7 0 99 → ∀ a235_8 : Int32, zB a235_8 0 7 → ∀ a235_s1 : Int32, zB a235_s1 0 88 → a235_s1.toInt % 8 = 0 → ∀ a235_s2 : Int32, zB a235_s2 0 2 → ∀ g : zM, zInv g → zFr [(25, some 17), (25, some 20), (38, none)] f g → zB (g 25 0 17) 0 120 → zB (g 25 0 20) 0 11 → ((g 25 0 20).toInt = (f 25 0 20).toInt) → (0 : Int) < t → Z X 235 [some (zr 25 0), some (zi a1), some (zi a235_2), some (zi a235_3), some (zi a235_4), some (zi a235_5), some (zi a235_6), some (zi a235_7), some (zi a235_8)] [zi a235_s2, zi a235_s1, zr 38 0] g) := by
    intro t
    induction t with
    | zero =>
      refine ⟨?_, ?_, ?_, ?_, ?_, ?_, ?_⟩ <;> (intros; exfalso; omega)
    | succ t ih =>
      obtain ⟨ih0, ih1, ih2, ih3, ih4, ih5, ih6⟩ := ih
      refine ⟨?_, ?_, ?_, ?_, ?_, ?_, ?_⟩
      · skip
        intro a28_2 b28_2 n28_2 a28_3 b28_3 g28_ hI28_ hF28_ f28_25_0_17 f28_25_0_20 hR28_0 hM28_
        refine z_iconst (pc := 28) (v := 0) C dX10_readPaper_28 (by decide) ?_
        exact z_zret (pc := 29) C hr (z01 (zB.wk (a' := 0) (b' := 1) (zB.of (x := 0) 0 (by decide)) (by decide) (by decide))) dX10_readPaper_29 ⟨⟨_, rfl, (zB.wk (a' := 0) (b' := 1) (zB.of (x := 0) 0 (by decide)) (by decide) (by decide))⟩, hI28_, hF28_, (by intro v hv; cases hv; have qc0 : (0 : Int32).toInt = 0 := (by decide); omega)⟩
      · skip
        intro a83_2 b83_2 n83_2 a83_3 b83_3 a83_4 b83_4 a83_5 b83_5 g83_ hI83_ hF83_ f83_25_0_17 f83_25_0_20 hR83_0 hM83_
        refine z_iconst (pc := 83) (v := 0) C dX10_readPaper_83 (by decide) ?_
        refine z_istore (pc := 84) C dX10_readPaper_84 (by rw [hn]; decide) rfl ?_
        exact ih2 a83_2 b83_2 (by have qc0 : (0 : Int32).toInt = 0 := (by decide); omega) a83_3 b83_3 a83_4 b83_4 a83_5 b83_5 0 (zB.wk (a' := 0) (b' := 31) (zB.of (x := 0) 0 (by decide)) (by decide) (by decide)) g83_ hI83_ hF83_ f83_25_0_17 f83_25_0_20 (by have qc0 : (0 : Int32).toInt = 0 := (by decide); omega) (by have qc0 : (0 : Int32).toInt = 0 := (by decide); omega)
      · skip
        intro a86_2 b86_2 n86_2 a86_3 b86_3 a86_4 b86_4 a86_5 b86_5 a86_6 b86_6 g86_ hI86_ hF86_ f86_25_0_17 f86_25_0_20 hR86_0 hM86_
        refine z_aload_n (pc := 86) C dX10_readPaper_86 rfl ?_
        refine z_callV (pc := 87) C zk_X10_214 (w_X10_next _ _  hI86_) rfl rfl (by decide) rfl rfl (Nat.le_of_ble_eq_true rfl) dX10_readPaper_87 (fun r1 g1 q1 => ?_)
        obtain ⟨⟨v1, rfl, b1x⟩, hI1, hF1q, hp1_0, hp1_1, hp1_2, hp1_3⟩ := q1
        have hp1_0 := hp1_0 _ rfl
        have hp1_1 := hp1_1 _ rfl
        have hp1_2 := hp1_2 _ rfl
        have hp1_3 := hp1_3 _ rfl
        have hF1 := zFr.tr hF86_ hF1q (by decide)
        simp only [Option.toList, List.cons_append, List.nil_append]
        have cr1_25_0_17 : zB (g1 25 0 17) 0 120 := hI1 25 0 17
        have ek1_25_0_20 : (g1 25 0 20).toInt = (g86_ 25 0 20).toInt := by rw [hF1q 25 0 20 rfl]
        have c1_25_0_20x : zB (g1 25 0 20) 0 11 := by have q9 := f86_25_0_20; constructor <;> omega
        refine z_callS (pc := 90) C zk_X10_236 (w_X10_barOf _ _ v1 b1x hI1) rfl rfl (Nat.le_of_ble_eq_true rfl) dX10_readPaper_90 (fun r2 g2 q2 => ?_)
        obtain ⟨⟨v2, rfl, b2x⟩, hI2, hF2q, hp2_0⟩ := q2
        have hp2_0 := hp2_0 _ rfl
        obtain rfl := zFr_nil hF2q
        simp only [Option.toList, List.cons_append, List.nil_append]
        refine z_if_le (pc := 93) 136 C dX10_readPaper_93 (by decide) (fun h93_2 => ?_) (fun h93_2 => ?_)
        · skip
          have b4x : zB v2 0 0 := by have q1 := b2x; have q2 := (zB.of (x := 0) 0 (by decide)); simp only [z32lt, z32le, z32eq, Int32.reduceToInt, Int32.toInt_zero] at h93_2; constructor <;> omega
          refine z_iconst (pc := 136) (v := 0) C dX10_readPaper_136 (by decide) ?_
          refine z_istore (pc := 137) C dX10_readPaper_137 (by rw [hn]; decide) rfl ?_
          refine z_aload_n (pc := 139) C dX10_readPaper_139 rfl ?_
          refine z_bipush (pc := 140) (v := 116) C dX10_readPaper_140 (by decide) ?_
          refine z_callV (pc := 142) C zk_X10_227 (w_X10_takes _ _ 116 (zB.wk (a' := 1) (b' := 126) (zB.of (x := 116) 116 (by decide)) (by decide) (by decide)) hI1) rfl rfl (by decide) rfl rfl (Nat.le_of_ble_eq_true rfl) dX10_readPaper_142 (fun r5 g5 q5 => ?_)
          obtain ⟨⟨v5, rfl, b5x⟩, hI5, hF5q⟩ := q5
          have hF5 := zFr.tr hF1 hF5q (by decide)
          simp only [Option.toList, List.cons_append, List.nil_append]
          have cr5_25_0_17 : zB (g5 25 0 17) 0 120 := hI5 25 0 17
          have ek5_25_0_20 : (g5 25 0 20).toInt = (g1 25 0 20).toInt := by rw [hF5q 25 0 20 rfl]
          have c5_25_0_20x : zB (g5 25 0 20) 0 11 := by have q9 := c1_25_0_20x; constructor <;> omega
          refine z_if_eq (pc := 145) 164 C dX10_readPaper_145 (by decide) (fun h145_5 => ?_) (fun h145_5 => ?_)
          · skip
            have b7x : zB v5 0 0 := by have q1 := b5x; have q2 := (zB.of (x := 0) 0 (by decide)); simp only [z32lt, z32le, z32eq, Int32.reduceToInt, Int32.toInt_zero] at h145_5; constructor <;> omega
            exact ih3 a86_2 b86_2 (by have qc0 : (0 : Int32).toInt = 0 := (by decide); omega) a86_3 b86_3 a86_4 b86_4 a86_5 b86_5 a86_6 b86_6 0 (zB.wk (a' := 0) (b' := 99) (zB.of (x := 0) 0 (by decide)) (by decide) (by decide)) g5 hI5 hF5 cr5_25_0_17 c5_25_0_20x (by have qc0 : (0 : Int32).toInt = 0 := (by decide); omega) (by have qc0 : (0 : Int32).toInt = 0 := (by decide); omega)
          · skip
            have b8x : zB v5 1 1 := by have q1 := b5x; have q2 := (zB.of (x := 0) 0 (by decide)); simp only [z32lt, z32le, z32eq, Int32.reduceToInt, Int32.toInt_zero] at h145_5; constructor <;> omega
            refine z_aload_n (pc := 148) C dX10_readPaper_148 rfl ?_
            refine z_iconst (pc := 149) (v := 1) C dX10_readPaper_149 (by decide) ?_
            refine z_bipush (pc := 150) (v := 99) C dX10_readPaper_150 (by decide) ?_
            refine z_callV (pc := 152) C zk_X10_230 (w_X10_readNumber _ _ 1 (zB.wk (a' := 0) (b' := 40) (zB.of (x := 1) 1 (by decide)) (by decide) (by decide)) 99 (zB.wk (a' := 0) (b' := 99) (zB.of (x := 99) 99 (by decide)) (by decide) (by decide)) hI5) rfl rfl (by decide) rfl rfl (Nat.le_of_ble_eq_true rfl) dX10_readPaper_152 (fun r9 g9 q9 => ?_)
            have qa9_1 : (1 : Int32).toInt = 1 := by decide
            have qa9_99 : (99 : Int32).toInt = 99 := by decide
            obtain ⟨⟨v9, rfl, b9x⟩, hI9, hF9q, hp9_0⟩ := q9
            have hp9_0 := hp9_0 _ rfl
            have hF9 := zFr.tr hF5 hF9q (by decide)
            simp only [Option.toList, List.cons_append, List.nil_append]
            have cr9_25_0_17 : zB (g9 25 0 17) 0 120 := hI9 25 0 17
            have ek9_25_0_20 : (g9 25 0 20).toInt = (g5 25 0 20).toInt := by rw [hF9q 25 0 20 rfl]
            have c9_25_0_20x : zB (g9 25 0 20) 0 11 := by have q9 := c5_25_0_20x; constructor <;> omega
            refine z_istore (pc := 155) C dX10_readPaper_155 (by rw [hn]; decide) rfl ?_
            refine z_iload (pc := 157) C dX10_readPaper_157 rfl ?_
            refine z_if_ge (pc := 159) 164 C dX10_readPaper_159 (by decide) (fun h159_9 => ?_) (fun h159_9 => ?_)
            · skip
              have b11x : zB v9 0 99 := by have q1 := b9x; have q2 := (zB.of (x := 0) 0 (by decide)); simp only [z32lt, z32le, z32eq, Int32.reduceToInt, Int32.toInt_zero] at h159_9; constructor <;> omega
              exact ih3 a86_2 b86_2 (by omega) a86_3 b86_3 a86_4 b86_4 a86_5 b86_5 a86_6 b86_6 v9 b11x g9 hI9 hF9 cr9_25_0_17 c9_25_0_20x (by omega) (by omega)
            · skip
              have b12x : zB v9 (-1) (-1) := by have q1 := b9x; have q2 := (zB.of (x := 0) 0 (by decide)); simp only [z32lt, z32le, z32eq, Int32.reduceToInt, Int32.toInt_zero] at h159_9; constructor <;> omega
              refine z_iconst (pc := 162) (v := 0) C dX10_readPaper_162 (by decide) ?_
              exact z_zret (pc := 163) C hr (z01 (zB.wk (a' := 0) (b' := 1) (zB.of (x := 0) 0 (by decide)) (by decide) (by decide))) dX10_readPaper_163 ⟨⟨_, rfl, (zB.wk (a' := 0) (b' := 1) (zB.of (x := 0) 0 (by decide)) (by decide) (by decide))⟩, hI9, hF9, (by intro v hv; cases hv; have qc0 : (0 : Int32).toInt = 0 := (by decide); omega)⟩
        · skip
          have b13x : zB v2 1 16 := by have q1 := b2x; have q2 := (zB.of (x := 0) 0 (by decide)); simp only [z32lt, z32le, z32eq, Int32.reduceToInt, Int32.toInt_zero] at h93_2; constructor <;> omega
          have b14x : zB v1 0 255 := by constructor <;> omega
          refine z_iload (pc := 96) C dX10_readPaper_96 rfl ?_
          refine z_aload_n (pc := 98) C dX10_readPaper_98 rfl ?_
          refine z_callV (pc := 99) C zk_X10_214 (w_X10_next _ _  hI1) rfl rfl (by decide) rfl rfl (Nat.le_of_ble_eq_true rfl) dX10_readPaper_99 (fun r15 g15 q15 => ?_)
          obtain ⟨⟨v15, rfl, b15x⟩, hI15, hF15q, hp15_0, hp15_1, hp15_2, hp15_3⟩ := q15
          have hp15_0 := hp15_0 _ rfl
          have hp15_1 := hp15_1 _ rfl
          have hp15_2 := hp15_2 _ rfl
          have hp15_3 := hp15_3 _ rfl
          have hF15 := zFr.tr hF1 hF15q (by decide)
          simp only [Option.toList, List.cons_append, List.nil_append]
          have cr15_25_0_17 : zB (g15 25 0 17) 0 120 := hI15 25 0 17
          have ek15_25_0_20 : (g15 25 0 20).toInt = (g1 25 0 20).toInt := by rw [hF15q 25 0 20 rfl]
          have c15_25_0_20x : zB (g15 25 0 20) 0 11 := by have q9 := c1_25_0_20x; constructor <;> omega
          refine z_callS (pc := 102) C zk_X10_236 (w_X10_barOf _ _ v15 b15x hI15) rfl rfl (Nat.le_of_ble_eq_true rfl) dX10_readPaper_102 (fun r16 g16 q16 => ?_)
          obtain ⟨⟨v16, rfl, b16x⟩, hI16, hF16q, hp16_0⟩ := q16
          have hp16_0 := hp16_0 _ rfl
          obtain rfl := zFr_nil hF16q
          simp only [Option.toList, List.cons_append, List.nil_append]
          refine z_iand (pc := 105) C dX10_readPaper_105 ?_
          refine w_gp (fun v => zB v 0 16 ∧ v.toInt ≤ v16.toInt) (zand_r b86_6 b16x (by decide)) (fun v17 e17 => ?_)
          have b17x := e17.1
          have r17 := e17.2
          refine z_if_eq (pc := 106) 111 C dX10_readPaper_106 (by decide) (fun h106_17 => ?_) (fun h106_17 => ?_)
          · skip
            have b19x : zB v17 0 0 := by have q1 := b17x; have q2 := (zB.of (x := 0) 0 (by decide)); simp only [z32lt, z32le, z32eq, Int32.reduceToInt, Int32.toInt_zero] at h106_17; constructor <;> omega
            refine z_iload (pc := 111) C dX10_readPaper_111 rfl ?_
            refine z_aload_n (pc := 113) C dX10_readPaper_113 rfl ?_
            refine z_callV (pc := 114) C zk_X10_214 (w_X10_next _ _  hI15) rfl rfl (by decide) rfl rfl (Nat.le_of_ble_eq_true rfl) dX10_readPaper_114 (fun r20 g20 q20 => ?_)
            obtain ⟨⟨v20, rfl, b20x⟩, hI20, hF20q, hp20_0, hp20_1, hp20_2, hp20_3⟩ := q20
            have hp20_0 := hp20_0 _ rfl
            have hp20_1 := hp20_1 _ rfl
            have hp20_2 := hp20_2 _ rfl
            have hp20_3 := hp20_3 _ rfl
            have hF20 := zFr.tr hF15 hF20q (by decide)
            simp only [Option.toList, List.cons_append, List.nil_append]
            have cr20_25_0_17 : zB (g20 25 0 17) 0 120 := hI20 25 0 17
            have ek20_25_0_20 : (g20 25 0 20).toInt = (g15 25 0 20).toInt := by rw [hF20q 25 0 20 rfl]
            have c20_25_0_20x : zB (g20 25 0 20) 0 11 := by have q9 := c15_25_0_20x; constructor <;> omega
            refine z_callS (pc := 117) C zk_X10_236 (w_X10_barOf _ _ v20 b20x hI20) rfl rfl (Nat.le_of_ble_eq_true rfl) dX10_readPaper_117 (fun r21 g21 q21 => ?_)
            obtain ⟨⟨v21, rfl, b21x⟩, hI21, hF21q, hp21_0⟩ := q21
            have hp21_0 := hp21_0 _ rfl
            obtain rfl := zFr_nil hF21q
            simp only [Option.toList, List.cons_append, List.nil_append]
            refine z_ior (pc := 120) C dX10_readPaper_120 ?_
            refine w_gb 0 31 (zor_b 5 b86_6 b21x (by decide) (by decide) (by decide) (by decide) (by decide)) (fun v22 b22x => ?_)
            refine z_istore (pc := 121) C dX10_readPaper_121 (by rw [hn]; decide) rfl ?_
            refine z_aload_n (pc := 123) C dX10_readPaper_123 rfl ?_
            refine z_dupr (pc := 124) C dX10_readPaper_124 ?_
            have c23x : zB (g20 25 0 17) 0 119 := by constructor <;> omega
            refine z_getI (pc := 125) C zf_X10_211 rfl rfl (by decide) dX10_readPaper_125 ?_
            refine w_gp (fun v => v.toInt = (g20 25 0 17).toInt) rfl (fun v24 e24 => ?_)
            have b24x : zB v24 0 119 := by have q9 : zB (g20 25 0 17) 0 119 := c23x; constructor <;> omega
            refine z_iconst (pc := 128) (v := 1) C dX10_readPaper_128 (by decide) ?_
            refine z_iadd (pc := 129) C dX10_readPaper_129 ?_
            refine w_gp (fun v => v.toInt = v24.toInt + 1) (zadd_eb b24x (zB.of (x := 1) 1 (by decide)) (by decide) (by decide)) (fun v25 e25 => ?_)
            have b25x : zB v25 1 120 := by have q1 := b24x; have q2 := (zB.of (x := 1) 1 (by decide)); constructor <;> omega
            refine z_putI (pc := 130) C zf_X10_211 zp_10_17 rfl rfl (by decide) dX10_readPaper_130 ?_
            refine w_mem2 hI20 hF20 (zB.wk (a' := 0) (b' := 120) b25x (by decide) (by decide)) rfl (fun g26 hI26 hF26 hq26 hx26 => ?_)
            have ec26 : (g26 25 0 17).toInt = v25.toInt := by rw [hx26]
            have c26x : zB (g26 25 0 17) 1 120 := by have q9 := b25x; constructor <;> omega
            have ek26_25_0_20 : (g26 25 0 20).toInt = (g20 25 0 20).toInt := by rw [hq26 25 0 20 (by omega)]
            have c26_25_0_20x : zB (g26 25 0 20) 0 11 := by have q9 := c20_25_0_20x; constructor <;> omega
            refine z_goto (pc := 133) 86 C dX10_readPaper_133 (by decide) ?_
            exact ih2 a86_2 b86_2 (by omega) a86_3 b86_3 a86_4 b86_4 a86_5 b86_5 v22 b22x g26 hI26 hF26 (zB.wk c26x (by decide) (by decide)) c26_25_0_20x (by omega) (by omega)
          · skip
            have b27x : zB v17 1 16 := by have q1 := b17x; have q2 := (zB.of (x := 0) 0 (by decide)); simp only [z32lt, z32le, z32eq, Int32.reduceToInt, Int32.toInt_zero] at h106_17; constructor <;> omega
            refine z_iconst (pc := 109) (v := 0) C dX10_readPaper_109 (by decide) ?_
            exact z_zret (pc := 110) C hr (z01 (zB.wk (a' := 0) (b' := 1) (zB.of (x := 0) 0 (by decide)) (by decide) (by decide))) dX10_readPaper_110 ⟨⟨_, rfl, (zB.wk (a' := 0) (b' := 1) (zB.of (x := 0) 0 (by decide)) (by decide) (by decide))⟩, hI15, hF15, (by intro v hv; cases hv; have qc0 : (0 : Int32).toInt = 0 := (by decide); omega)⟩
      · skip
        intro a164_2 b164_2 n164_2 a164_3 b164_3 a164_4 b164_4 a164_5 b164_5 a164_6 b164_6 a164_7 b164_7 g164_ hI164_ hF164_ f164_25_0_17 f164_25_0_20 hR164_0 hM164_
        refine z_iconst (pc := 164) (v := 0) C dX10_readPaper_164 (by decide) ?_
        refine z_istore (pc := 165) C dX10_readPaper_165 (by rw [hn]; decide) rfl ?_
        refine z_aload_n (pc := 167) C dX10_readPaper_167 rfl ?_
        refine z_bipush (pc := 168) (v := 43) C dX10_readPaper_168 (by decide) ?_
        refine z_callV (pc := 170) C zk_X10_227 (w_X10_takes _ _ 43 (zB.wk (a' := 1) (b' := 126) (zB.of (x := 43) 43 (by decide)) (by decide) (by decide)) hI164_) rfl rfl (by decide) rfl rfl (Nat.le_of_ble_eq_true rfl) dX10_readPaper_170 (fun r28 g28 q28 => ?_)
        obtain ⟨⟨v28, rfl, b28x⟩, hI28, hF28q⟩ := q28
        have hF28 := zFr.tr hF164_ hF28q (by decide)
        simp only [Option.toList, List.cons_append, List.nil_append]
        have cr28_25_0_17 : zB (g28 25 0 17) 0 120 := hI28 25 0 17
        have ek28_25_0_20 : (g28 25 0 20).toInt = (g164_ 25 0 20).toInt := by rw [hF28q 25 0 20 rfl]
        have c28_25_0_20x : zB (g28 25 0 20) 0 11 := by have q9 := f164_25_0_20; constructor <;> omega
        refine z_if_eq (pc := 173) 220 C dX10_readPaper_173 (by decide) (fun h173_28 => ?_) (fun h173_28 => ?_)
        · skip
          have b30x : zB v28 0 0 := by have q1 := b28x; have q2 := (zB.of (x := 0) 0 (by decide)); simp only [z32lt, z32le, z32eq, Int32.reduceToInt, Int32.toInt_zero] at h173_28; constructor <;> omega
          exact ih5 a164_2 b164_2 (by have qc0 : (0 : Int32).toInt = 0 := (by decide); omega) a164_3 b164_3 a164_4 b164_4 a164_5 b164_5 a164_6 b164_6 a164_7 b164_7 0 (zB.wk (a' := 0) (b' := 7) (zB.of (x := 0) 0 (by decide)) (by decide) (by decide)) g28 hI28 hF28 cr28_25_0_17 c28_25_0_20x (by have qc0 : (0 : Int32).toInt = 0 := (by decide); omega) (by have qc0 : (0 : Int32).toInt = 0 := (by decide); omega)
        · skip
          have b31x : zB v28 1 1 := by have q1 := b28x; have q2 := (zB.of (x := 0) 0 (by decide)); simp only [z32lt, z32le, z32eq, Int32.reduceToInt, Int32.toInt_zero] at h173_28; constructor <;> omega
          exact ih4 a164_2 b164_2 (by have qc0 : (0 : Int32).toInt = 0 := (by decide); omega) a164_3 b164_3 a164_4 b164_4 a164_5 b164_5 a164_6 b164_6 a164_7 b164_7 0 (zB.wk (a' := 0) (b' := 7) (zB.of (x := 0) 0 (by decide)) (by decide) (by decide)) g28 hI28 hF28 cr28_25_0_17 c28_25_0_20x (by have qc0 : (0 : Int32).toInt = 0 := (by decide); omega) (by have qc0 : (0 : Int32).toInt = 0 := (by decide); omega)
      · skip
        intro a176_2 b176_2 n176_2 a176_3 b176_3 a176_4 b176_4 a176_5 b176_5 a176_6 b176_6 a176_7 b176_7 a176_8 b176_8 g176_ hI176_ hF176_ f176_25_0_17 f176_25_0_20 hR176_0 hM176_
        refine z_aload_n (pc := 176) C dX10_readPaper_176 rfl ?_
        refine z_callV (pc := 177) C zk_X10_214 (w_X10_next _ _  hI176_) rfl rfl (by decide) rfl rfl (Nat.le_of_ble_eq_true rfl) dX10_readPaper_177 (fun r32 g32 q32 => ?_)
        obtain ⟨⟨v32, rfl, b32x⟩, hI32, hF32q, hp32_0, hp32_1, hp32_2, hp32_3⟩ := q32
        have hp32_0 := hp32_0 _ rfl
        have hp32_1 := hp32_1 _ rfl
        have hp32_2 := hp32_2 _ rfl
        have hp32_3 := hp32_3 _ rfl
        have hF32 := zFr.tr hF176_ hF32q (by decide)
        simp only [Option.toList, List.cons_append, List.nil_append]
        have cr32_25_0_17 : zB (g32 25 0 17) 0 120 := hI32 25 0 17
        have ek32_25_0_20 : (g32 25 0 20).toInt = (g176_ 25 0 20).toInt := by rw [hF32q 25 0 20 rfl]
        have c32_25_0_20x : zB (g32 25 0 20) 0 11 := by have q9 := f176_25_0_20; constructor <;> omega
        refine z_callS (pc := 180) C zk_X10_239 (w_X10_promiseOf _ _ v32 b32x hI32) rfl rfl (Nat.le_of_ble_eq_true rfl) dX10_readPaper_180 (fun r33 g33 q33 => ?_)
        obtain ⟨⟨v33, rfl, b33x⟩, hI33, hF33q, hp33_0⟩ := q33
        have hp33_0 := hp33_0 _ rfl
        obtain rfl := zFr_nil hF33q
        simp only [Option.toList, List.cons_append, List.nil_append]
        refine z_iload (pc := 183) C dX10_readPaper_183 rfl ?_
        refine z_icmp_le (pc := 185) 213 C dX10_readPaper_185 (by decide) (fun h185_33 => ?_) (fun h185_33 => ?_)
        · skip
          refine z_iload (pc := 213) C dX10_readPaper_213 rfl ?_
          refine z_if_ne (pc := 215) 220 C dX10_readPaper_215 (by decide) (fun h215_34 => ?_) (fun h215_34 => ?_)
          · skip
            have b36x : zB a176_8 1 7 := by have q1 := b176_8; have q2 := (zB.of (x := 0) 0 (by decide)); simp only [z32lt, z32le, z32eq, Int32.reduceToInt, Int32.toInt_zero] at h215_34; constructor <;> omega
            exact ih5 a176_2 b176_2 (by omega) a176_3 b176_3 a176_4 b176_4 a176_5 b176_5 a176_6 b176_6 a176_7 b176_7 a176_8 (zB.wk (a' := 0) (b' := 7) b36x (by decide) (by decide)) g32 hI32 hF32 cr32_25_0_17 c32_25_0_20x (by omega) (by omega)
          · skip
            have b37x : zB a176_8 0 0 := by have q1 := b176_8; have q2 := (zB.of (x := 0) 0 (by decide)); simp only [z32lt, z32le, z32eq, Int32.reduceToInt, Int32.toInt_zero] at h215_34; constructor <;> omega
            refine z_iconst (pc := 218) (v := 0) C dX10_readPaper_218 (by decide) ?_
            exact z_zret (pc := 219) C hr (z01 (zB.wk (a' := 0) (b' := 1) (zB.of (x := 0) 0 (by decide)) (by decide) (by decide))) dX10_readPaper_219 ⟨⟨_, rfl, (zB.wk (a' := 0) (b' := 1) (zB.of (x := 0) 0 (by decide)) (by decide) (by decide))⟩, hI32, hF32, (by intro v hv; cases hv; have qc0 : (0 : Int32).toInt = 0 := (by decide); omega)⟩
        · skip
          have b38x : zB v33 1 4 := by have q1 := b33x; have q2 := b176_8; simp only [z32lt, z32le, z32eq, Int32.reduceToInt, Int32.toInt_zero] at h185_33; constructor <;> omega
          have b39x : zB v32 0 255 := by constructor <;> omega
          have b40x : zB a176_8 0 3 := by have q1 := b33x; have q2 := b176_8; simp only [z32lt, z32le, z32eq, Int32.reduceToInt, Int32.toInt_zero] at h185_33; constructor <;> omega
          refine z_iload (pc := 188) C dX10_readPaper_188 rfl ?_
          refine z_aload_n (pc := 190) C dX10_readPaper_190 rfl ?_
          refine z_callV (pc := 191) C zk_X10_214 (w_X10_next _ _  hI32) rfl rfl (by decide) rfl rfl (Nat.le_of_ble_eq_true rfl) dX10_readPaper_191 (fun r41 g41 q41 => ?_)
          obtain ⟨⟨v41, rfl, b41x⟩, hI41, hF41q, hp41_0, hp41_1, hp41_2, hp41_3⟩ := q41
          have hp41_0 := hp41_0 _ rfl
          have hp41_1 := hp41_1 _ rfl
          have hp41_2 := hp41_2 _ rfl
          have hp41_3 := hp41_3 _ rfl
          have hF41 := zFr.tr hF32 hF41q (by decide)
          simp only [Option.toList, List.cons_append, List.nil_append]
          have cr41_25_0_17 : zB (g41 25 0 17) 0 120 := hI41 25 0 17
          have ek41_25_0_20 : (g41 25 0 20).toInt = (g32 25 0 20).toInt := by rw [hF41q 25 0 20 rfl]
          have c41_25_0_20x : zB (g41 25 0 20) 0 11 := by have q9 := c32_25_0_20x; constructor <;> omega
          refine z_callS (pc := 194) C zk_X10_239 (w_X10_promiseOf _ _ v41 b41x hI41) rfl rfl (Nat.le_of_ble_eq_true rfl) dX10_readPaper_194 (fun r42 g42 q42 => ?_)
          obtain ⟨⟨v42, rfl, b42x⟩, hI42, hF42q, hp42_0⟩ := q42
          have hp42_0 := hp42_0 _ rfl
          obtain rfl := zFr_nil hF42q
          simp only [Option.toList, List.cons_append, List.nil_append]
          refine z_ior (pc := 197) C dX10_readPaper_197 ?_
          refine w_gb 0 7 (zor_b 3 b40x b42x (by decide) (by decide) (by decide) (by decide) (by decide)) (fun v43 b43x => ?_)
          refine z_istore (pc := 198) C dX10_readPaper_198 (by rw [hn]; decide) rfl ?_
          refine z_aload_n (pc := 200) C dX10_readPaper_200 rfl ?_
          refine z_dupr (pc := 201) C dX10_readPaper_201 ?_
          have c44x : zB (g41 25 0 17) 0 119 := by constructor <;> omega
          refine z_getI (pc := 202) C zf_X10_211 rfl rfl (by decide) dX10_readPaper_202 ?_
          refine w_gp (fun v => v.toInt = (g41 25 0 17).toInt) rfl (fun v45 e45 => ?_)
          have b45x : zB v45 0 119 := by have q9 : zB (g41 25 0 17) 0 119 := c44x; constructor <;> omega
          refine z_iconst (pc := 205) (v := 1) C dX10_readPaper_205 (by decide) ?_
          refine z_iadd (pc := 206) C dX10_readPaper_206 ?_
          refine w_gp (fun v => v.toInt = v45.toInt + 1) (zadd_eb b45x (zB.of (x := 1) 1 (by decide)) (by decide) (by decide)) (fun v46 e46 => ?_)
          have b46x : zB v46 1 120 := by have q1 := b45x; have q2 := (zB.of (x := 1) 1 (by decide)); constructor <;> omega
          refine z_putI (pc := 207) C zf_X10_211 zp_10_17 rfl rfl (by decide) dX10_readPaper_207 ?_
          refine w_mem2 hI41 hF41 (zB.wk (a' := 0) (b' := 120) b46x (by decide) (by decide)) rfl (fun g47 hI47 hF47 hq47 hx47 => ?_)
          have ec47 : (g47 25 0 17).toInt = v46.toInt := by rw [hx47]
          have c47x : zB (g47 25 0 17) 1 120 := by have q9 := b46x; constructor <;> omega
          have ek47_25_0_20 : (g47 25 0 20).toInt = (g41 25 0 20).toInt := by rw [hq47 25 0 20 (by omega)]
          have c47_25_0_20x : zB (g47 25 0 20) 0 11 := by have q9 := c41_25_0_20x; constructor <;> omega
          refine z_goto (pc := 210) 176 C dX10_readPaper_210 (by decide) ?_
          exact ih4 a176_2 b176_2 (by omega) a176_3 b176_3 a176_4 b176_4 a176_5 b176_5 a176_6 b176_6 a176_7 b176_7 v43 b43x g47 hI47 hF47 (zB.wk c47x (by decide) (by decide)) c47_25_0_20x (by omega) (by omega)
      · skip
        intro a220_2 b220_2 n220_2 a220_3 b220_3 a220_4 b220_4 a220_5 b220_5 a220_6 b220_6 a220_7 b220_7 a220_8 b220_8 g220_ hI220_ hF220_ f220_25_0_17 f220_25_0_20 hR220_0 hM220_
        refine z_aload_n (pc := 220) C dX10_readPaper_220 rfl ?_
        refine z_getR (pc := 221) C zf_X10_46 rfl rfl (by decide) dX10_readPaper_221 ?_
        refine z_iload_n (pc := 224) C dX10_readPaper_224 rfl ?_
        refine z_iload (pc := 225) C dX10_readPaper_225 rfl ?_
        refine z_if_eq (pc := 227) 234 C dX10_readPaper_227 (by decide) (fun h227_47 => ?_) (fun h227_47 => ?_)
        · skip
          have b49x : zB a220_4 0 0 := by have q1 := b220_4; have q2 := (zB.of (x := 0) 0 (by decide)); simp only [z32lt, z32le, z32eq, Int32.reduceToInt, Int32.toInt_zero] at h227_47; constructor <;> omega
          refine z_iconst (pc := 234) (v := 0) C dX10_readPaper_234 (by decide) ?_
          exact ih6 a220_2 b220_2 (by have qc0 : (0 : Int32).toInt = 0 := (by decide); omega) a220_3 b220_3 a220_4 (zB.wk (a' := 0) (b' := 1) b49x (by decide) (by decide)) a220_5 b220_5 a220_6 b220_6 a220_7 b220_7 a220_8 b220_8 a220_2 b220_2 (by have qc0 : (0 : Int32).toInt = 0 := (by decide); omega) 0 (zB.wk (a' := 0) (b' := 2) (zB.of (x := 0) 0 (by decide)) (by decide) (by decide)) g220_ hI220_ hF220_ f220_25_0_17 f220_25_0_20 (by have qc0 : (0 : Int32).toInt = 0 := (by decide); omega) (by have qc0 : (0 : Int32).toInt = 0 := (by decide); omega)
        · skip
          have b50x : zB a220_4 1 1 := by have q1 := b220_4; have q2 := (zB.of (x := 0) 0 (by decide)); simp only [z32lt, z32le, z32eq, Int32.reduceToInt, Int32.toInt_zero] at h227_47; constructor <;> omega
          refine z_iconst (pc := 230) (v := 2) C dX10_readPaper_230 (by decide) ?_
          refine z_goto (pc := 231) 235 C dX10_readPaper_231 (by decide) ?_
          exact ih6 a220_2 b220_2 (by have qc0 : (2 : Int32).toInt = 2 := (by decide); omega) a220_3 b220_3 a220_4 (zB.wk (a' := 0) (b' := 1) b50x (by decide) (by decide)) a220_5 b220_5 a220_6 b220_6 a220_7 b220_7 a220_8 b220_8 a220_2 b220_2 (by have qc0 : (2 : Int32).toInt = 2 := (by decide); omega) 2 (zB.wk (a' := 0) (b' := 2) (zB.of (x := 2) 2 (by decide)) (by decide) (by decide)) g220_ hI220_ hF220_ f220_25_0_17 f220_25_0_20 (by have qc0 : (2 : Int32).toInt = 2 := (by decide); omega) (by have qc0 : (2 : Int32).toInt = 2 := (by decide); omega)
      · skip
        intro a235_2 b235_2 n235_2 a235_3 b235_3 a235_4 b235_4 a235_5 b235_5 a235_6 b235_6 a235_7 b235_7 a235_8 b235_8 a235_s1 b235_s1 n235_s1 a235_s2 b235_s2 g235_ hI235_ hF235_ f235_25_0_17 f235_25_0_20 hR235_0 hM235_
        refine z_iast (pc := 235) C rfl (by decide) (zIx b235_s1 (by decide) (by decide)) dX10_readPaper_235 ?_
        refine w_mem2 hI235_ hF235_ (by rw [zrg38 (r := 0) (by have hq : a235_s1.toNatClampNeg = a235_s1.toInt.toNat := rfl; have hq2 := b235_s1; omega)]; exact b235_s2) rfl (fun g51 hI51 hF51 hq51 hx51 => ?_)
        have ek51_25_0_17 : (g51 25 0 17).toInt = (g235_ 25 0 17).toInt := by rw [hq51 25 0 17 (by omega)]
        have c51_25_0_17x : zB (g51 25 0 17) 0 120 := by have q9 := f235_25_0_17; constructor <;> omega
        have ek51_25_0_20 : (g51 25 0 20).toInt = (g235_ 25 0 20).toInt := by rw [hq51 25 0 20 (by omega)]
        have c51_25_0_20x : zB (g51 25 0 20) 0 11 := by have q9 := f235_25_0_20; constructor <;> omega
        refine z_aload_n (pc := 236) C dX10_readPaper_236 rfl ?_
        refine z_getR (pc := 237) C zf_X10_46 rfl rfl (by decide) dX10_readPaper_237 ?_
        refine z_iload_n (pc := 240) C dX10_readPaper_240 rfl ?_
        refine z_iconst (pc := 241) (v := 1) C dX10_readPaper_241 (by decide) ?_
        refine z_iadd (pc := 242) C dX10_readPaper_242 ?_
        refine w_gp (fun v => v.toInt = a235_2.toInt + 1) (zadd_eb b235_2 (zB.of (x := 1) 1 (by decide)) (by decide) (by decide)) (fun v52 e52 => ?_)
        have b52x : zB v52 1 89 := by have q1 := b235_2; have q2 := (zB.of (x := 1) 1 (by decide)); constructor <;> omega
        refine z_iload_n (pc := 243) C dX10_readPaper_243 rfl ?_
        refine z_iast (pc := 244) C rfl (by decide) (zIx b52x (by decide) (by decide)) dX10_readPaper_244 ?_
        refine w_mem2 hI51 hF51 (by rw [zrg38 (r := 1) (by have hq : v52.toNatClampNeg = v52.toInt.toNat := rfl; have hq2 := b52x; omega)]; exact b1) rfl (fun g53 hI53 hF53 hq53 hx53 => ?_)
        have ek53_25_0_17 : (g53 25 0 17).toInt = (g51 25 0 17).toInt := by rw [hq53 25 0 17 (by omega)]
        have c53_25_0_17x : zB (g53 25 0 17) 0 120 := by have q9 := c51_25_0_17x; constructor <;> omega
        have ek53_25_0_20 : (g53 25 0 20).toInt = (g51 25 0 20).toInt := by rw [hq53 25 0 20 (by omega)]
        have c53_25_0_20x : zB (g53 25 0 20) 0 11 := by have q9 := c51_25_0_20x; constructor <;> omega
        refine z_aload_n (pc := 245) C dX10_readPaper_245 rfl ?_
        refine z_getR (pc := 246) C zf_X10_46 rfl rfl (by decide) dX10_readPaper_246 ?_
        refine z_iload_n (pc := 249) C dX10_readPaper_249 rfl ?_
        refine z_iconst (pc := 250) (v := 2) C dX10_readPaper_250 (by decide) ?_
        refine z_iadd (pc := 251) C dX10_readPaper_251 ?_
        refine w_gp (fun v => v.toInt = a235_2.toInt + 2) (zadd_eb b235_2 (zB.of (x := 2) 2 (by decide)) (by decide) (by decide)) (fun v54 e54 => ?_)
        have b54x : zB v54 2 90 := by have q1 := b235_2; have q2 := (zB.of (x := 2) 2 (by decide)); constructor <;> omega
        refine z_iload_n (pc := 252) C dX10_readPaper_252 rfl ?_
        refine z_iast (pc := 253) C rfl (by decide) (zIx b54x (by decide) (by decide)) dX10_readPaper_253 ?_
        refine w_mem2 hI53 hF53 (by rw [zrg38 (r := 2) (by have hq : v54.toNatClampNeg = v54.toInt.toNat := rfl; have hq2 := b54x; omega)]; exact b235_3) rfl (fun g55 hI55 hF55 hq55 hx55 => ?_)
        have ek55_25_0_17 : (g55 25 0 17).toInt = (g53 25 0 17).toInt := by rw [hq55 25 0 17 (by omega)]
        have c55_25_0_17x : zB (g55 25 0 17) 0 120 := by have q9 := c53_25_0_17x; constructor <;> omega
        have ek55_25_0_20 : (g55 25 0 20).toInt = (g53 25 0 20).toInt := by rw [hq55 25 0 20 (by omega)]
        have c55_25_0_20x : zB (g55 25 0 20) 0 11 := by have q9 := c53_25_0_20x; constructor <;> omega
        refine z_aload_n (pc := 254) C dX10_readPaper_254 rfl ?_
        refine z_getR (pc := 255) C zf_X10_46 rfl rfl (by decide) dX10_readPaper_255 ?_
        refine z_iload_n (pc := 258) C dX10_readPaper_258 rfl ?_
        refine z_iconst (pc := 259) (v := 3) C dX10_readPaper_259 (by decide) ?_
        refine z_iadd (pc := 260) C dX10_readPaper_260 ?_
        refine w_gp (fun v => v.toInt = a235_2.toInt + 3) (zadd_eb b235_2 (zB.of (x := 3) 3 (by decide)) (by decide) (by decide)) (fun v56 e56 => ?_)
        have b56x : zB v56 3 91 := by have q1 := b235_2; have q2 := (zB.of (x := 3) 3 (by decide)); constructor <;> omega
        refine z_iload (pc := 261) C dX10_readPaper_261 rfl ?_
        refine z_iast (pc := 263) C rfl (by decide) (zIx b56x (by decide) (by decide)) dX10_readPaper_263 ?_
        refine w_mem2 hI55 hF55 (by rw [zrg38 (r := 3) (by have hq : v56.toNatClampNeg = v56.toInt.toNat := rfl; have hq2 := b56x; omega)]; exact b235_5) rfl (fun g57 hI57 hF57 hq57 hx57 => ?_)
        have ek57_25_0_17 : (g57 25 0 17).toInt = (g55 25 0 17).toInt := by rw [hq57 25 0 17 (by omega)]
        have c57_25_0_17x : zB (g57 25 0 17) 0 120 := by have q9 := c55_25_0_17x; constructor <;> omega
        have ek57_25_0_20 : (g57 25 0 20).toInt = (g55 25 0 20).toInt := by rw [hq57 25 0 20 (by omega)]
        have c57_25_0_20x : zB (g57 25 0 20) 0 11 := by have q9 := c55_25_0_20x; constructor <;> omega
        refine z_aload_n (pc := 264) C dX10_readPaper_264 rfl ?_
        refine z_getR (pc := 265) C zf_X10_46 rfl rfl (by decide) dX10_readPaper_265 ?_
        refine z_iload_n (pc := 268) C dX10_readPaper_268 rfl ?_
        refine z_iconst (pc := 269) (v := 4) C dX10_readPaper_269 (by decide) ?_
        refine z_iadd (pc := 270) C dX10_readPaper_270 ?_
        refine w_gp (fun v => v.toInt = a235_2.toInt + 4) (zadd_eb b235_2 (zB.of (x := 4) 4 (by decide)) (by decide) (by decide)) (fun v58 e58 => ?_)
        have b58x : zB v58 4 92 := by have q1 := b235_2; have q2 := (zB.of (x := 4) 4 (by decide)); constructor <;> omega
        refine z_iconst (pc := 271) (v := 0) C dX10_readPaper_271 (by decide) ?_
        refine z_iast (pc := 272) C rfl (by decide) (zIx b58x (by decide) (by decide)) dX10_readPaper_272 ?_
        refine w_mem2 hI57 hF57 (by rw [zrg38 (r := 4) (by have hq : v58.toNatClampNeg = v58.toInt.toNat := rfl; have hq2 := b58x; omega)]; exact (zB.wk (a' := (-2147483648)) (b' := 2147483647) (zB.of (x := 0) 0 (by decide)) (by decide) (by decide))) rfl (fun g59 hI59 hF59 hq59 hx59 => ?_)
        have ek59_25_0_17 : (g59 25 0 17).toInt = (g57 25 0 17).toInt := by rw [hq59 25 0 17 (by omega)]
        have c59_25_0_17x : zB (g59 25 0 17) 0 120 := by have q9 := c57_25_0_17x; constructor <;> omega
        have ek59_25_0_20 : (g59 25 0 20).toInt = (g57 25 0 20).toInt := by rw [hq59 25 0 20 (by omega)]
        have c59_25_0_20x : zB (g59 25 0 20) 0 11 := by have q9 := c57_25_0_20x; constructor <;> omega
        refine z_aload_n (pc := 273) C dX10_readPaper_273 rfl ?_
        refine z_getR (pc := 274) C zf_X10_46 rfl rfl (by decide) dX10_readPaper_274 ?_
        refine z_iload_n (pc := 277) C dX10_readPaper_277 rfl ?_
        refine z_iconst (pc := 278) (v := 5) C dX10_readPaper_278 (by decide) ?_
        refine z_iadd (pc := 279) C dX10_readPaper_279 ?_
        refine w_gp (fun v => v.toInt = a235_2.toInt + 5) (zadd_eb b235_2 (zB.of (x := 5) 5 (by decide)) (by decide) (by decide)) (fun v60 e60 => ?_)
        have b60x : zB v60 5 93 := by have q1 := b235_2; have q2 := (zB.of (x := 5) 5 (by decide)); constructor <;> omega
        refine z_iload (pc := 280) C dX10_readPaper_280 rfl ?_
        refine z_iast (pc := 282) C rfl (by decide) (zIx b60x (by decide) (by decide)) dX10_readPaper_282 ?_
        refine w_mem2 hI59 hF59 (by rw [zrg38 (r := 5) (by have hq : v60.toNatClampNeg = v60.toInt.toNat := rfl; have hq2 := b60x; omega)]; exact b235_6) rfl (fun g61 hI61 hF61 hq61 hx61 => ?_)
        have ek61_25_0_17 : (g61 25 0 17).toInt = (g59 25 0 17).toInt := by rw [hq61 25 0 17 (by omega)]
        have c61_25_0_17x : zB (g61 25 0 17) 0 120 := by have q9 := c59_25_0_17x; constructor <;> omega
        have ek61_25_0_20 : (g61 25 0 20).toInt = (g59 25 0 20).toInt := by rw [hq61 25 0 20 (by omega)]
        have c61_25_0_20x : zB (g61 25 0 20) 0 11 := by have q9 := c59_25_0_20x; constructor <;> omega
        refine z_aload_n (pc := 283) C dX10_readPaper_283 rfl ?_
        refine z_getR (pc := 284) C zf_X10_46 rfl rfl (by decide) dX10_readPaper_284 ?_
        refine z_iload_n (pc := 287) C dX10_readPaper_287 rfl ?_
        refine z_bipush (pc := 288) (v := 6) C dX10_readPaper_288 (by decide) ?_
        refine z_iadd (pc := 290) C dX10_readPaper_290 ?_
        refine w_gp (fun v => v.toInt = a235_2.toInt + 6) (zadd_eb b235_2 (zB.of (x := 6) 6 (by decide)) (by decide) (by decide)) (fun v62 e62 => ?_)
        have b62x : zB v62 6 94 := by have q1 := b235_2; have q2 := (zB.of (x := 6) 6 (by decide)); constructor <;> omega
        refine z_iload (pc := 291) C dX10_readPaper_291 rfl ?_
        refine z_iast (pc := 293) C rfl (by decide) (zIx b62x (by decide) (by decide)) dX10_readPaper_293 ?_
        refine w_mem2 hI61 hF61 (by rw [zrg38 (r := 6) (by have hq : v62.toNatClampNeg = v62.toInt.toNat := rfl; have hq2 := b62x; omega)]; exact b235_7) rfl (fun g63 hI63 hF63 hq63 hx63 => ?_)
        have ek63_25_0_17 : (g63 25 0 17).toInt = (g61 25 0 17).toInt := by rw [hq63 25 0 17 (by omega)]
        have c63_25_0_17x : zB (g63 25 0 17) 0 120 := by have q9 := c61_25_0_17x; constructor <;> omega
        have ek63_25_0_20 : (g63 25 0 20).toInt = (g61 25 0 20).toInt := by rw [hq63 25 0 20 (by omega)]
        have c63_25_0_20x : zB (g63 25 0 20) 0 11 := by have q9 := c61_25_0_20x; constructor <;> omega
        refine z_aload_n (pc := 294) C dX10_readPaper_294 rfl ?_
        refine z_getR (pc := 295) C zf_X10_46 rfl rfl (by decide) dX10_readPaper_295 ?_
        refine z_iload_n (pc := 298) C dX10_readPaper_298 rfl ?_
        refine z_bipush (pc := 299) (v := 7) C dX10_readPaper_299 (by decide) ?_
        refine z_iadd (pc := 301) C dX10_readPaper_301 ?_
        refine w_gp (fun v => v.toInt = a235_2.toInt + 7) (zadd_eb b235_2 (zB.of (x := 7) 7 (by decide)) (by decide) (by decide)) (fun v64 e64 => ?_)
        have b64x : zB v64 7 95 := by have q1 := b235_2; have q2 := (zB.of (x := 7) 7 (by decide)); constructor <;> omega
        refine z_iload (pc := 302) C dX10_readPaper_302 rfl ?_
        refine z_iast (pc := 304) C rfl (by decide) (zIx b64x (by decide) (by decide)) dX10_readPaper_304 ?_
        refine w_mem2 hI63 hF63 (by rw [zrg38 (r := 7) (by have hq : v64.toNatClampNeg = v64.toInt.toNat := rfl; have hq2 := b64x; omega)]; exact b235_8) rfl (fun g65 hI65 hF65 hq65 hx65 => ?_)
        have ek65_25_0_17 : (g65 25 0 17).toInt = (g63 25 0 17).toInt := by rw [hq65 25 0 17 (by omega)]
        have c65_25_0_17x : zB (g65 25 0 17) 0 120 := by have q9 := c63_25_0_17x; constructor <;> omega
        have ek65_25_0_20 : (g65 25 0 20).toInt = (g63 25 0 20).toInt := by rw [hq65 25 0 20 (by omega)]
        have c65_25_0_20x : zB (g65 25 0 20) 0 11 := by have q9 := c63_25_0_20x; constructor <;> omega
        refine z_aload_n (pc := 305) C dX10_readPaper_305 rfl ?_
        refine z_dupr (pc := 306) C dX10_readPaper_306 ?_
        refine z_getI (pc := 307) C zf_X10_233 rfl rfl (by decide) dX10_readPaper_307 ?_
        refine w_gp (fun v => v.toInt = (g65 25 0 20).toInt) rfl (fun v66 e66 => ?_)
        have b66x : zB v66 0 11 := by have q9 : zB (g65 25 0 20) 0 11 := c65_25_0_20x; constructor <;> omega
        refine z_iconst (pc := 310) (v := 1) C dX10_readPaper_310 (by decide) ?_
        refine z_iadd (pc := 311) C dX10_readPaper_311 ?_
        refine w_gp (fun v => v.toInt = v66.toInt + 1) (zadd_eb b66x (zB.of (x := 1) 1 (by decide)) (by decide) (by decide)) (fun v67 e67 => ?_)
        have b67x : zB v67 1 12 := by have q1 := b66x; have q2 := (zB.of (x := 1) 1 (by decide)); constructor <;> omega
        refine z_putI (pc := 312) C zf_X10_233 zp_10_20 rfl rfl (by decide) dX10_readPaper_312 ?_
        refine w_mem2 hI65 hF65 (zB.wk (a' := 0) (b' := 12) b67x (by decide) (by decide)) rfl (fun g68 hI68 hF68 hq68 hx68 => ?_)
        have ek68_25_0_17 : (g68 25 0 17).toInt = (g65 25 0 17).toInt := by rw [hq68 25 0 17 (by omega)]
        have c68_25_0_17x : zB (g68 25 0 17) 0 120 := by have q9 := c65_25_0_17x; constructor <;> omega
        have ec68 : (g68 25 0 20).toInt = v67.toInt := by rw [hx68]
        have c68x : zB (g68 25 0 20) 1 12 := by have q9 := b67x; constructor <;> omega
        refine z_iconst (pc := 315) (v := 1) C dX10_readPaper_315 (by decide) ?_
        exact z_zret (pc := 316) C hr (z01 (zB.wk (a' := 0) (b' := 1) (zB.of (x := 1) 1 (by decide)) (by decide) (by decide))) dX10_readPaper_316 ⟨⟨_, rfl, (zB.wk (a' := 0) (b' := 1) (zB.of (x := 1) 1 (by decide)) (by decide) (by decide))⟩, hI68, hF68, (by intro v hv; cases hv; have qc0 : (1 : Int32).toInt = 1 := (by decide); omega)⟩
  obtain ⟨J0, J1, J2, J3, J4, J5, J6⟩ := J 133965
  show Z X 0 [some (zr 25 0), some (zi a1), none, none, none, none, none, none, none] [] f
  refine z_bipush (pc := 0) (v := 8) C dX10_readPaper_0 (by decide) ?_
  refine z_aload_n (pc := 2) C dX10_readPaper_2 rfl ?_
  refine z_getI (pc := 3) C zf_X10_233 rfl rfl (by decide) dX10_readPaper_3 ?_
  refine w_gp (fun v => v.toInt = (f 25 0 20).toInt) rfl (fun v69 e69 => ?_)
  have b69x : zB v69 0 11 := by have q9 : zB (f 25 0 20) 0 11 := pf25_0_20; constructor <;> omega
  refine z_imul (pc := 6) C dX10_readPaper_6 ?_
  refine w_gp (fun v => v.toInt = 8 * v69.toInt) (zmul_kb 8 (by decide) (by decide) b69x (by decide) (by decide)) (fun v70 e70 => ?_)
  have b70x : zB v70 0 88 := zmul_bb e70 (by decide) b69x
  refine z_istore_n (pc := 7) C dX10_readPaper_7 (by rw [hn]; decide) rfl ?_
  refine z_aload_n (pc := 8) C dX10_readPaper_8 rfl ?_
  refine z_callV (pc := 9) C zk_X10_214 (w_X10_next _ _  hI) rfl rfl (by decide) rfl rfl (Nat.le_of_ble_eq_true rfl) dX10_readPaper_9 (fun r71 g71 q71 => ?_)
  obtain ⟨⟨v71, rfl, b71x⟩, hI71, hF71q, hp71_0, hp71_1, hp71_2, hp71_3⟩ := q71
  have hp71_0 := hp71_0 _ rfl
  have hp71_1 := hp71_1 _ rfl
  have hp71_2 := hp71_2 _ rfl
  have hp71_3 := hp71_3 _ rfl
  have hF71 := zFr.tr hF hF71q (by decide)
  simp only [Option.toList, List.cons_append, List.nil_append]
  have cr71_25_0_17 : zB (g71 25 0 17) 0 120 := hI71 25 0 17
  have ek71_25_0_20 : (g71 25 0 20).toInt = (f 25 0 20).toInt := by rw [hF71q 25 0 20 rfl]
  have c71_25_0_20x : zB (g71 25 0 20) 0 11 := by have q9 := pf25_0_20; constructor <;> omega
  refine z_bipush (pc := 12) (v := 65) C dX10_readPaper_12 (by decide) ?_
  refine z_isub (pc := 14) C dX10_readPaper_14 ?_
  refine w_gp (fun v => v.toInt = v71.toInt - 65) (zsub_eb b71x (zB.of (x := 65) 65 (by decide)) (by decide) (by decide)) (fun v72 e72 => ?_)
  have b72x : zB v72 (-66) 190 := by have q1 := b71x; have q2 := (zB.of (x := 65) 65 (by decide)); constructor <;> omega
  refine z_istore_n (pc := 15) C dX10_readPaper_15 (by rw [hn]; decide) rfl ?_
  refine z_iload_n (pc := 16) C dX10_readPaper_16 rfl ?_
  refine z_callSb (pc := 17) C zk_X10_83 (m_X10_isLand _ _ _) rfl rfl (Nat.le_of_ble_eq_true rfl) dX10_readPaper_17 (fun h17_72 => ?_) (fun h17_72 => ?_)
  · skip
    have b74x : zB v72 0 5 := h17_72
    have b75x : zB v71 65 70 := by constructor <;> omega
    have c76x : zB (g71 25 0 17) 0 119 := by constructor <;> omega
    refine z_if_eq (pc := 20) 28 C dX10_readPaper_20 (by decide) (fun h => absurd h (by decide)) (fun _ => ?_)
    refine z_iload_n (pc := 23) C dX10_readPaper_23 rfl ?_
    refine z_iload_n (pc := 24) C dX10_readPaper_24 rfl ?_
    refine z_icmp_ne (pc := 25) 30 C dX10_readPaper_25 (by decide) (fun h25_76 => ?_) (fun h25_76 => ?_)
    · skip
      refine z_aload_n (pc := 30) C dX10_readPaper_30 rfl ?_
      refine z_dupr (pc := 31) C dX10_readPaper_31 ?_
      refine z_getI (pc := 32) C zf_X10_211 rfl rfl (by decide) dX10_readPaper_32 ?_
      refine w_gp (fun v => v.toInt = (g71 25 0 17).toInt) rfl (fun v78 e78 => ?_)
      have b78x : zB v78 0 119 := by have q9 : zB (g71 25 0 17) 0 119 := c76x; constructor <;> omega
      refine z_iconst (pc := 35) (v := 1) C dX10_readPaper_35 (by decide) ?_
      refine z_iadd (pc := 36) C dX10_readPaper_36 ?_
      refine w_gp (fun v => v.toInt = v78.toInt + 1) (zadd_eb b78x (zB.of (x := 1) 1 (by decide)) (by decide) (by decide)) (fun v79 e79 => ?_)
      have b79x : zB v79 1 120 := by have q1 := b78x; have q2 := (zB.of (x := 1) 1 (by decide)); constructor <;> omega
      refine z_putI (pc := 37) C zf_X10_211 zp_10_17 rfl rfl (by decide) dX10_readPaper_37 ?_
      refine w_mem2 hI71 hF71 (zB.wk (a' := 0) (b' := 120) b79x (by decide) (by decide)) rfl (fun g80 hI80 hF80 hq80 hx80 => ?_)
      have ec80 : (g80 25 0 17).toInt = v79.toInt := by rw [hx80]
      have c80x : zB (g80 25 0 17) 1 120 := by have q9 := b79x; constructor <;> omega
      have ek80_25_0_20 : (g80 25 0 20).toInt = (g71 25 0 20).toInt := by rw [hq80 25 0 20 (by omega)]
      have c80_25_0_20x : zB (g80 25 0 20) 0 11 := by have q9 := c71_25_0_20x; constructor <;> omega
      refine z_aload_n (pc := 40) C dX10_readPaper_40 rfl ?_
      refine z_bipush (pc := 41) (v := 42) C dX10_readPaper_41 (by decide) ?_
      refine z_callV (pc := 43) C zk_X10_227 (w_X10_takes _ _ 42 (zB.wk (a' := 1) (b' := 126) (zB.of (x := 42) 42 (by decide)) (by decide) (by decide)) hI80) rfl rfl (by decide) rfl rfl (Nat.le_of_ble_eq_true rfl) dX10_readPaper_43 (fun r81 g81 q81 => ?_)
      obtain ⟨⟨v81, rfl, b81x⟩, hI81, hF81q⟩ := q81
      have hF81 := zFr.tr hF80 hF81q (by decide)
      simp only [Option.toList, List.cons_append, List.nil_append]
      have cr81_25_0_17 : zB (g81 25 0 17) 0 120 := hI81 25 0 17
      have ek81_25_0_20 : (g81 25 0 20).toInt = (g80 25 0 20).toInt := by rw [hF81q 25 0 20 rfl]
      have c81_25_0_20x : zB (g81 25 0 20) 0 11 := by have q9 := c80_25_0_20x; constructor <;> omega
      refine z_istore (pc := 46) C dX10_readPaper_46 (by rw [hn]; decide) rfl ?_
      refine z_iconst (pc := 48) (v := 1) C dX10_readPaper_48 (by decide) ?_
      refine z_istore (pc := 49) C dX10_readPaper_49 (by rw [hn]; decide) rfl ?_
      refine z_iload (pc := 51) C dX10_readPaper_51 rfl ?_
      refine z_if_ne (pc := 53) 83 C dX10_readPaper_53 (by decide) (fun h53_81 => ?_) (fun h53_81 => ?_)
      · skip
        have b83x : zB v81 1 1 := by have q1 := b81x; have q2 := (zB.of (x := 0) 0 (by decide)); simp only [z32lt, z32le, z32eq, Int32.reduceToInt, Int32.toInt_zero] at h53_81; constructor <;> omega
        exact J1 v70 b70x (by have qc0 : (1 : Int32).toInt = 1 := (by decide); omega) v72 b74x v81 (zB.wk (a' := 0) (b' := 1) b83x (by decide) (by decide)) 1 (zB.wk (a' := 0) (b' := 40) (zB.of (x := 1) 1 (by decide)) (by decide) (by decide)) g81 hI81 hF81 cr81_25_0_17 c81_25_0_20x (by have qc0 : (1 : Int32).toInt = 1 := (by decide); omega) (by have qc0 : (1 : Int32).toInt = 1 := (by decide); omega)
      · skip
        have b84x : zB v81 0 0 := by have q1 := b81x; have q2 := (zB.of (x := 0) 0 (by decide)); simp only [z32lt, z32le, z32eq, Int32.reduceToInt, Int32.toInt_zero] at h53_81; constructor <;> omega
        refine z_aload_n (pc := 56) C dX10_readPaper_56 rfl ?_
        refine z_bipush (pc := 57) (v := 121) C dX10_readPaper_57 (by decide) ?_
        refine z_callV (pc := 59) C zk_X10_227 (w_X10_takes _ _ 121 (zB.wk (a' := 1) (b' := 126) (zB.of (x := 121) 121 (by decide)) (by decide) (by decide)) hI81) rfl rfl (by decide) rfl rfl (Nat.le_of_ble_eq_true rfl) dX10_readPaper_59 (fun r85 g85 q85 => ?_)
        obtain ⟨⟨v85, rfl, b85x⟩, hI85, hF85q⟩ := q85
        have hF85 := zFr.tr hF81 hF85q (by decide)
        simp only [Option.toList, List.cons_append, List.nil_append]
        have cr85_25_0_17 : zB (g85 25 0 17) 0 120 := hI85 25 0 17
        have ek85_25_0_20 : (g85 25 0 20).toInt = (g81 25 0 20).toInt := by rw [hF85q 25 0 20 rfl]
        have c85_25_0_20x : zB (g85 25 0 20) 0 11 := by have q9 := c81_25_0_20x; constructor <;> omega
        refine z_if_ne (pc := 62) 67 C dX10_readPaper_62 (by decide) (fun h62_85 => ?_) (fun h62_85 => ?_)
        · skip
          have b87x : zB v85 1 1 := by have q1 := b85x; have q2 := (zB.of (x := 0) 0 (by decide)); simp only [z32lt, z32le, z32eq, Int32.reduceToInt, Int32.toInt_zero] at h62_85; constructor <;> omega
          refine z_aload_n (pc := 67) C dX10_readPaper_67 rfl ?_
          refine z_iconst (pc := 68) (v := 1) C dX10_readPaper_68 (by decide) ?_
          refine z_bipush (pc := 69) (v := 40) C dX10_readPaper_69 (by decide) ?_
          refine z_callV (pc := 71) C zk_X10_230 (w_X10_readNumber _ _ 1 (zB.wk (a' := 0) (b' := 40) (zB.of (x := 1) 1 (by decide)) (by decide) (by decide)) 40 (zB.wk (a' := 0) (b' := 99) (zB.of (x := 40) 40 (by decide)) (by decide) (by decide)) hI85) rfl rfl (by decide) rfl rfl (Nat.le_of_ble_eq_true rfl) dX10_readPaper_71 (fun r88 g88 q88 => ?_)
          have qa88_1 : (1 : Int32).toInt = 1 := by decide
          have qa88_40 : (40 : Int32).toInt = 40 := by decide
          obtain ⟨⟨v88, rfl, b88x⟩, hI88, hF88q, hp88_0⟩ := q88
          have hp88_0 := hp88_0 _ rfl
          have b88y : zB v88 (-1) 40 := by have q8 := (zB.of (x := 40) 40 (by decide)); constructor <;> omega
          have hF88 := zFr.tr hF85 hF88q (by decide)
          simp only [Option.toList, List.cons_append, List.nil_append]
          have cr88_25_0_17 : zB (g88 25 0 17) 0 120 := hI88 25 0 17
          have ek88_25_0_20 : (g88 25 0 20).toInt = (g85 25 0 20).toInt := by rw [hF88q 25 0 20 rfl]
          have c88_25_0_20x : zB (g88 25 0 20) 0 11 := by have q9 := c85_25_0_20x; constructor <;> omega
          refine z_istore (pc := 74) C dX10_readPaper_74 (by rw [hn]; decide) rfl ?_
          refine z_iload (pc := 76) C dX10_readPaper_76 rfl ?_
          refine z_if_ge (pc := 78) 83 C dX10_readPaper_78 (by decide) (fun h78_88 => ?_) (fun h78_88 => ?_)
          · skip
            have b90x : zB v88 0 40 := by have q1 := b88y; have q2 := (zB.of (x := 0) 0 (by decide)); simp only [z32lt, z32le, z32eq, Int32.reduceToInt, Int32.toInt_zero] at h78_88; constructor <;> omega
            exact J1 v70 b70x (by omega) v72 b74x v81 (zB.wk (a' := 0) (b' := 1) b84x (by decide) (by decide)) v88 b90x g88 hI88 hF88 cr88_25_0_17 c88_25_0_20x (by omega) (by omega)
          · skip
            have b91x : zB v88 (-1) (-1) := by have q1 := b88y; have q2 := (zB.of (x := 0) 0 (by decide)); simp only [z32lt, z32le, z32eq, Int32.reduceToInt, Int32.toInt_zero] at h78_88; constructor <;> omega
            refine z_iconst (pc := 81) (v := 0) C dX10_readPaper_81 (by decide) ?_
            exact z_zret (pc := 82) C hr (z01 (zB.wk (a' := 0) (b' := 1) (zB.of (x := 0) 0 (by decide)) (by decide) (by decide))) dX10_readPaper_82 ⟨⟨_, rfl, (zB.wk (a' := 0) (b' := 1) (zB.of (x := 0) 0 (by decide)) (by decide) (by decide))⟩, hI88, hF88, (by intro v hv; cases hv; have qc0 : (0 : Int32).toInt = 0 := (by decide); omega)⟩
        · skip
          have b92x : zB v85 0 0 := by have q1 := b85x; have q2 := (zB.of (x := 0) 0 (by decide)); simp only [z32lt, z32le, z32eq, Int32.reduceToInt, Int32.toInt_zero] at h62_85; constructor <;> omega
          refine z_iconst (pc := 65) (v := 0) C dX10_readPaper_65 (by decide) ?_
          exact z_zret (pc := 66) C hr (z01 (zB.wk (a' := 0) (b' := 1) (zB.of (x := 0) 0 (by decide)) (by decide) (by decide))) dX10_readPaper_66 ⟨⟨_, rfl, (zB.wk (a' := 0) (b' := 1) (zB.of (x := 0) 0 (by decide)) (by decide) (by decide))⟩, hI85, hF85, (by intro v hv; cases hv; have qc0 : (0 : Int32).toInt = 0 := (by decide); have qc1 : (1 : Int32).toInt = 1 := (by decide); omega)⟩
    · skip
      exact J0 v70 b70x (by omega) v72 (zB.wk (a' := (-66)) (b' := 190) b74x (by decide) (by decide)) g71 hI71 hF71 (zB.wk c76x (by decide) (by decide)) c71_25_0_20x (by omega) (by omega)
  · skip
    refine z_if_eq (pc := 20) 28 C dX10_readPaper_20 (by decide) (fun _ => ?_) (fun h => absurd (by decide) h)
    exact J0 v70 b70x (by omega) v72 b72x g71 hI71 hF71 cr71_25_0_17 c71_25_0_20x (by omega) (by omega)

set_option maxRecDepth 100000 in
set_option maxHeartbeats 4000000 in
theorem w_X10_readWorld (d : Nat) (f : zM)  (hI : zInv f) : ZM (d + 3) yX10_readWorld cX10_readWorld 4 (some .boolean) [zr 25 0] f (fun r g => (∃ v, r = some (zi v) ∧ zB v 0 1) ∧ zInv g ∧ zFr [(25, some 17), (25, some 18), (25, some 20), (37, none), (38, none)] f g) := by
  refine ZM.intro (by decide +kernel) (Nat.le_of_ble_eq_true rfl) ?_
  intro X C hr hn
  have hF : zFr [(25, some 17), (25, some 18), (25, some 20), (37, none), (38, none)] f f := zFr.rf _ _
  have ct25_0_17 : zB (f 25 0 17) 0 120 := hI 25 0 17
  have ct25_0_18 : zB (f 25 0 18) 0 12 := hI 25 0 18
  have ct25_0_20 : zB (f 25 0 20) 0 12 := hI 25 0 20
  have J : ∀ t : Nat, (∀ a17_1 : Int32, zB a17_1 0 11 → ∀ g : zM, zInv g → zFr [(25, some 17), (25, some 18), (25, some 20), (37, none), (38, none)] f g → zB (g 25 0 17) 0 120 → zB (g 25 0 18) 0 12 → zB (g 25 0 20) 0 12 → ((g 25 0 18).toInt + (g 25 0 20).toInt ≤ a17_1.toInt) → (3 + 6 * (11 - a17_1.toInt) : Int) < t → Z X 17 [some (zr 25 0), some (zi a17_1), none, none] [] g) ∧ (∀ a86_1 : Int32, zB a86_1 0 11 → ∀ a86_2 : Int32, zB a86_2 0 5 → ∀ g : zM, zInv g → zFr [(25, some 17), (25, some 18), (25, some 20), (37, none), (38, none)] f g → zB (g 25 0 17) 0 120 → zB (g 25 0 18) 0 12 → zB (g 25 0 20) 0 12 → (2 + 6 * (11 - a86_1.toInt) : Int) < t → Z X 86 [some (zr 25 0), some (zi a86_1), some (zi a86_2), none] [] g) ∧ (∀ a88_1 : Int32, zB a88_1 0 11 → ∀ a88_2 : Int32, zB a88_2 0 5 → ∀ g : zM, zInv g → zFr [(25, some 17), (25, some 18), (25, some 20), (37, none), (38, none)] f g → zB (g 25 0 17) 0 120 → zB (g 25 0 18) 0 12 → zB (g 25 0 20) 0 12 → ((g 25 0 18).toInt + (g 25 0 20).toInt ≤ a88_1.toInt + 1) → (1 + 6 * (11 - a88_1.toInt) : Int) < t → Z X 88 [some (zr 25 0), some (zi a88_1), some (zi a88_2), none] [] g) ∧ (∀ a111_1 : Int32, zB a111_1 0 11 → ∀ a111_2 : Int32, zB a111_2 0 5 → ∀ a111_3 : Int32, zB a111_3 0 255 → ∀ g : zM, zInv g → zFr [(25, some 17), (25, some 18), (25, some 20), (37, none), (38, none)] f g → zB (g 25 0 17) 0 119 → zB (g 25 0 18) 0 12 → zB (g 25 0 20) 0 12 → (0 + 6 * (11 - a111_1.toInt) : Int) < t → Z X 111 [some (zr 25 0), some (zi a111_1), some (zi a111_2), some (zi a111_3)] [] g) := by
    intro t
    induction t with
    | zero =>
      refine ⟨?_, ?_, ?_, ?_⟩ <;> (intros; exfalso; omega)
    | succ t ih =>
      obtain ⟨ih0, ih1, ih2, ih3⟩ := ih
      refine ⟨?_, ?_, ?_, ?_⟩
      · skip
        intro a17_1 b17_1 g17_ hI17_ hF17_ f17_25_0_17 f17_25_0_18 f17_25_0_20 hR17_0 hM17_
        refine z_iload_n (pc := 17) C dX10_readWorld_17 rfl ?_
        refine z_bipush (pc := 18) (v := 12) C dX10_readWorld_18 (by decide) ?_
        refine z_icmp_ge (pc := 20) 129 C dX10_readWorld_20 (by decide) (fun h20_0 => absurd h20_0 (by have q1 := b17_1; have q2 := (zB.of (x := 12) 12 (by decide)); simp only [z32lt, z32le, z32eq] at *; omega)) (fun h20_0 => ?_)
        refine z_aload_n (pc := 23) C dX10_readWorld_23 rfl ?_
        refine z_callV (pc := 24) C zk_X10_214 (w_X10_next _ _  hI17_) rfl rfl (by decide) rfl rfl (Nat.le_of_ble_eq_true rfl) dX10_readWorld_24 (fun r2 g2 q2 => ?_)
        obtain ⟨⟨v2, rfl, b2x⟩, hI2, hF2q, hp2_0, hp2_1, hp2_2, hp2_3⟩ := q2
        have hp2_0 := hp2_0 _ rfl
        have hp2_1 := hp2_1 _ rfl
        have hp2_2 := hp2_2 _ rfl
        have hp2_3 := hp2_3 _ rfl
        have hF2 := zFr.tr hF17_ hF2q (by decide)
        simp only [Option.toList, List.cons_append, List.nil_append]
        have cr2_25_0_17 : zB (g2 25 0 17) 0 120 := hI2 25 0 17
        have ek2_25_0_18 : (g2 25 0 18).toInt = (g17_ 25 0 18).toInt := by rw [hF2q 25 0 18 rfl]
        have c2_25_0_18x : zB (g2 25 0 18) 0 12 := by have q9 := f17_25_0_18; constructor <;> omega
        have ek2_25_0_20 : (g2 25 0 20).toInt = (g17_ 25 0 20).toInt := by rw [hF2q 25 0 20 rfl]
        have c2_25_0_20x : zB (g2 25 0 20) 0 12 := by have q9 := f17_25_0_20; constructor <;> omega
        refine z_bipush (pc := 27) (v := 65) C dX10_readWorld_27 (by decide) ?_
        refine z_isub (pc := 29) C dX10_readWorld_29 ?_
        refine w_gp (fun v => v.toInt = v2.toInt - 65) (zsub_eb b2x (zB.of (x := 65) 65 (by decide)) (by decide) (by decide)) (fun v3 e3 => ?_)
        have b3x : zB v3 (-66) 190 := by have q1 := b2x; have q2 := (zB.of (x := 65) 65 (by decide)); constructor <;> omega
        refine z_istore_n (pc := 30) C dX10_readWorld_30 (by rw [hn]; decide) rfl ?_
        refine z_iload_n (pc := 31) C dX10_readWorld_31 rfl ?_
        refine z_callSb (pc := 32) C zk_X10_83 (m_X10_isLand _ _ _) rfl rfl (Nat.le_of_ble_eq_true rfl) dX10_readWorld_32 (fun h32_3 => ?_) (fun h32_3 => ?_)
        · skip
          have b5x : zB v3 0 5 := h32_3
          have b6x : zB v2 65 70 := by constructor <;> omega
          have c7x : zB (g2 25 0 17) 0 119 := by constructor <;> omega
          refine z_if_ne (pc := 35) 40 C dX10_readWorld_35 (by decide) (fun _ => ?_) (fun h => absurd h (by decide))
          refine z_aload_n (pc := 40) C dX10_readWorld_40 rfl ?_
          refine z_dupr (pc := 41) C dX10_readWorld_41 ?_
          refine z_getI (pc := 42) C zf_X10_211 rfl rfl (by decide) dX10_readWorld_42 ?_
          refine w_gp (fun v => v.toInt = (g2 25 0 17).toInt) rfl (fun v8 e8 => ?_)
          have b8x : zB v8 0 119 := by have q9 : zB (g2 25 0 17) 0 119 := c7x; constructor <;> omega
          refine z_iconst (pc := 45) (v := 1) C dX10_readWorld_45 (by decide) ?_
          refine z_iadd (pc := 46) C dX10_readWorld_46 ?_
          refine w_gp (fun v => v.toInt = v8.toInt + 1) (zadd_eb b8x (zB.of (x := 1) 1 (by decide)) (by decide) (by decide)) (fun v9 e9 => ?_)
          have b9x : zB v9 1 120 := by have q1 := b8x; have q2 := (zB.of (x := 1) 1 (by decide)); constructor <;> omega
          refine z_putI (pc := 47) C zf_X10_211 zp_10_17 rfl rfl (by decide) dX10_readWorld_47 ?_
          refine w_mem2 hI2 hF2 (zB.wk (a' := 0) (b' := 120) b9x (by decide) (by decide)) rfl (fun g10 hI10 hF10 hq10 hx10 => ?_)
          have ec10 : (g10 25 0 17).toInt = v9.toInt := by rw [hx10]
          have c10x : zB (g10 25 0 17) 1 120 := by have q9 := b9x; constructor <;> omega
          have ek10_25_0_18 : (g10 25 0 18).toInt = (g2 25 0 18).toInt := by rw [hq10 25 0 18 (by omega)]
          have c10_25_0_18x : zB (g10 25 0 18) 0 12 := by have q9 := c2_25_0_18x; constructor <;> omega
          have ek10_25_0_20 : (g10 25 0 20).toInt = (g2 25 0 20).toInt := by rw [hq10 25 0 20 (by omega)]
          have c10_25_0_20x : zB (g10 25 0 20) 0 12 := by have q9 := c2_25_0_20x; constructor <;> omega
          refine z_aload_n (pc := 50) C dX10_readWorld_50 rfl ?_
          refine z_bipush (pc := 51) (v := 58) C dX10_readWorld_51 (by decide) ?_
          refine z_callV (pc := 53) C zk_X10_227 (w_X10_takes _ _ 58 (zB.wk (a' := 1) (b' := 126) (zB.of (x := 58) 58 (by decide)) (by decide) (by decide)) hI10) rfl rfl (by decide) rfl rfl (Nat.le_of_ble_eq_true rfl) dX10_readWorld_53 (fun r11 g11 q11 => ?_)
          obtain ⟨⟨v11, rfl, b11x⟩, hI11, hF11q⟩ := q11
          have hF11 := zFr.tr hF10 hF11q (by decide)
          simp only [Option.toList, List.cons_append, List.nil_append]
          have cr11_25_0_17 : zB (g11 25 0 17) 0 120 := hI11 25 0 17
          have ek11_25_0_18 : (g11 25 0 18).toInt = (g10 25 0 18).toInt := by rw [hF11q 25 0 18 rfl]
          have c11_25_0_18x : zB (g11 25 0 18) 0 12 := by have q9 := c10_25_0_18x; constructor <;> omega
          have ek11_25_0_20 : (g11 25 0 20).toInt = (g10 25 0 20).toInt := by rw [hF11q 25 0 20 rfl]
          have c11_25_0_20x : zB (g11 25 0 20) 0 12 := by have q9 := c10_25_0_20x; constructor <;> omega
          refine z_if_eq (pc := 56) 69 C dX10_readWorld_56 (by decide) (fun h56_11 => ?_) (fun h56_11 => ?_)
          · skip
            have b13x : zB v11 0 0 := by have q1 := b11x; have q2 := (zB.of (x := 0) 0 (by decide)); simp only [z32lt, z32le, z32eq, Int32.reduceToInt, Int32.toInt_zero] at h56_11; constructor <;> omega
            refine z_aload_n (pc := 69) C dX10_readWorld_69 rfl ?_
            refine z_bipush (pc := 70) (v := 62) C dX10_readWorld_70 (by decide) ?_
            refine z_callV (pc := 72) C zk_X10_227 (w_X10_takes _ _ 62 (zB.wk (a' := 1) (b' := 126) (zB.of (x := 62) 62 (by decide)) (by decide) (by decide)) hI11) rfl rfl (by decide) rfl rfl (Nat.le_of_ble_eq_true rfl) dX10_readWorld_72 (fun r14 g14 q14 => ?_)
            obtain ⟨⟨v14, rfl, b14x⟩, hI14, hF14q⟩ := q14
            have hF14 := zFr.tr hF11 hF14q (by decide)
            simp only [Option.toList, List.cons_append, List.nil_append]
            have cr14_25_0_17 : zB (g14 25 0 17) 0 120 := hI14 25 0 17
            have ek14_25_0_18 : (g14 25 0 18).toInt = (g11 25 0 18).toInt := by rw [hF14q 25 0 18 rfl]
            have c14_25_0_18x : zB (g14 25 0 18) 0 12 := by have q9 := c11_25_0_18x; constructor <;> omega
            have ek14_25_0_20 : (g14 25 0 20).toInt = (g11 25 0 20).toInt := by rw [hF14q 25 0 20 rfl]
            have c14_25_0_20x : zB (g14 25 0 20) 0 12 := by have q9 := c11_25_0_20x; constructor <;> omega
            refine z_if_eq (pc := 75) 86 C dX10_readWorld_75 (by decide) (fun h75_14 => ?_) (fun h75_14 => ?_)
            · skip
              have b16x : zB v14 0 0 := by have q1 := b14x; have q2 := (zB.of (x := 0) 0 (by decide)); simp only [z32lt, z32le, z32eq, Int32.reduceToInt, Int32.toInt_zero] at h75_14; constructor <;> omega
              exact ih1 a17_1 b17_1 v3 b5x g14 hI14 hF14 cr14_25_0_17 c14_25_0_18x c14_25_0_20x (by omega)
            · skip
              have b17x : zB v14 1 1 := by have q1 := b14x; have q2 := (zB.of (x := 0) 0 (by decide)); simp only [z32lt, z32le, z32eq, Int32.reduceToInt, Int32.toInt_zero] at h75_14; constructor <;> omega
              have c18x : zB (g14 25 0 20) 0 11 := by constructor <;> omega
              refine z_aload_n (pc := 78) C dX10_readWorld_78 rfl ?_
              refine z_iload_n (pc := 79) C dX10_readWorld_79 rfl ?_
              refine z_callV (pc := 80) C zk_X10_245 (w_X10_readPaper _ _ v3 b5x c18x hI14) rfl rfl (by decide) rfl rfl (Nat.le_of_ble_eq_true rfl) dX10_readWorld_80 (fun r19 g19 q19 => ?_)
              obtain ⟨⟨v19, rfl, b19x⟩, hI19, hF19q, hp19_0⟩ := q19
              have hp19_0 := hp19_0 _ rfl
              have hF19 := zFr.tr hF14 hF19q (by decide)
              simp only [Option.toList, List.cons_append, List.nil_append]
              have cr19_25_0_17 : zB (g19 25 0 17) 0 120 := hI19 25 0 17
              have ek19_25_0_18 : (g19 25 0 18).toInt = (g14 25 0 18).toInt := by rw [hF19q 25 0 18 rfl]
              have c19_25_0_18x : zB (g19 25 0 18) 0 12 := by have q9 := c14_25_0_18x; constructor <;> omega
              have cr19_25_0_20 : zB (g19 25 0 20) 0 12 := hI19 25 0 20
              refine z_if_ne (pc := 83) 88 C dX10_readWorld_83 (by decide) (fun h83_19 => ?_) (fun h83_19 => ?_)
              · skip
                have b21x : zB v19 1 1 := by have q1 := b19x; have q2 := (zB.of (x := 0) 0 (by decide)); simp only [z32lt, z32le, z32eq, Int32.reduceToInt, Int32.toInt_zero] at h83_19; constructor <;> omega
                exact ih2 a17_1 b17_1 v3 b5x g19 hI19 hF19 cr19_25_0_17 c19_25_0_18x cr19_25_0_20 (by omega) (by omega)
              · skip
                have b22x : zB v19 0 0 := by have q1 := b19x; have q2 := (zB.of (x := 0) 0 (by decide)); simp only [z32lt, z32le, z32eq, Int32.reduceToInt, Int32.toInt_zero] at h83_19; constructor <;> omega
                exact ih1 a17_1 b17_1 v3 b5x g19 hI19 hF19 cr19_25_0_17 c19_25_0_18x cr19_25_0_20 (by omega)
          · skip
            have b23x : zB v11 1 1 := by have q1 := b11x; have q2 := (zB.of (x := 0) 0 (by decide)); simp only [z32lt, z32le, z32eq, Int32.reduceToInt, Int32.toInt_zero] at h56_11; constructor <;> omega
            have c24x : zB (g11 25 0 18) 0 11 := by constructor <;> omega
            refine z_aload_n (pc := 59) C dX10_readWorld_59 rfl ?_
            refine z_iload_n (pc := 60) C dX10_readWorld_60 rfl ?_
            refine z_callV (pc := 61) C zk_X10_242 (w_X10_readCrime _ _ v3 b5x c24x hI11) rfl rfl (by decide) rfl rfl (Nat.le_of_ble_eq_true rfl) dX10_readWorld_61 (fun r25 g25 q25 => ?_)
            obtain ⟨⟨v25, rfl, b25x⟩, hI25, hF25q, hp25_0⟩ := q25
            have hp25_0 := hp25_0 _ rfl
            have hF25 := zFr.tr hF11 hF25q (by decide)
            simp only [Option.toList, List.cons_append, List.nil_append]
            have cr25_25_0_17 : zB (g25 25 0 17) 0 120 := hI25 25 0 17
            have cr25_25_0_18 : zB (g25 25 0 18) 0 12 := hI25 25 0 18
            have ek25_25_0_20 : (g25 25 0 20).toInt = (g11 25 0 20).toInt := by rw [hF25q 25 0 20 rfl]
            have c25_25_0_20x : zB (g25 25 0 20) 0 12 := by have q9 := c11_25_0_20x; constructor <;> omega
            refine z_if_ne (pc := 64) 88 C dX10_readWorld_64 (by decide) (fun h64_25 => ?_) (fun h64_25 => ?_)
            · skip
              have b27x : zB v25 1 1 := by have q1 := b25x; have q2 := (zB.of (x := 0) 0 (by decide)); simp only [z32lt, z32le, z32eq, Int32.reduceToInt, Int32.toInt_zero] at h64_25; constructor <;> omega
              exact ih2 a17_1 b17_1 v3 b5x g25 hI25 hF25 cr25_25_0_17 cr25_25_0_18 c25_25_0_20x (by omega) (by omega)
            · skip
              have b28x : zB v25 0 0 := by have q1 := b25x; have q2 := (zB.of (x := 0) 0 (by decide)); simp only [z32lt, z32le, z32eq, Int32.reduceToInt, Int32.toInt_zero] at h64_25; constructor <;> omega
              refine z_iconst (pc := 67) (v := 0) C dX10_readWorld_67 (by decide) ?_
              exact z_zret (pc := 68) C hr (z01 (zB.wk (a' := 0) (b' := 1) (zB.of (x := 0) 0 (by decide)) (by decide) (by decide))) dX10_readWorld_68 ⟨⟨_, rfl, (zB.wk (a' := 0) (b' := 1) (zB.of (x := 0) 0 (by decide)) (by decide) (by decide))⟩, hI25, hF25⟩
        · skip
          refine z_if_ne (pc := 35) 40 C dX10_readWorld_35 (by decide) (fun h => absurd (by decide) h) (fun _ => ?_)
          refine z_iconst (pc := 38) (v := 0) C dX10_readWorld_38 (by decide) ?_
          exact z_zret (pc := 39) C hr (z01 (zB.wk (a' := 0) (b' := 1) (zB.of (x := 0) 0 (by decide)) (by decide) (by decide))) dX10_readWorld_39 ⟨⟨_, rfl, (zB.wk (a' := 0) (b' := 1) (zB.of (x := 0) 0 (by decide)) (by decide) (by decide))⟩, hI2, hF2⟩
      · skip
        intro a86_1 b86_1 a86_2 b86_2 g86_ hI86_ hF86_ f86_25_0_17 f86_25_0_18 f86_25_0_20 hM86_
        refine z_iconst (pc := 86) (v := 0) C dX10_readWorld_86 (by decide) ?_
        exact z_zret (pc := 87) C hr (z01 (zB.wk (a' := 0) (b' := 1) (zB.of (x := 0) 0 (by decide)) (by decide) (by decide))) dX10_readWorld_87 ⟨⟨_, rfl, (zB.wk (a' := 0) (b' := 1) (zB.of (x := 0) 0 (by decide)) (by decide) (by decide))⟩, hI86_, hF86_⟩
      · skip
        intro a88_1 b88_1 a88_2 b88_2 g88_ hI88_ hF88_ f88_25_0_17 f88_25_0_18 f88_25_0_20 hR88_0 hM88_
        refine z_aload_n (pc := 88) C dX10_readWorld_88 rfl ?_
        refine z_callV (pc := 89) C zk_X10_214 (w_X10_next _ _  hI88_) rfl rfl (by decide) rfl rfl (Nat.le_of_ble_eq_true rfl) dX10_readWorld_89 (fun r29 g29 q29 => ?_)
        obtain ⟨⟨v29, rfl, b29x⟩, hI29, hF29q, hp29_0, hp29_1, hp29_2, hp29_3⟩ := q29
        have hp29_0 := hp29_0 _ rfl
        have hp29_1 := hp29_1 _ rfl
        have hp29_2 := hp29_2 _ rfl
        have hp29_3 := hp29_3 _ rfl
        have hF29 := zFr.tr hF88_ hF29q (by decide)
        simp only [Option.toList, List.cons_append, List.nil_append]
        have cr29_25_0_17 : zB (g29 25 0 17) 0 120 := hI29 25 0 17
        have ek29_25_0_18 : (g29 25 0 18).toInt = (g88_ 25 0 18).toInt := by rw [hF29q 25 0 18 rfl]
        have c29_25_0_18x : zB (g29 25 0 18) 0 12 := by have q9 := f88_25_0_18; constructor <;> omega
        have ek29_25_0_20 : (g29 25 0 20).toInt = (g88_ 25 0 20).toInt := by rw [hF29q 25 0 20 rfl]
        have c29_25_0_20x : zB (g29 25 0 20) 0 12 := by have q9 := f88_25_0_20; constructor <;> omega
        refine z_istore_n (pc := 92) C dX10_readWorld_92 (by rw [hn]; decide) rfl ?_
        refine z_iload_n (pc := 93) C dX10_readWorld_93 rfl ?_
        refine z_if_ge (pc := 94) 99 C dX10_readWorld_94 (by decide) (fun h94_29 => ?_) (fun h94_29 => ?_)
        · skip
          have b31x : zB v29 0 255 := by have q1 := b29x; have q2 := (zB.of (x := 0) 0 (by decide)); simp only [z32lt, z32le, z32eq, Int32.reduceToInt, Int32.toInt_zero] at h94_29; constructor <;> omega
          have c32x : zB (g29 25 0 17) 0 119 := by constructor <;> omega
          refine z_iload_n (pc := 99) C dX10_readWorld_99 rfl ?_
          refine z_bipush (pc := 100) (v := 59) C dX10_readWorld_100 (by decide) ?_
          refine z_icmp_ne (pc := 102) 111 C dX10_readWorld_102 (by decide) (fun h102_32 => ?_) (fun h102_32 => ?_)
          · skip
            exact ih3 a88_1 b88_1 a88_2 b88_2 v29 b31x g29 hI29 hF29 c32x c29_25_0_18x c29_25_0_20x (by omega)
          · skip
            have b34x : zB v29 59 59 := by have q1 := b31x; have q2 := (zB.of (x := 59) 59 (by decide)); simp only [z32lt, z32le, z32eq, Int32.reduceToInt, Int32.toInt_zero] at h102_32; constructor <;> omega
            have c35x : zB (g29 25 0 17) 0 119 := by constructor <;> omega
            refine z_iload_n (pc := 105) C dX10_readWorld_105 rfl ?_
            refine z_bipush (pc := 106) (v := 11) C dX10_readWorld_106 (by decide) ?_
            refine z_icmp_ne (pc := 108) 113 C dX10_readWorld_108 (by decide) (fun h108_35 => ?_) (fun h108_35 => ?_)
            · skip
              have b37x : zB a88_1 0 10 := by have q1 := b88_1; have q2 := (zB.of (x := 11) 11 (by decide)); simp only [z32lt, z32le, z32eq, Int32.reduceToInt, Int32.toInt_zero] at h108_35; constructor <;> omega
              refine z_aload_n (pc := 113) C dX10_readWorld_113 rfl ?_
              refine z_dupr (pc := 114) C dX10_readWorld_114 ?_
              refine z_getI (pc := 115) C zf_X10_211 rfl rfl (by decide) dX10_readWorld_115 ?_
              refine w_gp (fun v => v.toInt = (g29 25 0 17).toInt) rfl (fun v38 e38 => ?_)
              have b38x : zB v38 0 119 := by have q9 : zB (g29 25 0 17) 0 119 := c35x; constructor <;> omega
              refine z_iconst (pc := 118) (v := 1) C dX10_readWorld_118 (by decide) ?_
              refine z_iadd (pc := 119) C dX10_readWorld_119 ?_
              refine w_gp (fun v => v.toInt = v38.toInt + 1) (zadd_eb b38x (zB.of (x := 1) 1 (by decide)) (by decide) (by decide)) (fun v39 e39 => ?_)
              have b39x : zB v39 1 120 := by have q1 := b38x; have q2 := (zB.of (x := 1) 1 (by decide)); constructor <;> omega
              refine z_putI (pc := 120) C zf_X10_211 zp_10_17 rfl rfl (by decide) dX10_readWorld_120 ?_
              refine w_mem2 hI29 hF29 (zB.wk (a' := 0) (b' := 120) b39x (by decide) (by decide)) rfl (fun g40 hI40 hF40 hq40 hx40 => ?_)
              have ec40 : (g40 25 0 17).toInt = v39.toInt := by rw [hx40]
              have c40x : zB (g40 25 0 17) 1 120 := by have q9 := b39x; constructor <;> omega
              have ek40_25_0_18 : (g40 25 0 18).toInt = (g29 25 0 18).toInt := by rw [hq40 25 0 18 (by omega)]
              have c40_25_0_18x : zB (g40 25 0 18) 0 12 := by have q9 := c29_25_0_18x; constructor <;> omega
              have ek40_25_0_20 : (g40 25 0 20).toInt = (g29 25 0 20).toInt := by rw [hq40 25 0 20 (by omega)]
              have c40_25_0_20x : zB (g40 25 0 20) 0 12 := by have q9 := c29_25_0_20x; constructor <;> omega
              refine z_iinc (pc := 123) (v := 1) C dX10_readWorld_123 rfl (by decide) (by rw [hn]; decide) rfl ?_
              obtain ⟨v41, hv41, e41⟩ : ∃ v : Int32, v = a88_1 + 1 ∧ v.toInt = a88_1.toInt + 1 := ⟨_, rfl, zadd_eb b37x (zB.of (x := 1) 1 (by decide)) (by decide) (by decide)⟩
              rw [← hv41]
              have b41x : zB v41 1 11 := by have q9 := b37x; constructor <;> omega
              refine z_goto (pc := 126) 17 C dX10_readWorld_126 (by decide) ?_
              refine w_mask [2, 3] ?_
              exact ih0 v41 (zB.wk (a' := 0) (b' := 11) b41x (by decide) (by decide)) g40 hI40 hF40 (zB.wk c40x (by decide) (by decide)) c40_25_0_18x c40_25_0_20x (by omega) (by omega)
            · skip
              have b42x : zB a88_1 11 11 := by have q1 := b88_1; have q2 := (zB.of (x := 11) 11 (by decide)); simp only [z32lt, z32le, z32eq, Int32.reduceToInt, Int32.toInt_zero] at h108_35; constructor <;> omega
              exact ih3 a88_1 (zB.wk (a' := 0) (b' := 11) b42x (by decide) (by decide)) a88_2 b88_2 v29 (zB.wk (a' := 0) (b' := 255) b34x (by decide) (by decide)) g29 hI29 hF29 c35x c29_25_0_18x c29_25_0_20x (by omega)
        · skip
          have b43x : zB v29 (-1) (-1) := by have q1 := b29x; have q2 := (zB.of (x := 0) 0 (by decide)); simp only [z32lt, z32le, z32eq, Int32.reduceToInt, Int32.toInt_zero] at h94_29; constructor <;> omega
          refine z_iconst (pc := 97) (v := 1) C dX10_readWorld_97 (by decide) ?_
          exact z_zret (pc := 98) C hr (z01 (zB.wk (a' := 0) (b' := 1) (zB.of (x := 1) 1 (by decide)) (by decide) (by decide))) dX10_readWorld_98 ⟨⟨_, rfl, (zB.wk (a' := 0) (b' := 1) (zB.of (x := 1) 1 (by decide)) (by decide) (by decide))⟩, hI29, hF29⟩
      · skip
        intro a111_1 b111_1 a111_2 b111_2 a111_3 b111_3 g111_ hI111_ hF111_ f111_25_0_17 f111_25_0_18 f111_25_0_20 hM111_
        refine z_iconst (pc := 111) (v := 0) C dX10_readWorld_111 (by decide) ?_
        exact z_zret (pc := 112) C hr (z01 (zB.wk (a' := 0) (b' := 1) (zB.of (x := 0) 0 (by decide)) (by decide) (by decide))) dX10_readWorld_112 ⟨⟨_, rfl, (zB.wk (a' := 0) (b' := 1) (zB.of (x := 0) 0 (by decide)) (by decide) (by decide))⟩, hI111_, hF111_⟩
  obtain ⟨J0, J1, J2, J3⟩ := J 87
  show Z X 0 [some (zr 25 0), none, none, none] [] f
  refine z_aload_n (pc := 0) C dX10_readWorld_0 rfl ?_
  refine z_iconst (pc := 1) (v := 0) C dX10_readWorld_1 (by decide) ?_
  refine z_putI (pc := 2) C zf_X10_211 zp_10_17 rfl rfl (by decide) dX10_readWorld_2 ?_
  refine w_mem2 hI hF (zB.wk (a' := 0) (b' := 120) (zB.of (x := 0) 0 (by decide)) (by decide) (by decide)) rfl (fun g44 hI44 hF44 hq44 hx44 => ?_)
  have ec44 : (g44 25 0 17).toInt = (0 : Int32).toInt := by rw [hx44]
  have c44x : zB (g44 25 0 17) 0 0 := by have q9 := (zB.of (x := 0) 0 (by decide)); constructor <;> omega
  have ek44_25_0_18 : (g44 25 0 18).toInt = (f 25 0 18).toInt := by rw [hq44 25 0 18 (by omega)]
  have c44_25_0_18x : zB (g44 25 0 18) 0 12 := by have q9 := ct25_0_18; constructor <;> omega
  have ek44_25_0_20 : (g44 25 0 20).toInt = (f 25 0 20).toInt := by rw [hq44 25 0 20 (by omega)]
  have c44_25_0_20x : zB (g44 25 0 20) 0 12 := by have q9 := ct25_0_20; constructor <;> omega
  refine z_aload_n (pc := 5) C dX10_readWorld_5 rfl ?_
  refine z_iconst (pc := 6) (v := 0) C dX10_readWorld_6 (by decide) ?_
  refine z_putI (pc := 7) C zf_X10_221 zp_10_18 rfl rfl (by decide) dX10_readWorld_7 ?_
  refine w_mem2 hI44 hF44 (zB.wk (a' := 0) (b' := 12) (zB.of (x := 0) 0 (by decide)) (by decide) (by decide)) rfl (fun g45 hI45 hF45 hq45 hx45 => ?_)
  have ek45_25_0_17 : (g45 25 0 17).toInt = (g44 25 0 17).toInt := by rw [hq45 25 0 17 (by omega)]
  have c45_25_0_17x : zB (g45 25 0 17) 0 0 := by have q9 := c44x; constructor <;> omega
  have ec45 : (g45 25 0 18).toInt = (0 : Int32).toInt := by rw [hx45]
  have c45x : zB (g45 25 0 18) 0 0 := by have q9 := (zB.of (x := 0) 0 (by decide)); constructor <;> omega
  have ek45_25_0_20 : (g45 25 0 20).toInt = (g44 25 0 20).toInt := by rw [hq45 25 0 20 (by omega)]
  have c45_25_0_20x : zB (g45 25 0 20) 0 12 := by have q9 := c44_25_0_20x; constructor <;> omega
  refine z_aload_n (pc := 10) C dX10_readWorld_10 rfl ?_
  refine z_iconst (pc := 11) (v := 0) C dX10_readWorld_11 (by decide) ?_
  refine z_putI (pc := 12) C zf_X10_233 zp_10_20 rfl rfl (by decide) dX10_readWorld_12 ?_
  refine w_mem2 hI45 hF45 (zB.wk (a' := 0) (b' := 12) (zB.of (x := 0) 0 (by decide)) (by decide) (by decide)) rfl (fun g46 hI46 hF46 hq46 hx46 => ?_)
  have ek46_25_0_17 : (g46 25 0 17).toInt = (g45 25 0 17).toInt := by rw [hq46 25 0 17 (by omega)]
  have c46_25_0_17x : zB (g46 25 0 17) 0 0 := by have q9 := c45_25_0_17x; constructor <;> omega
  have ek46_25_0_18 : (g46 25 0 18).toInt = (g45 25 0 18).toInt := by rw [hq46 25 0 18 (by omega)]
  have c46_25_0_18x : zB (g46 25 0 18) 0 0 := by have q9 := c45x; constructor <;> omega
  have ec46 : (g46 25 0 20).toInt = (0 : Int32).toInt := by rw [hx46]
  have c46x : zB (g46 25 0 20) 0 0 := by have q9 := (zB.of (x := 0) 0 (by decide)); constructor <;> omega
  refine z_iconst (pc := 15) (v := 0) C dX10_readWorld_15 (by decide) ?_
  refine z_istore_n (pc := 16) C dX10_readWorld_16 (by rw [hn]; decide) rfl ?_
  exact J0 0 (zB.wk (a' := 0) (b' := 11) (zB.of (x := 0) 0 (by decide)) (by decide) (by decide)) g46 hI46 hF46 (zB.wk c46_25_0_17x (by decide) (by decide)) (zB.wk c46_25_0_18x (by decide) (by decide)) (zB.wk c46x (by decide) (by decide)) (by have qc0 : (0 : Int32).toInt = 0 := (by decide); omega) (by have qc0 : (0 : Int32).toInt = 0 := (by decide); omega)

set_option maxRecDepth 100000 in
set_option maxHeartbeats 4000000 in
theorem w_X10_world (d : Nat) (f : zM)  (hI : zInv f) : ZM (d + 4) yX10_world cX10_world 4 (some .int) [zr 25 0] f (fun r g => (∃ v, r = some (zi v) ∧ zB v (-140) 24) ∧ zInv g ∧ zFr [(25, some 0), (25, some 4), (25, some 16), (25, some 17), (25, some 18), (25, some 20), (26, none), (28, none), (37, none), (38, none)] f g) := by
  refine ZM.intro (by decide +kernel) (Nat.le_of_ble_eq_true rfl) ?_
  intro X C hr hn
  have hF : zFr [(25, some 0), (25, some 4), (25, some 16), (25, some 17), (25, some 18), (25, some 20), (26, none), (28, none), (37, none), (38, none)] f f := zFr.rf _ _
  have ct25_0_0 : zB (f 25 0 0) 0 24 := hI 25 0 0
  have ct25_0_18 : zB (f 25 0 18) 0 12 := hI 25 0 18
  have J : ∀ t : Nat, (∀ a50_1 : Int32, zB a50_1 1 1 → ∀ g : zM, zInv g → zFr [(25, some 0), (25, some 4), (25, some 16), (25, some 17), (25, some 18), (25, some 20), (26, none), (28, none), (37, none), (38, none)] f g → zB (g 25 0 0) 0 24 → zB (g 25 0 18) 0 12 → (977 : Int) < t → Z X 50 [some (zr 25 0), some (zi a50_1), none, none] [] g) ∧ (∀ a55_1 : Int32, zB a55_1 1 1 → ∀ a55_2 : Int32, zB a55_2 0 12 → ∀ g : zM, zInv g → zFr [(25, some 0), (25, some 4), (25, some 16), (25, some 17), (25, some 18), (25, some 20), (26, none), (28, none), (37, none), (38, none)] f g → zB (g 25 0 0) 0 24 → zB (g 25 0 18) 0 12 → ((g 25 0 0).toInt + (g 25 0 18).toInt - a55_2.toInt ≤ 24) → (66 + 70 * (12 - a55_2.toInt) : Int) < t → Z X 55 [some (zr 25 0), some (zi a55_1), some (zi a55_2), none] [] g) ∧ (∀ a126_1 : Int32, zB a126_1 1 1 → ∀ a126_2 : Int32, zB a126_2 0 12 → ∀ g : zM, zInv g → zFr [(25, some 0), (25, some 4), (25, some 16), (25, some 17), (25, some 18), (25, some 20), (26, none), (28, none), (37, none), (38, none)] f g → zB (g 25 0 0) 0 24 → zB (g 25 0 18) 0 12 → (0 + 5 * (12 - a126_2.toInt) : Int) < t → Z X 126 [some (zr 25 0), some (zi a126_1), some (zi a126_2), none] [] g) := by
    intro t
    induction t with
    | zero =>
      refine ⟨?_, ?_, ?_⟩ <;> (intros; exfalso; omega)
    | succ t ih =>
      obtain ⟨ih0, ih1, ih2⟩ := ih
      refine ⟨?_, ?_, ?_⟩
      · skip
        intro a50_1 b50_1 g50_ hI50_ hF50_ f50_25_0_0 f50_25_0_18 hM50_
        refine z_bipush (pc := 50) (v := -3) C dX10_world_50 (by decide) ?_
        exact z_iret (pc := 52) C hr dX10_world_52 ⟨⟨_, rfl, (zB.wk (a' := (-140)) (b' := 24) (zB.of (x := (-3)) (-3) (by decide)) (by decide) (by decide))⟩, hI50_, hF50_⟩
      · skip
        intro a55_1 b55_1 a55_2 b55_2 g55_ hI55_ hF55_ f55_25_0_0 f55_25_0_18 hR55_0 hM55_
        refine z_iload_n (pc := 55) C dX10_world_55 rfl ?_
        refine z_aload_n (pc := 56) C dX10_world_56 rfl ?_
        refine z_getI (pc := 57) C zf_X10_221 rfl rfl (by decide) dX10_world_57 ?_
        refine w_gp (fun v => v.toInt = (g55_ 25 0 18).toInt) rfl (fun v1 e1 => ?_)
        have b1x : zB v1 0 12 := by have q9 : zB (g55_ 25 0 18) 0 12 := f55_25_0_18; constructor <;> omega
        refine z_icmp_ge (pc := 60) 124 C dX10_world_60 (by decide) (fun h60_1 => ?_) (fun h60_1 => ?_)
        · skip
          have rr3 : a55_2.toInt ≥ v1.toInt := by simp only [z32lt, z32le, z32eq] at h60_1; omega
          refine z_iconst (pc := 124) (v := 0) C dX10_world_124 (by decide) ?_
          refine z_istore_n (pc := 125) C dX10_world_125 (by rw [hn]; decide) rfl ?_
          exact ih2 a55_1 b55_1 0 (zB.wk (a' := 0) (b' := 12) (zB.of (x := 0) 0 (by decide)) (by decide) (by decide)) g55_ hI55_ hF55_ f55_25_0_0 f55_25_0_18 (by have qc0 : (0 : Int32).toInt = 0 := (by decide); omega)
        · skip
          have rr4 : a55_2.toInt < v1.toInt := by simp only [z32lt, z32le, z32eq] at h60_1; omega
          have b5x : zB a55_2 0 11 := by have q1 := b55_2; have q2 := b1x; simp only [z32lt, z32le, z32eq, Int32.reduceToInt, Int32.toInt_zero] at h60_1; constructor <;> omega
          have b6x : zB v1 1 12 := by have q1 := b55_2; have q2 := b1x; simp only [z32lt, z32le, z32eq, Int32.reduceToInt, Int32.toInt_zero] at h60_1; constructor <;> omega
          have c7x : zB (g55_ 25 0 18) 1 12 := by constructor <;> omega
          refine z_bipush (pc := 63) (v := 6) C dX10_world_63 (by decide) ?_
          refine z_iload_n (pc := 65) C dX10_world_65 rfl ?_
          refine z_imul (pc := 66) C dX10_world_66 ?_
          refine w_gp (fun v => v.toInt = 6 * a55_2.toInt) (zmul_kb 6 (by decide) (by decide) b5x (by decide) (by decide)) (fun v8 e8 => ?_)
          have b8x : zB v8 0 66 := zmul_bb e8 (by decide) b5x
          refine z_istore_n (pc := 67) C dX10_world_67 (by rw [hn]; decide) rfl ?_
          have c9x : zB (g55_ 25 0 0) 0 23 := by constructor <;> omega
          refine z_aload_n (pc := 68) C dX10_world_68 rfl ?_
          refine z_aload_n (pc := 69) C dX10_world_69 rfl ?_
          refine z_getR (pc := 70) C zf_X10_43 rfl rfl (by decide) dX10_world_70 ?_
          refine z_iload_n (pc := 73) C dX10_world_73 rfl ?_
          refine z_iald (pc := 74) C rfl (by decide) (zIx b8x (by decide) (by decide)) dX10_world_74 ?_
          refine w_gb 0 5 (by have hq9 := hI55_ 37 0 v8.toNatClampNeg; rw [zrg37 (r := 0) (by have hq : v8.toNatClampNeg = v8.toInt.toNat := rfl; have hq2 := b8x; omega)] at hq9; exact hq9) (fun v10 b10x => ?_)
          refine z_aload_n (pc := 75) C dX10_world_75 rfl ?_
          refine z_getR (pc := 76) C zf_X10_43 rfl rfl (by decide) dX10_world_76 ?_
          refine z_iload_n (pc := 79) C dX10_world_79 rfl ?_
          refine z_iconst (pc := 80) (v := 1) C dX10_world_80 (by decide) ?_
          refine z_iadd (pc := 81) C dX10_world_81 ?_
          refine w_gp (fun v => v.toInt = v8.toInt + 1) (zadd_eb b8x (zB.of (x := 1) 1 (by decide)) (by decide) (by decide)) (fun v11 e11 => ?_)
          have b11x : zB v11 1 67 := by have q1 := b8x; have q2 := (zB.of (x := 1) 1 (by decide)); constructor <;> omega
          refine z_iald (pc := 82) C rfl (by decide) (zIx b11x (by decide) (by decide)) dX10_world_82 ?_
          refine w_gb 0 63 (by have hq9 := hI55_ 37 0 v11.toNatClampNeg; rw [zrg37 (r := 1) (by have hq : v11.toNatClampNeg = v11.toInt.toNat := rfl; have hq2 := b11x; omega)] at hq9; exact hq9) (fun v12 b12x => ?_)
          refine z_aload_n (pc := 83) C dX10_world_83 rfl ?_
          refine z_getR (pc := 84) C zf_X10_43 rfl rfl (by decide) dX10_world_84 ?_
          refine z_iload_n (pc := 87) C dX10_world_87 rfl ?_
          refine z_iconst (pc := 88) (v := 2) C dX10_world_88 (by decide) ?_
          refine z_iadd (pc := 89) C dX10_world_89 ?_
          refine w_gp (fun v => v.toInt = v8.toInt + 2) (zadd_eb b8x (zB.of (x := 2) 2 (by decide)) (by decide) (by decide)) (fun v13 e13 => ?_)
          have b13x : zB v13 2 68 := by have q1 := b8x; have q2 := (zB.of (x := 2) 2 (by decide)); constructor <;> omega
          refine z_iald (pc := 90) C rfl (by decide) (zIx b13x (by decide) (by decide)) dX10_world_90 ?_
          refine w_gb 0 63 (by have hq9 := hI55_ 37 0 v13.toNatClampNeg; rw [zrg37 (r := 2) (by have hq : v13.toNatClampNeg = v13.toInt.toNat := rfl; have hq2 := b13x; omega)] at hq9; exact hq9) (fun v14 b14x => ?_)
          refine z_aload_n (pc := 91) C dX10_world_91 rfl ?_
          refine z_getR (pc := 92) C zf_X10_43 rfl rfl (by decide) dX10_world_92 ?_
          refine z_iload_n (pc := 95) C dX10_world_95 rfl ?_
          refine z_iconst (pc := 96) (v := 3) C dX10_world_96 (by decide) ?_
          refine z_iadd (pc := 97) C dX10_world_97 ?_
          refine w_gp (fun v => v.toInt = v8.toInt + 3) (zadd_eb b8x (zB.of (x := 3) 3 (by decide)) (by decide) (by decide)) (fun v15 e15 => ?_)
          have b15x : zB v15 3 69 := by have q1 := b8x; have q2 := (zB.of (x := 3) 3 (by decide)); constructor <;> omega
          refine z_iald (pc := 98) C rfl (by decide) (zIx b15x (by decide) (by decide)) dX10_world_98 ?_
          refine w_gb 0 40 (by have hq9 := hI55_ 37 0 v15.toNatClampNeg; rw [zrg37 (r := 3) (by have hq : v15.toNatClampNeg = v15.toInt.toNat := rfl; have hq2 := b15x; omega)] at hq9; exact hq9) (fun v16 b16x => ?_)
          refine z_aload_n (pc := 99) C dX10_world_99 rfl ?_
          refine z_getR (pc := 100) C zf_X10_43 rfl rfl (by decide) dX10_world_100 ?_
          refine z_iload_n (pc := 103) C dX10_world_103 rfl ?_
          refine z_iconst (pc := 104) (v := 4) C dX10_world_104 (by decide) ?_
          refine z_iadd (pc := 105) C dX10_world_105 ?_
          refine w_gp (fun v => v.toInt = v8.toInt + 4) (zadd_eb b8x (zB.of (x := 4) 4 (by decide)) (by decide) (by decide)) (fun v17 e17 => ?_)
          have b17x : zB v17 4 70 := by have q1 := b8x; have q2 := (zB.of (x := 4) 4 (by decide)); constructor <;> omega
          refine z_iald (pc := 106) C rfl (by decide) (zIx b17x (by decide) (by decide)) dX10_world_106 ?_
          refine w_gb 0 40 (by have hq9 := hI55_ 37 0 v17.toNatClampNeg; rw [zrg37 (r := 4) (by have hq : v17.toNatClampNeg = v17.toInt.toNat := rfl; have hq2 := b17x; omega)] at hq9; exact hq9) (fun v18 b18x => ?_)
          refine z_aload_n (pc := 107) C dX10_world_107 rfl ?_
          refine z_getR (pc := 108) C zf_X10_43 rfl rfl (by decide) dX10_world_108 ?_
          refine z_iload_n (pc := 111) C dX10_world_111 rfl ?_
          refine z_iconst (pc := 112) (v := 5) C dX10_world_112 (by decide) ?_
          refine z_iadd (pc := 113) C dX10_world_113 ?_
          refine w_gp (fun v => v.toInt = v8.toInt + 5) (zadd_eb b8x (zB.of (x := 5) 5 (by decide)) (by decide) (by decide)) (fun v19 e19 => ?_)
          have b19x : zB v19 5 71 := by have q1 := b8x; have q2 := (zB.of (x := 5) 5 (by decide)); constructor <;> omega
          refine z_iald (pc := 114) C rfl (by decide) (zIx b19x (by decide) (by decide)) dX10_world_114 ?_
          refine w_gb 0 1 (by have hq9 := hI55_ 37 0 v19.toNatClampNeg; rw [zrg37 (r := 5) (by have hq : v19.toNatClampNeg = v19.toInt.toNat := rfl; have hq2 := b19x; omega)] at hq9; exact hq9) (fun v20 b20x => ?_)
          refine z_callV (pc := 115) C zk_X10_91 (w_X10_addCrime _ _ v10 b10x v12 b12x v14 b14x v16 b16x v18 b18x v20 b20x c9x hI55_) rfl rfl (by decide) rfl rfl (Nat.le_of_ble_eq_true rfl) dX10_world_115 (fun r21 g21 q21 => ?_)
          obtain ⟨rfl, hI21, hF21q, hp21_0⟩ := q21
          have hF21 := zFr.tr hF55_ hF21q (by decide)
          simp only [Option.toList, List.cons_append, List.nil_append]
          have cr21_25_0_0 : zB (g21 25 0 0) 0 24 := hI21 25 0 0
          have ek21_25_0_18 : (g21 25 0 18).toInt = (g55_ 25 0 18).toInt := by rw [hF21q 25 0 18 rfl]
          have c21_25_0_18x : zB (g21 25 0 18) 1 12 := by have q9 := c7x; constructor <;> omega
          refine z_iinc (pc := 118) (v := 1) C dX10_world_118 rfl (by decide) (by rw [hn]; decide) rfl ?_
          obtain ⟨v22, hv22, e22⟩ : ∃ v : Int32, v = a55_2 + 1 ∧ v.toInt = a55_2.toInt + 1 := ⟨_, rfl, zadd_eb b5x (zB.of (x := 1) 1 (by decide)) (by decide) (by decide)⟩
          rw [← hv22]
          have b22x : zB v22 1 12 := by have q9 := b5x; constructor <;> omega
          refine z_goto (pc := 121) 55 C dX10_world_121 (by decide) ?_
          refine w_mask [3] ?_
          exact ih1 a55_1 b55_1 v22 (zB.wk (a' := 0) (b' := 12) b22x (by decide) (by decide)) g21 hI21 hF21 cr21_25_0_0 (zB.wk c21_25_0_18x (by decide) (by decide)) (by omega) (by omega)
      · skip
        intro a126_1 b126_1 a126_2 b126_2 g126_ hI126_ hF126_ f126_25_0_0 f126_25_0_18 hM126_
        refine z_iload_n (pc := 126) C dX10_world_126 rfl ?_
        refine z_aload_n (pc := 127) C dX10_world_127 rfl ?_
        refine z_getI (pc := 128) C zf_X10_233 rfl rfl (by decide) dX10_world_128 ?_
        refine w_gb 0 12 (hI126_ 25 _ 20) (fun v23 b23x => ?_)
        refine z_icmp_ge (pc := 131) 207 C dX10_world_131 (by decide) (fun h131_23 => ?_) (fun h131_23 => ?_)
        · skip
          have rr25 : a126_2.toInt ≥ v23.toInt := by simp only [z32lt, z32le, z32eq] at h131_23; omega
          refine z_aload_n (pc := 207) C dX10_world_207 rfl ?_
          refine z_getI (pc := 208) C zf_X10_221 rfl rfl (by decide) dX10_world_208 ?_
          refine w_gp (fun v => v.toInt = (g126_ 25 0 18).toInt) rfl (fun v26 e26 => ?_)
          have b26x : zB v26 0 12 := by have q9 : zB (g126_ 25 0 18) 0 12 := f126_25_0_18; constructor <;> omega
          refine z_aload_n (pc := 211) C dX10_world_211 rfl ?_
          refine z_getI (pc := 212) C zf_X10_233 rfl rfl (by decide) dX10_world_212 ?_
          refine w_gb 0 12 (hI126_ 25 _ 20) (fun v27 b27x => ?_)
          refine z_iadd (pc := 215) C dX10_world_215 ?_
          refine w_gp (fun v => v.toInt = v26.toInt + v27.toInt) (zadd_eb b26x b27x (by decide) (by decide)) (fun v28 e28 => ?_)
          have b28x : zB v28 0 24 := by have q1 := b26x; have q2 := b27x; constructor <;> omega
          exact z_iret (pc := 216) C hr dX10_world_216 ⟨⟨_, rfl, (zB.wk (a' := (-140)) (b' := 24) b28x (by decide) (by decide))⟩, hI126_, hF126_⟩
        · skip
          have rr29 : a126_2.toInt < v23.toInt := by simp only [z32lt, z32le, z32eq] at h131_23; omega
          have b30x : zB a126_2 0 11 := by have q1 := b126_2; have q2 := b23x; simp only [z32lt, z32le, z32eq, Int32.reduceToInt, Int32.toInt_zero] at h131_23; constructor <;> omega
          have b31x : zB v23 1 12 := by have q1 := b126_2; have q2 := b23x; simp only [z32lt, z32le, z32eq, Int32.reduceToInt, Int32.toInt_zero] at h131_23; constructor <;> omega
          refine z_bipush (pc := 134) (v := 8) C dX10_world_134 (by decide) ?_
          refine z_iload_n (pc := 136) C dX10_world_136 rfl ?_
          refine z_imul (pc := 137) C dX10_world_137 ?_
          refine w_gp (fun v => v.toInt = 8 * a126_2.toInt) (zmul_kb 8 (by decide) (by decide) b30x (by decide) (by decide)) (fun v32 e32 => ?_)
          have b32x : zB v32 0 88 := zmul_bb e32 (by decide) b30x
          refine z_istore_n (pc := 138) C dX10_world_138 (by rw [hn]; decide) rfl ?_
          refine z_aload_n (pc := 139) C dX10_world_139 rfl ?_
          refine z_aload_n (pc := 140) C dX10_world_140 rfl ?_
          refine z_getR (pc := 141) C zf_X10_46 rfl rfl (by decide) dX10_world_141 ?_
          refine z_iload_n (pc := 144) C dX10_world_144 rfl ?_
          refine z_iald (pc := 145) C rfl (by decide) (zIx b32x (by decide) (by decide)) dX10_world_145 ?_
          refine w_gb 0 2 (by have hq9 := hI126_ 38 0 v32.toNatClampNeg; rw [zrg38 (r := 0) (by have hq : v32.toNatClampNeg = v32.toInt.toNat := rfl; have hq2 := b32x; omega)] at hq9; exact hq9) (fun v33 b33x => ?_)
          refine z_aload_n (pc := 146) C dX10_world_146 rfl ?_
          refine z_getR (pc := 147) C zf_X10_46 rfl rfl (by decide) dX10_world_147 ?_
          refine z_iload_n (pc := 150) C dX10_world_150 rfl ?_
          refine z_iconst (pc := 151) (v := 1) C dX10_world_151 (by decide) ?_
          refine z_iadd (pc := 152) C dX10_world_152 ?_
          refine w_gp (fun v => v.toInt = v32.toInt + 1) (zadd_eb b32x (zB.of (x := 1) 1 (by decide)) (by decide) (by decide)) (fun v34 e34 => ?_)
          have b34x : zB v34 1 89 := by have q1 := b32x; have q2 := (zB.of (x := 1) 1 (by decide)); constructor <;> omega
          refine z_iald (pc := 153) C rfl (by decide) (zIx b34x (by decide) (by decide)) dX10_world_153 ?_
          refine w_gb 0 5 (by have hq9 := hI126_ 38 0 v34.toNatClampNeg; rw [zrg38 (r := 1) (by have hq : v34.toNatClampNeg = v34.toInt.toNat := rfl; have hq2 := b34x; omega)] at hq9; exact hq9) (fun v35 b35x => ?_)
          refine z_aload_n (pc := 154) C dX10_world_154 rfl ?_
          refine z_getR (pc := 155) C zf_X10_46 rfl rfl (by decide) dX10_world_155 ?_
          refine z_iload_n (pc := 158) C dX10_world_158 rfl ?_
          refine z_iconst (pc := 159) (v := 2) C dX10_world_159 (by decide) ?_
          refine z_iadd (pc := 160) C dX10_world_160 ?_
          refine w_gp (fun v => v.toInt = v32.toInt + 2) (zadd_eb b32x (zB.of (x := 2) 2 (by decide)) (by decide) (by decide)) (fun v36 e36 => ?_)
          have b36x : zB v36 2 90 := by have q1 := b32x; have q2 := (zB.of (x := 2) 2 (by decide)); constructor <;> omega
          refine z_iald (pc := 161) C rfl (by decide) (zIx b36x (by decide) (by decide)) dX10_world_161 ?_
          refine w_gb 0 5 (by have hq9 := hI126_ 38 0 v36.toNatClampNeg; rw [zrg38 (r := 2) (by have hq : v36.toNatClampNeg = v36.toInt.toNat := rfl; have hq2 := b36x; omega)] at hq9; exact hq9) (fun v37 b37x => ?_)
          refine z_aload_n (pc := 162) C dX10_world_162 rfl ?_
          refine z_getR (pc := 163) C zf_X10_46 rfl rfl (by decide) dX10_world_163 ?_
          refine z_iload_n (pc := 166) C dX10_world_166 rfl ?_
          refine z_iconst (pc := 167) (v := 3) C dX10_world_167 (by decide) ?_
          refine z_iadd (pc := 168) C dX10_world_168 ?_
          refine w_gp (fun v => v.toInt = v32.toInt + 3) (zadd_eb b32x (zB.of (x := 3) 3 (by decide)) (by decide) (by decide)) (fun v38 e38 => ?_)
          have b38x : zB v38 3 91 := by have q1 := b32x; have q2 := (zB.of (x := 3) 3 (by decide)); constructor <;> omega
          refine z_iald (pc := 169) C rfl (by decide) (zIx b38x (by decide) (by decide)) dX10_world_169 ?_
          refine w_gb 0 40 (by have hq9 := hI126_ 38 0 v38.toNatClampNeg; rw [zrg38 (r := 3) (by have hq : v38.toNatClampNeg = v38.toInt.toNat := rfl; have hq2 := b38x; omega)] at hq9; exact hq9) (fun v39 b39x => ?_)
          refine z_iconst (pc := 170) (v := 0) C dX10_world_170 (by decide) ?_
          refine z_aload_n (pc := 171) C dX10_world_171 rfl ?_
          refine z_getR (pc := 172) C zf_X10_46 rfl rfl (by decide) dX10_world_172 ?_
          refine z_iload_n (pc := 175) C dX10_world_175 rfl ?_
          refine z_iconst (pc := 176) (v := 5) C dX10_world_176 (by decide) ?_
          refine z_iadd (pc := 177) C dX10_world_177 ?_
          refine w_gp (fun v => v.toInt = v32.toInt + 5) (zadd_eb b32x (zB.of (x := 5) 5 (by decide)) (by decide) (by decide)) (fun v40 e40 => ?_)
          have b40x : zB v40 5 93 := by have q1 := b32x; have q2 := (zB.of (x := 5) 5 (by decide)); constructor <;> omega
          refine z_iald (pc := 178) C rfl (by decide) (zIx b40x (by decide) (by decide)) dX10_world_178 ?_
          refine w_gb 0 31 (by have hq9 := hI126_ 38 0 v40.toNatClampNeg; rw [zrg38 (r := 5) (by have hq : v40.toNatClampNeg = v40.toInt.toNat := rfl; have hq2 := b40x; omega)] at hq9; exact hq9) (fun v41 b41x => ?_)
          refine z_aload_n (pc := 179) C dX10_world_179 rfl ?_
          refine z_getR (pc := 180) C zf_X10_46 rfl rfl (by decide) dX10_world_180 ?_
          refine z_iload_n (pc := 183) C dX10_world_183 rfl ?_
          refine z_bipush (pc := 184) (v := 6) C dX10_world_184 (by decide) ?_
          refine z_iadd (pc := 186) C dX10_world_186 ?_
          refine w_gp (fun v => v.toInt = v32.toInt + 6) (zadd_eb b32x (zB.of (x := 6) 6 (by decide)) (by decide) (by decide)) (fun v42 e42 => ?_)
          have b42x : zB v42 6 94 := by have q1 := b32x; have q2 := (zB.of (x := 6) 6 (by decide)); constructor <;> omega
          refine z_iald (pc := 187) C rfl (by decide) (zIx b42x (by decide) (by decide)) dX10_world_187 ?_
          refine w_gb 0 99 (by have hq9 := hI126_ 38 0 v42.toNatClampNeg; rw [zrg38 (r := 6) (by have hq : v42.toNatClampNeg = v42.toInt.toNat := rfl; have hq2 := b42x; omega)] at hq9; exact hq9) (fun v43 b43x => ?_)
          refine z_aload_n (pc := 188) C dX10_world_188 rfl ?_
          refine z_getR (pc := 189) C zf_X10_46 rfl rfl (by decide) dX10_world_189 ?_
          refine z_iload_n (pc := 192) C dX10_world_192 rfl ?_
          refine z_bipush (pc := 193) (v := 7) C dX10_world_193 (by decide) ?_
          refine z_iadd (pc := 195) C dX10_world_195 ?_
          refine w_gp (fun v => v.toInt = v32.toInt + 7) (zadd_eb b32x (zB.of (x := 7) 7 (by decide)) (by decide) (by decide)) (fun v44 e44 => ?_)
          have b44x : zB v44 7 95 := by have q1 := b32x; have q2 := (zB.of (x := 7) 7 (by decide)); constructor <;> omega
          refine z_iald (pc := 196) C rfl (by decide) (zIx b44x (by decide) (by decide)) dX10_world_196 ?_
          refine w_gb 0 7 (by have hq9 := hI126_ 38 0 v44.toNatClampNeg; rw [zrg38 (r := 7) (by have hq : v44.toNatClampNeg = v44.toInt.toNat := rfl; have hq2 := b44x; omega)] at hq9; exact hq9) (fun v45 b45x => ?_)
          refine z_callV (pc := 197) C zk_X10_105 (w_X10_addPaper _ _ v33 b33x v35 b35x v37 b37x v39 b39x 0 (zB.wk (a' := (-2147483648)) (b' := 2147483647) (zB.of (x := 0) 0 (by decide)) (by decide) (by decide)) v41 b41x v43 b43x v45 b45x hI126_) rfl rfl (by decide) rfl rfl (Nat.le_of_ble_eq_true rfl) dX10_world_197 (fun r46 g46 q46 => ?_)
          obtain ⟨⟨v46, rfl, b46x⟩, hI46, hF46q⟩ := q46
          have hF46 := zFr.tr hF126_ hF46q (by decide)
          simp only [Option.toList, List.cons_append, List.nil_append]
          have ek46_25_0_0 : (g46 25 0 0).toInt = (g126_ 25 0 0).toInt := by rw [hF46q 25 0 0 rfl]
          have c46_25_0_0x : zB (g46 25 0 0) 0 24 := by have q9 := f126_25_0_0; constructor <;> omega
          have ek46_25_0_18 : (g46 25 0 18).toInt = (g126_ 25 0 18).toInt := by rw [hF46q 25 0 18 rfl]
          have c46_25_0_18x : zB (g46 25 0 18) 0 12 := by have q9 := f126_25_0_18; constructor <;> omega
          refine z_pop (pc := 200) C dX10_world_200 ?_
          refine z_iinc (pc := 201) (v := 1) C dX10_world_201 rfl (by decide) (by rw [hn]; decide) rfl ?_
          obtain ⟨v47, hv47, e47⟩ : ∃ v : Int32, v = a126_2 + 1 ∧ v.toInt = a126_2.toInt + 1 := ⟨_, rfl, zadd_eb b30x (zB.of (x := 1) 1 (by decide)) (by decide) (by decide)⟩
          rw [← hv47]
          have b47x : zB v47 1 12 := by have q9 := b30x; constructor <;> omega
          refine z_goto (pc := 204) 126 C dX10_world_204 (by decide) ?_
          refine w_mask [3] ?_
          exact ih2 a126_1 b126_1 v47 (zB.wk (a' := 0) (b' := 12) b47x (by decide) (by decide)) g46 hI46 hF46 c46_25_0_0x c46_25_0_18x (by omega)
  obtain ⟨J0, J1, J2⟩ := J 989
  show Z X 0 [some (zr 25 0), none, none, none] [] f
  refine z_aload_n (pc := 0) C dX10_world_0 rfl ?_
  refine z_callV (pc := 1) C zk_X10_248 (w_X10_readWorld _ _  hI) rfl rfl (by decide) rfl rfl (Nat.le_of_ble_eq_true rfl) dX10_world_1 (fun r48 g48 q48 => ?_)
  obtain ⟨⟨v48, rfl, b48x⟩, hI48, hF48q⟩ := q48
  have hF48 := zFr.tr hF hF48q (by decide)
  simp only [Option.toList, List.cons_append, List.nil_append]
  have ek48_25_0_0 : (g48 25 0 0).toInt = (f 25 0 0).toInt := by rw [hF48q 25 0 0 rfl]
  have c48_25_0_0x : zB (g48 25 0 0) 0 24 := by have q9 := ct25_0_0; constructor <;> omega
  have cr48_25_0_18 : zB (g48 25 0 18) 0 12 := hI48 25 0 18
  refine z_istore_n (pc := 4) C dX10_world_4 (by rw [hn]; decide) rfl ?_
  refine z_aload_n (pc := 5) C dX10_world_5 rfl ?_
  refine z_iconst (pc := 6) (v := 0) C dX10_world_6 (by decide) ?_
  refine z_putI (pc := 7) C zf_X10_208 zp_10_16 rfl rfl (by decide) dX10_world_7 ?_
  refine w_mem2 hI48 hF48 (zB.wk (a' := 0) (b' := 120) (zB.of (x := 0) 0 (by decide)) (by decide) (by decide)) rfl (fun g49 hI49 hF49 hq49 hx49 => ?_)
  have ek49_25_0_0 : (g49 25 0 0).toInt = (g48 25 0 0).toInt := by rw [hq49 25 0 0 (by omega)]
  have c49_25_0_0x : zB (g49 25 0 0) 0 24 := by have q9 := c48_25_0_0x; constructor <;> omega
  have ek49_25_0_18 : (g49 25 0 18).toInt = (g48 25 0 18).toInt := by rw [hq49 25 0 18 (by omega)]
  have c49_25_0_18x : zB (g49 25 0 18) 0 12 := by have q9 := cr48_25_0_18; constructor <;> omega
  refine z_iload_n (pc := 10) C dX10_world_10 rfl ?_
  refine z_if_ne (pc := 11) 22 C dX10_world_11 (by decide) (fun h11_49 => ?_) (fun h11_49 => ?_)
  · skip
    have b51x : zB v48 1 1 := by have q1 := b48x; have q2 := (zB.of (x := 0) 0 (by decide)); simp only [z32lt, z32le, z32eq, Int32.reduceToInt, Int32.toInt_zero] at h11_49; constructor <;> omega
    refine z_aload_n (pc := 22) C dX10_world_22 rfl ?_
    refine z_getI (pc := 23) C zf_X10_80 rfl rfl (by decide) dX10_world_23 ?_
    refine w_gp (fun v => v.toInt = (g49 25 0 0).toInt) rfl (fun v52 e52 => ?_)
    have b52x : zB v52 0 24 := by have q9 : zB (g49 25 0 0) 0 24 := c49_25_0_0x; constructor <;> omega
    refine z_aload_n (pc := 26) C dX10_world_26 rfl ?_
    refine z_getI (pc := 27) C zf_X10_221 rfl rfl (by decide) dX10_world_27 ?_
    refine w_gp (fun v => v.toInt = (g49 25 0 18).toInt) rfl (fun v53 e53 => ?_)
    have b53x : zB v53 0 12 := by have q9 : zB (g49 25 0 18) 0 12 := c49_25_0_18x; constructor <;> omega
    refine z_iadd (pc := 30) C dX10_world_30 ?_
    refine w_gp (fun v => v.toInt = v52.toInt + v53.toInt) (zadd_eb b52x b53x (by decide) (by decide)) (fun v54 e54 => ?_)
    have b54x : zB v54 0 36 := by have q1 := b52x; have q2 := b53x; constructor <;> omega
    refine z_bipush (pc := 31) (v := 24) C dX10_world_31 (by decide) ?_
    refine z_icmp_gt (pc := 33) 50 C dX10_world_33 (by decide) (fun h33_54 => ?_) (fun h33_54 => ?_)
    · skip
      have b56x : zB v54 25 36 := by have q1 := b54x; have q2 := (zB.of (x := 24) 24 (by decide)); simp only [z32lt, z32le, z32eq, Int32.reduceToInt, Int32.toInt_zero] at h33_54; constructor <;> omega
      exact J0 v48 b51x g49 hI49 hF49 c49_25_0_0x c49_25_0_18x (by omega)
    · skip
      have b57x : zB v54 0 24 := by have q1 := b54x; have q2 := (zB.of (x := 24) 24 (by decide)); simp only [z32lt, z32le, z32eq, Int32.reduceToInt, Int32.toInt_zero] at h33_54; constructor <;> omega
      refine z_aload_n (pc := 36) C dX10_world_36 rfl ?_
      refine z_getI (pc := 37) C zf_X10_77 rfl rfl (by decide) dX10_world_37 ?_
      refine w_gb 0 12 (hI49 25 _ 4) (fun v58 b58x => ?_)
      refine z_aload_n (pc := 40) C dX10_world_40 rfl ?_
      refine z_getI (pc := 41) C zf_X10_233 rfl rfl (by decide) dX10_world_41 ?_
      refine w_gb 0 12 (hI49 25 _ 20) (fun v59 b59x => ?_)
      refine z_iadd (pc := 44) C dX10_world_44 ?_
      refine w_gp (fun v => v.toInt = v58.toInt + v59.toInt) (zadd_eb b58x b59x (by decide) (by decide)) (fun v60 e60 => ?_)
      have b60x : zB v60 0 24 := by have q1 := b58x; have q2 := b59x; constructor <;> omega
      refine z_bipush (pc := 45) (v := 12) C dX10_world_45 (by decide) ?_
      refine z_icmp_le (pc := 47) 53 C dX10_world_47 (by decide) (fun h47_60 => ?_) (fun h47_60 => ?_)
      · skip
        have b62x : zB v60 0 12 := by have q1 := b60x; have q2 := (zB.of (x := 12) 12 (by decide)); simp only [z32lt, z32le, z32eq, Int32.reduceToInt, Int32.toInt_zero] at h47_60; constructor <;> omega
        refine z_iconst (pc := 53) (v := 0) C dX10_world_53 (by decide) ?_
        refine z_istore_n (pc := 54) C dX10_world_54 (by rw [hn]; decide) rfl ?_
        exact J1 v48 b51x 0 (zB.wk (a' := 0) (b' := 12) (zB.of (x := 0) 0 (by decide)) (by decide) (by decide)) g49 hI49 hF49 c49_25_0_0x c49_25_0_18x (by have qc0 : (0 : Int32).toInt = 0 := (by decide); omega) (by have qc0 : (0 : Int32).toInt = 0 := (by decide); omega)
      · skip
        have b63x : zB v60 13 24 := by have q1 := b60x; have q2 := (zB.of (x := 12) 12 (by decide)); simp only [z32lt, z32le, z32eq, Int32.reduceToInt, Int32.toInt_zero] at h47_60; constructor <;> omega
        exact J0 v48 b51x g49 hI49 hF49 c49_25_0_0x c49_25_0_18x (by omega)
  · skip
    have b64x : zB v48 0 0 := by have q1 := b48x; have q2 := (zB.of (x := 0) 0 (by decide)); simp only [z32lt, z32le, z32eq, Int32.reduceToInt, Int32.toInt_zero] at h11_49; constructor <;> omega
    refine z_bipush (pc := 14) (v := -20) C dX10_world_14 (by decide) ?_
    refine z_aload_n (pc := 16) C dX10_world_16 rfl ?_
    refine z_getI (pc := 17) C zf_X10_211 rfl rfl (by decide) dX10_world_17 ?_
    refine w_gb 0 120 (hI49 25 _ 17) (fun v65 b65x => ?_)
    refine z_isub (pc := 20) C dX10_world_20 ?_
    refine w_gp (fun v => v.toInt = (-20) - v65.toInt) (zsub_eb (zB.of (x := (-20)) (-20) (by decide)) b65x (by decide) (by decide)) (fun v66 e66 => ?_)
    have b66x : zB v66 (-140) (-20) := by have q1 := (zB.of (x := (-20)) (-20) (by decide)); have q2 := b65x; constructor <;> omega
    exact z_iret (pc := 21) C hr dX10_world_21 ⟨⟨_, rfl, (zB.wk (a' := (-140)) (b' := 24) b66x (by decide) (by decide))⟩, hI49, hF49⟩
