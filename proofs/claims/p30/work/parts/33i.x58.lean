set_option maxRecDepth 100000 in
set_option maxHeartbeats 4000000 in
theorem e_X10_readNumber (d : Nat) (f : zM) (a1 : Int32) (b1 : zB a1 0 40) (a2 : Int32) (b2 : zB a2 0 99) (T : Nat → Int32) (n p : Nat) (hN : n ≤ 120) (h18 : f 25 0 16 = nI n) (hTp : ∀ i, i < n → f 36 0 i = T i) (hp : f 25 0 17 = nI p) (hb : p ≤ n) (hI : zInv f) : ZM (d + 1) yX10_readNumber cX10_readNumber 5 (some .int) [zr 25 0, zi a1, zi a2] f (fun r g => (∃ v, r = some (zi v) ∧ zB v (-1) 99) ∧ zInv g ∧ zFr [(25, some 17)] f g ∧ (∀ v : Int32, r = some (zi v) → (∃ e, znu T n a1.toInt a2.toInt p = .inl e ∧ e ≤ n ∧ g 25 0 17 = nI e ∧ v = -1) ∨ (∃ q, znu T n a1.toInt a2.toInt p = .inr (v, q) ∧ g 25 0 17 = nI q ∧ q ≤ n ∧ a1.toInt ≤ v.toInt ∧ v.toInt ≤ a2.toInt))) := by
  refine ZM.intro (by decide +kernel) (Nat.le_of_ble_eq_true rfl) ?_
  intro X C hr hn
  have hF : zFr [(25, some 17)] f f := zFr.rf _ _
  have ct25_0_17 : zB (f 25 0 17) 0 120 := hI 25 0 17
  have ct25_0_16 : zB (f 25 0 16) 0 120 := hI 25 0 16
  have J : ∀ t : Nat, (∀ a13_3 : Int32, zB a13_3 0 120 → ∀ a13_4 : Int32, zB a13_4 0 9999 → ∀ g : zM, zInv g → zFr [(25, some 17)] f g → zB (g 25 0 16) 0 120 → zB (g 25 0 17) 0 120 → (g 25 0 16 = nI n) → (∀ i, i < n → g 36 0 i = T i) → (zsp T n p ≤ (g 25 0 17).toInt.toNat ∧ (g 25 0 17).toInt.toNat ≤ n) → (zdk T n (n - zsp T n p) (zsp T n p) = zdk T n (n - (g 25 0 17).toInt.toNat) ((g 25 0 17).toInt.toNat)) → (∃ A : Int, zdv T n (n - zsp T n p) (zsp T n p) 0 = zdv T n (n - (g 25 0 17).toInt.toNat) ((g 25 0 17).toInt.toNat) A ∧ ((a13_4.toInt = A ∧ A ≤ 999) ∨ (1000 ≤ a13_4.toInt ∧ A = 1000))) → (a13_3 = nI (zsp T n p)) → (1 + 4 * (120 - (g 25 0 17).toInt) : Int) < t → Z X 13 [some (zr 25 0), some (zi a1), some (zi a2), some (zi a13_3), some (zi a13_4)] [] g) ∧ (∀ a92_3 : Int32, zB a92_3 0 120 → ∀ a92_4 : Int32, zB a92_4 0 9999 → ∀ g : zM, zInv g → zFr [(25, some 17)] f g → zB (g 25 0 16) 0 120 → zB (g 25 0 17) 0 120 → (zsp T n p ≤ (g 25 0 17).toInt.toNat ∧ (g 25 0 17).toInt.toNat ≤ n) → (zdk T n (n - zsp T n p) (zsp T n p) = (g 25 0 17).toInt.toNat) → (∃ A : Int, zdv T n (n - zsp T n p) (zsp T n p) 0 = A ∧ ((a92_4.toInt = A ∧ A ≤ 999) ∨ (1000 ≤ a92_4.toInt ∧ A = 1000))) → (a92_3 = nI (zsp T n p)) → (0 : Int) < t → Z X 92 [some (zr 25 0), some (zi a1), some (zi a2), some (zi a92_3), some (zi a92_4)] [] g) := by
    intro t
    induction t with
    | zero =>
      refine ⟨?_, ?_⟩ <;> (intros; exfalso; omega)
    | succ t ih =>
      obtain ⟨ih0, ih1⟩ := ih
      refine ⟨?_, ?_⟩
      · skip
        intro a13_3 b13_3 a13_4 b13_4 g13_ hI13_ hF13_ f13_25_0_16 f13_25_0_17 hR13_0 hR13_1 hR13_2 hR13_3 hR13_4 hR13_5 hM13_
        refine z_aload_n (pc := 13) C dX10_readNumber_13 rfl ?_
        refine z_getI (pc := 14) C zf_X10_211 rfl rfl (by decide) dX10_readNumber_14 ?_
        refine w_gp (fun v => v = g13_ 25 0 17) rfl (fun v1 q1 => ?_)
        have e1 : v1.toInt = (g13_ 25 0 17).toInt := by rw [q1]
        have b1x : zB v1 0 120 := by first | exact zB.eqv e1 f13_25_0_17 | (have q9 := f13_25_0_17; constructor <;> omega)
        refine z_aload_n (pc := 17) C dX10_readNumber_17 rfl ?_
        refine z_getI (pc := 18) C zf_X10_208 rfl rfl (by decide) dX10_readNumber_18 ?_
        refine w_gp (fun v => v = g13_ 25 0 16) rfl (fun v2 q2 => ?_)
        have e2 : v2.toInt = (g13_ 25 0 16).toInt := by rw [q2]
        have b2x : zB v2 0 120 := by first | exact zB.eqv e2 f13_25_0_16 | (have q9 := f13_25_0_16; constructor <;> omega)
        refine z_icmp_ge (pc := 21) 92 C dX10_readNumber_21 (by decide) (fun h21_2 => ?_) (fun h21_2 => ?_)
        · skip
          have rr4 : v1.toInt ≥ v2.toInt := by simp only [z32lt, z32le, z32eq] at h21_2; omega
          exact ih1 a13_3 b13_3 a13_4 b13_4 g13_ hI13_ hF13_ f13_25_0_16 f13_25_0_17 (by exact hR13_2) (by
                                                                                          have eL : (g13_ 25 0 16).toInt = (n : Int) := by rw [hR13_0]; exact nI_toInt (by omega)
                                                                                          have hnd : ¬ ((g13_ 25 0 17).toInt.toNat < n ∧ 48 ≤ (T ((g13_ 25 0 17).toInt.toNat)).toInt ∧ (T ((g13_ 25 0 17).toInt.toNat)).toInt ≤ 57) := by
                                                                                            omega
                                                                                          rw [hR13_3, zdk_stop hnd]) (by
                                                                                          have eL : (g13_ 25 0 16).toInt = (n : Int) := by rw [hR13_0]; exact nI_toInt (by omega)
                                                                                          have hnd : ¬ ((g13_ 25 0 17).toInt.toNat < n ∧ 48 ≤ (T ((g13_ 25 0 17).toInt.toNat)).toInt ∧ (T ((g13_ 25 0 17).toInt.toNat)).toInt ≤ 57) := by
                                                                                            omega
                                                                                          obtain ⟨A, hA1, hA2⟩ := hR13_4
                                                                                          exact ⟨A, by rw [hA1, zdv_stop hnd], hA2⟩) (by exact hR13_5) (by omega)
        · skip
          have rr5 : v1.toInt < v2.toInt := by simp only [z32lt, z32le, z32eq] at h21_2; omega
          have b6x : zB v1 0 119 := by have q1 := b1x; have q2 := b2x; simp only [z32lt, z32le, z32eq, Int32.reduceToInt, Int32.toInt_zero] at h21_2; constructor <;> omega
          have c7x : zB (g13_ 25 0 17) 0 119 := by first | assumption | (constructor <;> omega)
          have b8x : zB v2 1 120 := by have q1 := b1x; have q2 := b2x; simp only [z32lt, z32le, z32eq, Int32.reduceToInt, Int32.toInt_zero] at h21_2; constructor <;> omega
          have c9x : zB (g13_ 25 0 16) 1 120 := by first | assumption | (constructor <;> omega)
          refine z_aload_n (pc := 24) C dX10_readNumber_24 rfl ?_
          refine z_getR (pc := 25) C zf_X10_40 rfl rfl (by decide) dX10_readNumber_25 ?_
          refine z_aload_n (pc := 28) C dX10_readNumber_28 rfl ?_
          refine z_getI (pc := 29) C zf_X10_211 rfl rfl (by decide) dX10_readNumber_29 ?_
          refine w_gp (fun v => v = g13_ 25 0 17) rfl (fun v10 q10 => ?_)
          have e10 : v10.toInt = (g13_ 25 0 17).toInt := by rw [q10]
          have b10x : zB v10 0 119 := by first | exact zB.eqv e10 c7x | (have q9 := c7x; constructor <;> omega)
          refine z_iald (pc := 32) C rfl (by decide) (zIx b10x (by decide) (by decide)) dX10_readNumber_32 ?_
          have kq32_10 : v10.toNatClampNeg = v10.toInt.toNat := rfl
          refine w_gp (fun v => v = g13_ 36 0 v10.toNatClampNeg) rfl (fun v11 q11 => ?_)
          have b11x : zB v11 0 255 := by rw [q11]; exact (hI13_ 36 0 v10.toNatClampNeg)
          refine z_i2l (pc := 33) C dX10_readNumber_33 ?_
          refine z_ldc2 (pc := 34) C zw_1380 dX10_readNumber_34 ?_
          refine z_ldc2 (pc := 37) C zw_1381 dX10_readNumber_37 ?_
          refine z_callSb (pc := 40) C zk_X10_69 (m_X10_in _ _ _ _ _) rfl rfl (Nat.le_of_ble_eq_true rfl) dX10_readNumber_40 (fun h40_11 => ?_) (fun h40_11 => ?_)
          · skip
            have hc40_1 : (48 ≤ v11.toInt ∧ v11.toInt ≤ 57) := by have q9 := h40_11; simp only [z64] at q9; exact q9
            have b13x : zB v11 48 57 := zin64 h40_11 rfl rfl
            refine z_if_eq (pc := 43) 92 C dX10_readNumber_43 (by decide) (fun h => absurd h (by decide)) (fun _ => ?_)
            refine z_iload (pc := 46) C dX10_readNumber_46 rfl ?_
            refine z_sipush (pc := 48) (v := 999) C dX10_readNumber_48 (by decide) ?_
            refine z_icmp_le (pc := 51) 59 C dX10_readNumber_51 (by decide) (fun h51_13 => ?_) (fun h51_13 => ?_)
            · skip
              have b15x : zB a13_4 0 999 := by have q1 := b13_4; have q2 := (zB.of (x := 999) 999 (by decide)); simp only [z32lt, z32le, z32eq, Int32.reduceToInt, Int32.toInt_zero] at h51_13; constructor <;> omega
              refine z_bipush (pc := 59) (v := 10) C dX10_readNumber_59 (by decide) ?_
              refine z_iload (pc := 61) C dX10_readNumber_61 rfl ?_
              refine z_imul (pc := 63) C dX10_readNumber_63 ?_
              refine w_gp (fun v => v = (10 : Int32) * a13_4) rfl (fun v16 q16 => ?_)
              have e16 : v16.toInt = 10 * a13_4.toInt := by rw [q16]; exact (zmul_kb 10 (by decide) (by decide) b15x (by decide) (by decide))
              have b16x : zB v16 0 9990 := zmul_bb e16 (by decide) b15x
              refine z_aload_n (pc := 64) C dX10_readNumber_64 rfl ?_
              refine z_getR (pc := 65) C zf_X10_40 rfl rfl (by decide) dX10_readNumber_65 ?_
              refine z_aload_n (pc := 68) C dX10_readNumber_68 rfl ?_
              refine z_getI (pc := 69) C zf_X10_211 rfl rfl (by decide) dX10_readNumber_69 ?_
              refine w_gp (fun v => v = g13_ 25 0 17) rfl (fun v17 q17 => ?_)
              have e17 : v17.toInt = (g13_ 25 0 17).toInt := by rw [q17]
              have b17x : zB v17 0 119 := by first | exact zB.eqv e17 c7x | (have q9 := c7x; constructor <;> omega)
              refine z_iald (pc := 72) C rfl (by decide) (zIx b17x (by decide) (by decide)) dX10_readNumber_72 ?_
              have kq72_17 : v17.toNatClampNeg = v17.toInt.toNat := rfl
              refine w_gp (fun v => v = g13_ 36 0 v17.toNatClampNeg) rfl (fun v18 q18 => ?_)
              have b18x : zB v18 0 255 := by rw [q18]; exact (hI13_ 36 0 v17.toNatClampNeg)
              have i72 : v18 = v11 := by rw [q18, q11, show (v17).toNatClampNeg = (v10).toNatClampNeg from by omega]
              have b72y : zB v18 48 57 := by rw [i72]; constructor <;> omega
              refine z_iadd (pc := 73) C dX10_readNumber_73 ?_
              refine w_gp (fun v => v = v16 + v18) rfl (fun v19 q19 => ?_)
              have e19 : v19.toInt = v16.toInt + v18.toInt := by rw [q19]; exact (zadd_eb b16x b72y (by decide) (by decide))
              have b19x : zB v19 48 10047 := by have q1 := b16x; have q2 := b72y; constructor <;> omega
              refine z_bipush (pc := 74) (v := 48) C dX10_readNumber_74 (by decide) ?_
              refine z_isub (pc := 76) C dX10_readNumber_76 ?_
              refine w_gp (fun v => v = v19 - (48 : Int32)) rfl (fun v20 q20 => ?_)
              have e20 : v20.toInt = v19.toInt - 48 := by rw [q20]; exact (zsub_eb b19x (zB.of (x := 48) 48 (by decide)) (by decide) (by decide))
              have b20x : zB v20 0 9999 := by have q1 := b19x; have q2 := (zB.of (x := 48) 48 (by decide)); constructor <;> omega
              refine z_istore (pc := 77) C dX10_readNumber_77 (by rw [hn]; decide) rfl ?_
              refine z_aload_n (pc := 79) C dX10_readNumber_79 rfl ?_
              refine z_dupr (pc := 80) C dX10_readNumber_80 ?_
              refine z_getI (pc := 81) C zf_X10_211 rfl rfl (by decide) dX10_readNumber_81 ?_
              refine w_gp (fun v => v = g13_ 25 0 17) rfl (fun v21 q21 => ?_)
              have e21 : v21.toInt = (g13_ 25 0 17).toInt := by rw [q21]
              have b21x : zB v21 0 119 := by first | exact zB.eqv e21 c7x | (have q9 := c7x; constructor <;> omega)
              refine z_iconst (pc := 84) (v := 1) C dX10_readNumber_84 (by decide) ?_
              refine z_iadd (pc := 85) C dX10_readNumber_85 ?_
              refine w_gp (fun v => v = v21 + (1 : Int32)) rfl (fun v22 q22 => ?_)
              have e22 : v22.toInt = v21.toInt + 1 := by rw [q22]; exact (zadd_eb b21x (zB.of (x := 1) 1 (by decide)) (by decide) (by decide))
              have b22x : zB v22 1 120 := by have q1 := b21x; have q2 := (zB.of (x := 1) 1 (by decide)); constructor <;> omega
              refine z_putI (pc := 86) C zf_X10_211 zp_10_17 rfl rfl (by decide) dX10_readNumber_86 ?_
              refine w_memx hI13_ hF13_ (zB.wk (a' := 0) (b' := 120) b22x (by decide) (by decide)) rfl (fun g23 qm23 hI23 hF23 hq23 hx23 => ?_)
              have ec23 : (g23 25 0 17).toInt = v22.toInt := by rw [hx23]
              have c23x : zB (g23 25 0 17) 1 120 := by first | exact zB.eqv ec23 b22x | (have q9 := b22x; constructor <;> omega)
              have ek23_25_0_16 : (g23 25 0 16).toInt = (g13_ 25 0 16).toInt := by rw [hq23 25 0 16 (by omega)]
              have c23_25_0_16x : zB (g23 25 0 16) 1 120 := by first | exact zB.eqv ek23_25_0_16 c9x | (have q9 := c9x; constructor <;> omega)
              refine z_goto (pc := 89) 13 C dX10_readNumber_89 (by decide) ?_
              exact ih0 a13_3 b13_3 v20 b20x g23 hI23 hF23 (zB.wk c23_25_0_16x (by decide) (by decide)) (zB.wk c23x (by decide) (by decide)) (by subst qm23; exact (zup_ne _ _ (by omega)).trans hR13_0) (by intro i hi; subst qm23; exact (zup_ne _ _ (by omega)).trans (hR13_1 i hi)) (by
                                                                                          have eL : (g13_ 25 0 16).toInt = (n : Int) := by rw [hR13_0]; exact nI_toInt (by omega)
                                                                                          have hlt : (g13_ 25 0 17).toInt.toNat < n := by omega
                                                                                          have t1 : v11 = T ((g13_ 25 0 17).toInt.toNat) := by rw [q11, show (v10).toNatClampNeg = (g13_ 25 0 17).toInt.toNat from by omega]; exact hR13_1 _ hlt
                                                                                          have eP : (g23 25 0 17).toInt.toNat = (g13_ 25 0 17).toInt.toNat + 1 := by omega
                                                                                          have hd : (g13_ 25 0 17).toInt.toNat < n ∧ 48 ≤ (T ((g13_ 25 0 17).toInt.toNat)).toInt ∧ (T ((g13_ 25 0 17).toInt.toNat)).toInt ≤ 57 := ⟨hlt, by rw [← t1]; omega, by rw [← t1]; omega⟩
                                                                                          have h3 := hR13_2
                                                                                          omega) (by
                                                                                          have eL : (g13_ 25 0 16).toInt = (n : Int) := by rw [hR13_0]; exact nI_toInt (by omega)
                                                                                          have hlt : (g13_ 25 0 17).toInt.toNat < n := by omega
                                                                                          have t1 : v11 = T ((g13_ 25 0 17).toInt.toNat) := by rw [q11, show (v10).toNatClampNeg = (g13_ 25 0 17).toInt.toNat from by omega]; exact hR13_1 _ hlt
                                                                                          have eP : (g23 25 0 17).toInt.toNat = (g13_ 25 0 17).toInt.toNat + 1 := by omega
                                                                                          have hd : (g13_ 25 0 17).toInt.toNat < n ∧ 48 ≤ (T ((g13_ 25 0 17).toInt.toNat)).toInt ∧ (T ((g13_ 25 0 17).toInt.toNat)).toInt ≤ 57 := ⟨hlt, by rw [← t1]; omega, by rw [← t1]; omega⟩
                                                                                          rw [hR13_3, zdk_step hd, eP]) (by
                                                                                          have eL : (g13_ 25 0 16).toInt = (n : Int) := by rw [hR13_0]; exact nI_toInt (by omega)
                                                                                          have hlt : (g13_ 25 0 17).toInt.toNat < n := by omega
                                                                                          have t1 : v11 = T ((g13_ 25 0 17).toInt.toNat) := by rw [q11, show (v10).toNatClampNeg = (g13_ 25 0 17).toInt.toNat from by omega]; exact hR13_1 _ hlt
                                                                                          have eP : (g23 25 0 17).toInt.toNat = (g13_ 25 0 17).toInt.toNat + 1 := by omega
                                                                                          have hd : (g13_ 25 0 17).toInt.toNat < n ∧ 48 ≤ (T ((g13_ 25 0 17).toInt.toNat)).toInt ∧ (T ((g13_ 25 0 17).toInt.toNat)).toInt ≤ 57 := ⟨hlt, by rw [← t1]; omega, by rw [← t1]; omega⟩
                                                                                          obtain ⟨A, hA1, hA2⟩ := hR13_4
                                                                                          refine ⟨min (10 * A + ((T ((g13_ 25 0 17).toInt.toNat)).toInt - 48)) 1000, ?_, ?_⟩
                                                                                          · rw [hA1, zdv_step hd, eP]
                                                                                          · rw [← t1]
                                                                                            have i72e : (v18).toInt = (v11).toInt := by rw [i72]
                                                                                            omega) (by exact hR13_5) (by omega)
            · skip
              have b24x : zB a13_4 1000 9999 := by have q1 := b13_4; have q2 := (zB.of (x := 999) 999 (by decide)); simp only [z32lt, z32le, z32eq, Int32.reduceToInt, Int32.toInt_zero] at h51_13; constructor <;> omega
              refine z_iload (pc := 54) C dX10_readNumber_54 rfl ?_
              refine z_goto (pc := 56) 77 C dX10_readNumber_56 (by decide) ?_
              refine z_istore (pc := 77) C dX10_readNumber_77 (by rw [hn]; decide) rfl ?_
              refine z_aload_n (pc := 79) C dX10_readNumber_79 rfl ?_
              refine z_dupr (pc := 80) C dX10_readNumber_80 ?_
              refine z_getI (pc := 81) C zf_X10_211 rfl rfl (by decide) dX10_readNumber_81 ?_
              refine w_gp (fun v => v = g13_ 25 0 17) rfl (fun v25 q25 => ?_)
              have e25 : v25.toInt = (g13_ 25 0 17).toInt := by rw [q25]
              have b25x : zB v25 0 119 := by first | exact zB.eqv e25 c7x | (have q9 := c7x; constructor <;> omega)
              refine z_iconst (pc := 84) (v := 1) C dX10_readNumber_84 (by decide) ?_
              refine z_iadd (pc := 85) C dX10_readNumber_85 ?_
              refine w_gp (fun v => v = v25 + (1 : Int32)) rfl (fun v26 q26 => ?_)
              have e26 : v26.toInt = v25.toInt + 1 := by rw [q26]; exact (zadd_eb b25x (zB.of (x := 1) 1 (by decide)) (by decide) (by decide))
              have b26x : zB v26 1 120 := by have q1 := b25x; have q2 := (zB.of (x := 1) 1 (by decide)); constructor <;> omega
              refine z_putI (pc := 86) C zf_X10_211 zp_10_17 rfl rfl (by decide) dX10_readNumber_86 ?_
              refine w_memx hI13_ hF13_ (zB.wk (a' := 0) (b' := 120) b26x (by decide) (by decide)) rfl (fun g27 qm27 hI27 hF27 hq27 hx27 => ?_)
              have ec27 : (g27 25 0 17).toInt = v26.toInt := by rw [hx27]
              have c27x : zB (g27 25 0 17) 1 120 := by first | exact zB.eqv ec27 b26x | (have q9 := b26x; constructor <;> omega)
              have ek27_25_0_16 : (g27 25 0 16).toInt = (g13_ 25 0 16).toInt := by rw [hq27 25 0 16 (by omega)]
              have c27_25_0_16x : zB (g27 25 0 16) 1 120 := by first | exact zB.eqv ek27_25_0_16 c9x | (have q9 := c9x; constructor <;> omega)
              refine z_goto (pc := 89) 13 C dX10_readNumber_89 (by decide) ?_
              exact ih0 a13_3 b13_3 a13_4 (zB.wk (a' := 0) (b' := 9999) b24x (by decide) (by decide)) g27 hI27 hF27 (zB.wk c27_25_0_16x (by decide) (by decide)) (zB.wk c27x (by decide) (by decide)) (by subst qm27; exact (zup_ne _ _ (by omega)).trans hR13_0) (by intro i hi; subst qm27; exact (zup_ne _ _ (by omega)).trans (hR13_1 i hi)) (by
                                                                                          have eL : (g13_ 25 0 16).toInt = (n : Int) := by rw [hR13_0]; exact nI_toInt (by omega)
                                                                                          have hlt : (g13_ 25 0 17).toInt.toNat < n := by omega
                                                                                          have t1 : v11 = T ((g13_ 25 0 17).toInt.toNat) := by rw [q11, show (v10).toNatClampNeg = (g13_ 25 0 17).toInt.toNat from by omega]; exact hR13_1 _ hlt
                                                                                          have eP : (g27 25 0 17).toInt.toNat = (g13_ 25 0 17).toInt.toNat + 1 := by omega
                                                                                          have hd : (g13_ 25 0 17).toInt.toNat < n ∧ 48 ≤ (T ((g13_ 25 0 17).toInt.toNat)).toInt ∧ (T ((g13_ 25 0 17).toInt.toNat)).toInt ≤ 57 := ⟨hlt, by rw [← t1]; omega, by rw [← t1]; omega⟩
                                                                                          have h3 := hR13_2
                                                                                          omega) (by
                                                                                          have eL : (g13_ 25 0 16).toInt = (n : Int) := by rw [hR13_0]; exact nI_toInt (by omega)
                                                                                          have hlt : (g13_ 25 0 17).toInt.toNat < n := by omega
                                                                                          have t1 : v11 = T ((g13_ 25 0 17).toInt.toNat) := by rw [q11, show (v10).toNatClampNeg = (g13_ 25 0 17).toInt.toNat from by omega]; exact hR13_1 _ hlt
                                                                                          have eP : (g27 25 0 17).toInt.toNat = (g13_ 25 0 17).toInt.toNat + 1 := by omega
                                                                                          have hd : (g13_ 25 0 17).toInt.toNat < n ∧ 48 ≤ (T ((g13_ 25 0 17).toInt.toNat)).toInt ∧ (T ((g13_ 25 0 17).toInt.toNat)).toInt ≤ 57 := ⟨hlt, by rw [← t1]; omega, by rw [← t1]; omega⟩
                                                                                          rw [hR13_3, zdk_step hd, eP]) (by
                                                                                          have eL : (g13_ 25 0 16).toInt = (n : Int) := by rw [hR13_0]; exact nI_toInt (by omega)
                                                                                          have hlt : (g13_ 25 0 17).toInt.toNat < n := by omega
                                                                                          have t1 : v11 = T ((g13_ 25 0 17).toInt.toNat) := by rw [q11, show (v10).toNatClampNeg = (g13_ 25 0 17).toInt.toNat from by omega]; exact hR13_1 _ hlt
                                                                                          have eP : (g27 25 0 17).toInt.toNat = (g13_ 25 0 17).toInt.toNat + 1 := by omega
                                                                                          have hd : (g13_ 25 0 17).toInt.toNat < n ∧ 48 ≤ (T ((g13_ 25 0 17).toInt.toNat)).toInt ∧ (T ((g13_ 25 0 17).toInt.toNat)).toInt ≤ 57 := ⟨hlt, by rw [← t1]; omega, by rw [← t1]; omega⟩
                                                                                          obtain ⟨A, hA1, hA2⟩ := hR13_4
                                                                                          refine ⟨min (10 * A + ((T ((g13_ 25 0 17).toInt.toNat)).toInt - 48)) 1000, ?_, ?_⟩
                                                                                          · rw [hA1, zdv_step hd, eP]
                                                                                          · rw [← t1]
                                                                                            omega) (by exact hR13_5) (by omega)
          · skip
            have hc40_0 : ¬ (48 ≤ v11.toInt ∧ v11.toInt ≤ 57) := by have q9 := h40_11; simp only [z64] at q9; exact q9
            refine z_if_eq (pc := 43) 92 C dX10_readNumber_43 (by decide) (fun _ => ?_) (fun h => absurd (by decide) h)
            exact ih1 a13_3 b13_3 a13_4 b13_4 g13_ hI13_ hF13_ (zB.wk c9x (by decide) (by decide)) (zB.wk c7x (by decide) (by decide)) (by exact hR13_2) (by
                                                                                          have eL : (g13_ 25 0 16).toInt = (n : Int) := by rw [hR13_0]; exact nI_toInt (by omega)
                                                                                          have hnd : ¬ ((g13_ 25 0 17).toInt.toNat < n ∧ 48 ≤ (T ((g13_ 25 0 17).toInt.toNat)).toInt ∧ (T ((g13_ 25 0 17).toInt.toNat)).toInt ≤ 57) := by
                                                                                            intro hh
                                                                                            have t1 : v11 = T ((g13_ 25 0 17).toInt.toNat) := by rw [q11, show (v10).toNatClampNeg = (g13_ 25 0 17).toInt.toNat from by omega]; exact hR13_1 _ hh.1
                                                                                            rw [← t1] at hh
                                                                                            omega
                                                                                          rw [hR13_3, zdk_stop hnd]) (by
                                                                                          have eL : (g13_ 25 0 16).toInt = (n : Int) := by rw [hR13_0]; exact nI_toInt (by omega)
                                                                                          have hnd : ¬ ((g13_ 25 0 17).toInt.toNat < n ∧ 48 ≤ (T ((g13_ 25 0 17).toInt.toNat)).toInt ∧ (T ((g13_ 25 0 17).toInt.toNat)).toInt ≤ 57) := by
                                                                                            intro hh
                                                                                            have t1 : v11 = T ((g13_ 25 0 17).toInt.toNat) := by rw [q11, show (v10).toNatClampNeg = (g13_ 25 0 17).toInt.toNat from by omega]; exact hR13_1 _ hh.1
                                                                                            rw [← t1] at hh
                                                                                            omega
                                                                                          obtain ⟨A, hA1, hA2⟩ := hR13_4
                                                                                          exact ⟨A, by rw [hA1, zdv_stop hnd], hA2⟩) (by exact hR13_5) (by omega)
      · skip
        intro a92_3 b92_3 a92_4 b92_4 g92_ hI92_ hF92_ f92_25_0_16 f92_25_0_17 hR92_0 hR92_1 hR92_2 hR92_3 hM92_
        refine z_aload_n (pc := 92) C dX10_readNumber_92 rfl ?_
        refine z_getI (pc := 93) C zf_X10_211 rfl rfl (by decide) dX10_readNumber_93 ?_
        refine w_gp (fun v => v = g92_ 25 0 17) rfl (fun v28 q28 => ?_)
        have e28 : v28.toInt = (g92_ 25 0 17).toInt := by rw [q28]
        have b28x : zB v28 0 120 := by first | exact zB.eqv e28 f92_25_0_17 | (have q9 := f92_25_0_17; constructor <;> omega)
        refine z_iload_n (pc := 96) C dX10_readNumber_96 rfl ?_
        refine z_icmp_ne (pc := 97) 102 C dX10_readNumber_97 (by decide) (fun h97_28 => ?_) (fun h97_28 => ?_)
        · skip
          refine z_iload (pc := 102) C dX10_readNumber_102 rfl ?_
          refine z_i2l (pc := 104) C dX10_readNumber_104 ?_
          refine z_iload_n (pc := 105) C dX10_readNumber_105 rfl ?_
          refine z_i2l (pc := 106) C dX10_readNumber_106 ?_
          refine z_iload_n (pc := 107) C dX10_readNumber_107 rfl ?_
          refine z_i2l (pc := 108) C dX10_readNumber_108 ?_
          refine z_callSb (pc := 109) C zk_X10_69 (m_X10_in _ _ _ _ _) rfl rfl (Nat.le_of_ble_eq_true rfl) dX10_readNumber_109 (fun h109_29 => ?_) (fun h109_29 => ?_)
          · skip
            have hc109_1 : (a1.toInt ≤ a92_4.toInt ∧ a92_4.toInt ≤ a2.toInt) := by have q9 := h109_29; simp only [z64] at q9; exact q9
            have b31x : zB a92_4 0 99 := zin64w h109_29 b1 b2
            have b31xr := zin64r h109_29
            refine z_if_ne (pc := 112) 122 C dX10_readNumber_112 (by decide) (fun _ => ?_) (fun h => absurd h (by decide))
            refine z_iload (pc := 122) C dX10_readNumber_122 rfl ?_
            exact z_iret (pc := 124) C hr dX10_readNumber_124 ⟨⟨_, rfl, (zB.wk (a' := (-1)) (b' := 99) b31x (by decide) (by decide))⟩, hI92_, hF92_, (by
                                                                                          intro v hv; cases hv
                                                                                          obtain ⟨A, hA1, hA2⟩ := hR92_2
                                                                                          have l3 : a92_3.toInt = ((zsp T n p : Nat) : Int) := by rw [hR92_3]; exact nI_toInt (by omega)
                                                                                          have h1 := hR92_0
                                                                                          have hpl : g92_ 25 0 17 = nI ((g92_ 25 0 17).toInt.toNat) := (nI_ofI (hI92_ 25 0 17).1).1
                                                                                          have hx : ¬ (v28).toInt = a92_3.toInt := by rw [← z32eq]; assumption
                                                                                          have hA : A = a92_4.toInt := by omega
                                                                                          refine Or.inr ⟨(g92_ 25 0 17).toInt.toNat, ?_, hpl, h1.2, by omega, by omega⟩
                                                                                          unfold znu
                                                                                          rw [hR92_1, hA1, if_neg (by omega), hA, Int32.ofInt_toInt])⟩
          · skip
            have hc109_0 : ¬ (a1.toInt ≤ a92_4.toInt ∧ a92_4.toInt ≤ a2.toInt) := by have q9 := h109_29; simp only [z64] at q9; exact q9
            refine z_if_ne (pc := 112) 122 C dX10_readNumber_112 (by decide) (fun h => absurd (by decide) h) (fun _ => ?_)
            refine z_aload_n (pc := 115) C dX10_readNumber_115 rfl ?_
            refine z_iload_n (pc := 116) C dX10_readNumber_116 rfl ?_
            refine z_putI (pc := 117) C zf_X10_211 zp_10_17 rfl rfl (by decide) dX10_readNumber_117 ?_
            refine w_memx hI92_ hF92_ b92_3 rfl (fun g32 qm32 hI32 hF32 hq32 hx32 => ?_)
            have ec32 : (g32 25 0 17).toInt = a92_3.toInt := by rw [hx32]
            have c32x : zB (g32 25 0 17) 0 120 := by first | exact zB.eqv ec32 b92_3 | (have q9 := b92_3; constructor <;> omega)
            have ek32_25_0_16 : (g32 25 0 16).toInt = (g92_ 25 0 16).toInt := by rw [hq32 25 0 16 (by omega)]
            have c32_25_0_16x : zB (g32 25 0 16) 0 120 := by first | exact zB.eqv ek32_25_0_16 f92_25_0_16 | (have q9 := f92_25_0_16; constructor <;> omega)
            refine z_iconst (pc := 120) (v := -1) C dX10_readNumber_120 (by decide) ?_
            exact z_iret (pc := 121) C hr dX10_readNumber_121 ⟨⟨_, rfl, (zB.wk (a' := (-1)) (b' := 99) (zB.of (x := (-1)) (-1) (by decide)) (by decide) (by decide))⟩, hI32, hF32, (by
                                                                                          intro v hv; cases hv
                                                                                          obtain ⟨A, hA1, hA2⟩ := hR92_2
                                                                                          have l3 : a92_3.toInt = ((zsp T n p : Nat) : Int) := by rw [hR92_3]; exact nI_toInt (by omega)
                                                                                          have h1 := hR92_0
                                                                                          have hpl : g92_ 25 0 17 = nI ((g92_ 25 0 17).toInt.toNat) := (nI_ofI (hI92_ 25 0 17).1).1
                                                                                          refine Or.inl ⟨zsp T n p, ?_, by omega, ?_, rfl⟩
                                                                                          · unfold znu
                                                                                            rw [hR92_1, hA1, if_pos]
                                                                                            by_cases q1 : A < a1.toInt
                                                                                            · exact Or.inr (Or.inl q1)
                                                                                            · exact Or.inr (Or.inr (by omega))
                                                                                          · subst qm32; rw [zup_same]; exact hR92_3)⟩
        · skip
          have rr33 : v28.toInt = a92_3.toInt := by simp only [z32lt, z32le, z32eq] at h97_28; omega
          refine z_iconst (pc := 100) (v := -1) C dX10_readNumber_100 (by decide) ?_
          exact z_iret (pc := 101) C hr dX10_readNumber_101 ⟨⟨_, rfl, (zB.wk (a' := (-1)) (b' := 99) (zB.of (x := (-1)) (-1) (by decide)) (by decide) (by decide))⟩, hI92_, hF92_, (by
                                                                                          intro v hv; cases hv
                                                                                          obtain ⟨A, hA1, hA2⟩ := hR92_2
                                                                                          have l3 : a92_3.toInt = ((zsp T n p : Nat) : Int) := by rw [hR92_3]; exact nI_toInt (by omega)
                                                                                          have h1 := hR92_0
                                                                                          have hpl : g92_ 25 0 17 = nI ((g92_ 25 0 17).toInt.toNat) := (nI_ofI (hI92_ 25 0 17).1).1
                                                                                          have hx : (v28).toInt = a92_3.toInt := by rw [← z32eq]; assumption
                                                                                          refine Or.inl ⟨zsp T n p, ?_, by omega, ?_, rfl⟩
                                                                                          · unfold znu
                                                                                            rw [hR92_1, hA1, if_pos (Or.inl (by omega))]
                                                                                          · rw [hpl, show (g92_ 25 0 17).toInt.toNat = zsp T n p by omega])⟩
  obtain ⟨J0, J1⟩ := J 497
  show Z X 0 [some (zr 25 0), some (zi a1), some (zi a2), none, none] [] f
  refine z_aload_n (pc := 0) C dX10_readNumber_0 rfl ?_
  refine z_callV (pc := 1) C zk_X10_214 (e_X10_next _ _ T n (p) hN h18 hTp hp hb hI) rfl rfl (by decide) rfl rfl (Nat.le_of_ble_eq_true rfl) dX10_readNumber_1 (fun r34 g34 q34 => ?_)
  obtain ⟨⟨v34, rfl, b34x⟩, hI34, hF34q, hp34⟩ := q34
  have hp34 := hp34 _ rfl
  have hF34 := zFr.tr hF hF34q (by decide)
  simp only [Option.toList, List.cons_append, List.nil_append]
  have cr34_25_0_17 : zB (g34 25 0 17) 0 120 := hI34 25 0 17
  have ek34_25_0_16 : (g34 25 0 16).toInt = (f 25 0 16).toInt := by rw [hF34q 25 0 16 rfl]
  have c34_25_0_16x : zB (g34 25 0 16) 0 120 := by first | exact zB.eqv ek34_25_0_16 ct25_0_16 | (have q9 := ct25_0_16; constructor <;> omega)
  obtain ⟨hv34, hq34, hj34⟩ := hp34
  have h1834 : g34 25 0 16 = nI n := (hF34q 25 0 16 rfl).trans h18
  have hTp34 : ∀ i, i < n → g34 36 0 i = T i := fun i hi => (hF34q 36 0 i rfl).trans (hTp i hi)
  have hb34 : zsp T n (p) ≤ n := zsp_len hb
  refine z_pop (pc := 4) C dX10_readNumber_4 ?_
  refine z_aload_n (pc := 5) C dX10_readNumber_5 rfl ?_
  refine z_getI (pc := 6) C zf_X10_211 rfl rfl (by decide) dX10_readNumber_6 ?_
  refine w_gp (fun v => v = g34 25 0 17) rfl (fun v35 q35 => ?_)
  have e35 : v35.toInt = (g34 25 0 17).toInt := by rw [q35]
  have b35x : zB v35 0 120 := by first | exact zB.eqv e35 cr34_25_0_17 | (have q9 := cr34_25_0_17; constructor <;> omega)
  refine z_istore_n (pc := 9) C dX10_readNumber_9 (by rw [hn]; decide) rfl ?_
  refine z_iconst (pc := 10) (v := 0) C dX10_readNumber_10 (by decide) ?_
  refine z_istore (pc := 11) C dX10_readNumber_11 (by rw [hn]; decide) rfl ?_
  exact J0 v35 b35x 0 (zB.wk (a' := 0) (b' := 9999) (zB.of (x := 0) 0 (by decide)) (by decide) (by decide)) g34 hI34 hF34 c34_25_0_16x cr34_25_0_17 (by exact h1834) (by exact hTp34) (by rw [hq34, nI_tt (by omega)]; exact ⟨Nat.le_refl _, hb34⟩) (by rw [hq34, nI_tt (by omega)]) (by exact ⟨0, by rw [hq34, nI_tt (by omega)], Or.inl ⟨by decide, by decide⟩⟩) (by rw [q35]; exact hq34) (by have qc0 : (0 : Int32).toInt = 0 := (by decide); omega)

theorem zrm_s (T : Nat → Int32) (n : Nat) (no : Int32) (k p : Nat) (m l : Int32) : zrm T n no (k + 1) p m l = if 0 ≤ (zch T n (zsp T n p) - 97).toInt ∧ (zch T n (zsp T n p) - 97).toInt ≤ 5 then (if (zch T n (zsp T n p) - 97).toInt ≤ l.toInt ∨ no >>> ((zch T n (zsp T n p) - 97) &&& 31) &&& 1 = 1 then .inl (zsp T n p) else zrm T n no k (zsp T n p + 1) (m ||| 1 <<< ((zch T n (zsp T n p) - 97) &&& 31)) (zch T n (zsp T n p) - 97)) else if m = 0 then .inl (zsp T n p) else .inr (m, zsp T n p) := rfl

def zMr (T : Nat → Int32) (n p : Nat) (no l4 l3 l2 : Int32) (P : Nat) : Prop := (l4 = 1 ∧ l3.toInt ≤ 5 ∧ ∃ K : Nat, 6 - l3.toInt ≤ K ∧ zrm T n no 7 p 0 (-1) = zrm T n no K P l2 l3) ∨ (l4 = 0 ∧ ¬ l2 = 0 ∧ zrm T n no 7 p 0 (-1) = .inr (l2, P))
set_option maxRecDepth 100000 in
set_option maxHeartbeats 4000000 in
theorem e_X10_readMarks (d : Nat) (f : zM) (a1 : Int32) (b1 : zB a1 0 63) (T : Nat → Int32) (n p : Nat) (hN : n ≤ 120) (h18 : f 25 0 16 = nI n) (hTp : ∀ i, i < n → f 36 0 i = T i) (hp : f 25 0 17 = nI p) (hb : p ≤ n) (hI : zInv f) : ZM (d + 1) yX10_readMarks cX10_readMarks 7 (some .int) [zr 25 0, zi a1] f (fun r g => (∃ v, r = some (zi v) ∧ zB v 0 63) ∧ zInv g ∧ zFr [(25, some 17)] f g ∧ (∀ v : Int32, r = some (zi v) → (∃ e, zrm T n a1 7 p 0 (-1) = .inl e ∧ e ≤ n ∧ g 25 0 17 = nI e ∧ v = 0) ∨ (∃ q, zrm T n a1 7 p 0 (-1) = .inr (v, q) ∧ g 25 0 17 = nI q ∧ q ≤ n ∧ 1 ≤ v.toInt))) := by
  refine ZM.intro (by decide +kernel) (Nat.le_of_ble_eq_true rfl) ?_
  intro X C hr hn
  have hF : zFr [(25, some 17)] f f := zFr.rf _ _
  have ct25_0_17 : zB (f 25 0 17) 0 120 := hI 25 0 17
  have J : ∀ t : Nat, (∀ a7_2 : Int32, zB a7_2 0 63 → ∀ a7_3 : Int32, zB a7_3 (-98) 158 → ∀ a7_4 : Int32, zB a7_4 0 1 → ∀ g : zM, zInv g → zFr [(25, some 17)] f g → zB (g 25 0 17) 0 120 → (g 25 0 16 = nI n) → (∀ i, i < n → g 36 0 i = T i) → ((g 25 0 17).toInt.toNat ≤ n) → (zMr T n p a1 a7_4 a7_3 a7_2 ((g 25 0 17).toInt.toNat)) → (0 + 3 * (2 * (120 - (g 25 0 17).toInt) + a7_4.toInt) : Int) < t → Z X 7 [some (zr 25 0), some (zi a1), some (zi a7_2), some (zi a7_3), some (zi a7_4), none, none] [] g) := by
    intro t
    induction t with
    | zero =>
      intros; exfalso; omega
    | succ t ih =>
      have ih0 := ih
      intro a7_2 b7_2 a7_3 b7_3 a7_4 b7_4 g7_ hI7_ hF7_ f7_25_0_17 hR7_0 hR7_1 hR7_2 hR7_3 hM7_
      have hpl7 : g7_ 25 0 17 = nI ((g7_ 25 0 17).toInt.toNat) := (nI_ofI (hI7_ 25 0 17).1).1
      refine z_iload (pc := 7) C dX10_readMarks_7 rfl ?_
      refine z_if_eq (pc := 9) 110 C dX10_readMarks_9 (by decide) (fun h9_0 => ?_) (fun h9_0 => ?_)
      · skip
        have b2x : zB a7_4 0 0 := by have q1 := b7_4; have q2 := (zB.of (x := 0) 0 (by decide)); simp only [z32lt, z32le, z32eq, Int32.reduceToInt, Int32.toInt_zero] at h9_0; constructor <;> omega
        refine z_iload_n (pc := 110) C dX10_readMarks_110 rfl ?_
        exact z_iret (pc := 111) C hr dX10_readMarks_111 ⟨⟨_, rfl, b7_2⟩, hI7_, hF7_, (by
                                                                                          intro v hv; cases hv
                                                                                          rcases hR7_3 with ⟨hmo, h5, K, hK1, hK2⟩ | ⟨hmo, hK1, hK2⟩
                                                                                          · exfalso
                                                                                            rw [z32eq] at hmo
                                                                                            have c1 : (1 : Int32).toInt = 1 := by decide
                                                                                            omega
                                                                                          · have hpos : 1 ≤ a7_2.toInt := by rw [z32eq] at hK1; have c0 : (0 : Int32).toInt = 0 := by decide
                                                                                                                             omega
                                                                                            exact Or.inr ⟨_, hK2, hpl7, hR7_2, hpos⟩)⟩
      · skip
        have b3x : zB a7_4 1 1 := by have q1 := b7_4; have q2 := (zB.of (x := 0) 0 (by decide)); simp only [z32lt, z32le, z32eq, Int32.reduceToInt, Int32.toInt_zero] at h9_0; constructor <;> omega
        refine z_aload_n (pc := 12) C dX10_readMarks_12 rfl ?_
        refine z_callV (pc := 13) C zk_X10_214 (e_X10_next _ _ T n ((g7_ 25 0 17).toInt.toNat) hN hR7_0 hR7_1 hpl7 hR7_2 hI7_) rfl rfl (by decide) rfl rfl (Nat.le_of_ble_eq_true rfl) dX10_readMarks_13 (fun r4 g4 q4 => ?_)
        obtain ⟨⟨v4, rfl, b4x⟩, hI4, hF4q, hp4⟩ := q4
        have hp4 := hp4 _ rfl
        have hF4 := zFr.tr hF7_ hF4q (by decide)
        simp only [Option.toList, List.cons_append, List.nil_append]
        have cr4_25_0_17 : zB (g4 25 0 17) 0 120 := hI4 25 0 17
        obtain ⟨hv4, hq4, hj4⟩ := hp4
        have h184 : g4 25 0 16 = nI n := (hF4q 25 0 16 rfl).trans hR7_0
        have hTp4 : ∀ i, i < n → g4 36 0 i = T i := fun i hi => (hF4q 36 0 i rfl).trans (hR7_1 i hi)
        have hb4 : zsp T n ((g7_ 25 0 17).toInt.toNat) ≤ n := zsp_len hR7_2
        have ez7 : (g4 25 0 17).toInt = ((zsp T n ((g7_ 25 0 17).toInt.toNat) : Nat) : Int) := by rw [hq4]; exact nI_toInt (by have := hb4; omega)
        have zl7 := zsp_ge T n ((g7_ 25 0 17).toInt.toNat)
        refine z_bipush (pc := 16) (v := 97) C dX10_readMarks_16 (by decide) ?_
        refine z_isub (pc := 18) C dX10_readMarks_18 ?_
        refine w_gp (fun v => v = v4 - (97 : Int32)) rfl (fun v5 q5 => ?_)
        have e5 : v5.toInt = v4.toInt - 97 := by rw [q5]; exact (zsub_eb b4x (zB.of (x := 97) 97 (by decide)) (by decide) (by decide))
        have b5x : zB v5 (-98) 158 := by have q1 := b4x; have q2 := (zB.of (x := 97) 97 (by decide)); constructor <;> omega
        refine z_istore (pc := 19) C dX10_readMarks_19 (by rw [hn]; decide) rfl ?_
        refine z_iload (pc := 21) C dX10_readMarks_21 rfl ?_
        refine z_i2l (pc := 23) C dX10_readMarks_23 ?_
        refine z_lconst (pc := 24) (v := 0) C dX10_readMarks_24 (by decide) ?_
        refine z_ldc2 (pc := 25) C zw_1123 dX10_readMarks_25 ?_
        refine z_callSb (pc := 28) C zk_X10_69 (m_X10_in _ _ _ _ _) rfl rfl (Nat.le_of_ble_eq_true rfl) dX10_readMarks_28 (fun h28_5 => ?_) (fun h28_5 => ?_)
        · skip
          have hc28_1 : (0 ≤ v5.toInt ∧ v5.toInt ≤ 5) := by have q9 := h28_5; simp only [z64] at q9; exact q9
          have b7x : zB v5 0 5 := zin64 h28_5 rfl rfl
          have b8x : zB v4 97 102 := by first | assumption | (constructor <;> omega)
          have c9x : zB (g4 25 0 17) 0 119 := by first | assumption | (constructor <;> omega)
          refine z_istore (pc := 31) C dX10_readMarks_31 (by rw [hn]; decide) rfl ?_
          refine z_iload (pc := 33) C dX10_readMarks_33 rfl ?_
          refine z_if_eq (pc := 35) 54 C dX10_readMarks_35 (by decide) (fun h35_9 => absurd h35_9 (by decide)) (fun h35_9 => ?_)
          refine z_iload (pc := 38) C dX10_readMarks_38 rfl ?_
          refine z_iload_n (pc := 40) C dX10_readMarks_40 rfl ?_
          refine z_icmp_le (pc := 41) 63 C dX10_readMarks_41 (by decide) (fun h41_10 => ?_) (fun h41_10 => ?_)
          · skip
            have rr12 : v5.toInt ≤ a7_3.toInt := by simp only [z32lt, z32le, z32eq] at h41_10; omega
            have b13x : zB a7_3 0 158 := by have q1 := b7x; have q2 := b7_3; simp only [z32lt, z32le, z32eq, Int32.reduceToInt, Int32.toInt_zero] at h41_10; constructor <;> omega
            refine z_iconst (pc := 63) (v := 0) C dX10_readMarks_63 (by decide) ?_
            exact z_iret (pc := 64) C hr dX10_readMarks_64 ⟨⟨_, rfl, (zB.wk (a' := 0) (b' := 63) (zB.of (x := 0) 0 (by decide)) (by decide) (by decide))⟩, hI4, hF4, (by
                                                                                          intro v hv; cases hv
                                                                                          have hm : v5 = zch T n (zsp T n ((g7_ 25 0 17).toInt.toNat)) - 97 := by rw [q5, hv4]
                                                                                          rcases hR7_3 with ⟨hmo, h5, K, hK1, hK2⟩ | ⟨hmo, hK1, hK2⟩
                                                                                          · obtain ⟨K, rfl⟩ : ∃ K2, K = K2 + 1 := ⟨K - 1, by omega⟩
                                                                                            refine Or.inl ⟨zsp T n ((g7_ 25 0 17).toInt.toNat), ?_, hb4, hq4, rfl⟩
                                                                                            first
                                                                                              | (rw [hK2, zrm_s, ← hm, if_pos (by omega), if_pos (Or.inl (by omega))]; done)
                                                                                              | (rw [hK2, zrm_s, ← hm, if_neg (by omega), if_pos (by assumption)]; done)
                                                                                          · exfalso
                                                                                            rw [z32eq] at hmo
                                                                                            have c0 : (0 : Int32).toInt = 0 := by decide
                                                                                            omega)⟩
          · skip
            have rr14 : v5.toInt > a7_3.toInt := by simp only [z32lt, z32le, z32eq] at h41_10; omega
            have b15x : zB a7_3 (-98) 4 := by have q1 := b7x; have q2 := b7_3; simp only [z32lt, z32le, z32eq, Int32.reduceToInt, Int32.toInt_zero] at h41_10; constructor <;> omega
            refine z_iload_n (pc := 44) C dX10_readMarks_44 rfl ?_
            refine z_iload (pc := 45) C dX10_readMarks_45 rfl ?_
            refine z_ishr (pc := 47) C dX10_readMarks_47 ?_
            refine w_gp (fun v => v = a1 >>> (v5 &&& 31)) rfl (fun v16 q16 => ?_)
            refine z_iconst (pc := 48) (v := 1) C dX10_readMarks_48 (by decide) ?_
            refine z_iand (pc := 49) C dX10_readMarks_49 ?_
            refine w_gp (fun v => v = v16 &&& (1 : Int32)) rfl (fun v17 q17 => ?_)
            have b17x : zB v17 0 1 := by rw [q17]; exact (zand_b (zB_any v16) (zB.of (x := 1) 1 (by decide)) (by decide))
            refine z_iconst (pc := 50) (v := 1) C dX10_readMarks_50 (by decide) ?_
            refine z_icmp_eq (pc := 51) 63 C dX10_readMarks_51 (by decide) (fun h51_17 => ?_) (fun h51_17 => ?_)
            · skip
              have b19x : zB v17 1 1 := by have q1 := b17x; have q2 := (zB.of (x := 1) 1 (by decide)); simp only [z32lt, z32le, z32eq, Int32.reduceToInt, Int32.toInt_zero] at h51_17; constructor <;> omega
              refine z_iconst (pc := 63) (v := 0) C dX10_readMarks_63 (by decide) ?_
              exact z_iret (pc := 64) C hr dX10_readMarks_64 ⟨⟨_, rfl, (zB.wk (a' := 0) (b' := 63) (zB.of (x := 0) 0 (by decide)) (by decide) (by decide))⟩, hI4, hF4, (by
                                                                                          intro v hv; cases hv
                                                                                          have hm : v5 = zch T n (zsp T n ((g7_ 25 0 17).toInt.toNat)) - 97 := by rw [q5, hv4]
                                                                                          rcases hR7_3 with ⟨hmo, h5, K, hK1, hK2⟩ | ⟨hmo, hK1, hK2⟩
                                                                                          · obtain ⟨K, rfl⟩ : ∃ K2, K = K2 + 1 := ⟨K - 1, by omega⟩
                                                                                            refine Or.inl ⟨zsp T n ((g7_ 25 0 17).toInt.toNat), ?_, hb4, hq4, rfl⟩
                                                                                            first
                                                                                              | (rw [hK2, zrm_s, ← hm, if_pos (by omega), if_pos (Or.inl (by omega))]; done)
                                                                                              | (rw [hK2, zrm_s, ← hm, if_pos (by omega), if_pos (Or.inr (by rw [← q16, ← q17]; assumption))]; done)
                                                                                              | (rw [hK2, zrm_s, ← hm, if_neg (by omega), if_pos (by assumption)]; done)
                                                                                          · exfalso
                                                                                            rw [z32eq] at hmo
                                                                                            have c0 : (0 : Int32).toInt = 0 := by decide
                                                                                            omega)⟩
            · skip
              have b20x : zB v17 0 0 := by have q1 := b17x; have q2 := (zB.of (x := 1) 1 (by decide)); simp only [z32lt, z32le, z32eq, Int32.reduceToInt, Int32.toInt_zero] at h51_17; constructor <;> omega
              refine z_iload (pc := 54) C dX10_readMarks_54 rfl ?_
              refine z_if_ne (pc := 56) 65 C dX10_readMarks_56 (by decide) (fun h56_20 => ?_) (fun h56_20 => absurd h56_20 (by decide))
              refine z_iload_n (pc := 65) C dX10_readMarks_65 rfl ?_
              refine z_iload (pc := 66) C dX10_readMarks_66 rfl ?_
              refine z_if_eq (pc := 68) 78 C dX10_readMarks_68 (by decide) (fun h68_21 => absurd h68_21 (by decide)) (fun h68_21 => ?_)
              refine z_iconst (pc := 71) (v := 1) C dX10_readMarks_71 (by decide) ?_
              refine z_iload (pc := 72) C dX10_readMarks_72 rfl ?_
              refine z_ishl (pc := 74) C dX10_readMarks_74 ?_
              refine w_gp (fun v => v = (1 : Int32) <<< (v5 &&& 31)) rfl (fun v23 q23 => ?_)
              have b23x : zB v23 0 32 := by rw [q23]; exact (zshl_b b7x 5 (by decide) (by decide))
              refine z_goto (pc := 75) 79 C dX10_readMarks_75 (by decide) ?_
              refine z_ior (pc := 79) C dX10_readMarks_79 ?_
              refine w_gp (fun v => v = a7_2 ||| v23) rfl (fun v24 q24 => ?_)
              have b24x : zB v24 0 63 := by rw [q24]; exact (zor_b 6 b7_2 b23x (by decide) (by decide) (by decide) (by decide) (by decide))
              refine z_istore_n (pc := 80) C dX10_readMarks_80 (by rw [hn]; decide) rfl ?_
              refine z_iload (pc := 81) C dX10_readMarks_81 rfl ?_
              refine z_istore_n (pc := 83) C dX10_readMarks_83 (by rw [hn]; decide) rfl ?_
              refine z_aload_n (pc := 84) C dX10_readMarks_84 rfl ?_
              refine z_dupr (pc := 85) C dX10_readMarks_85 ?_
              refine z_getI (pc := 86) C zf_X10_211 rfl rfl (by decide) dX10_readMarks_86 ?_
              refine w_gp (fun v => v = g4 25 0 17) rfl (fun v25 q25 => ?_)
              have e25 : v25.toInt = (g4 25 0 17).toInt := by rw [q25]
              have b25x : zB v25 0 119 := by first | exact zB.eqv e25 c9x | (have q9 := c9x; constructor <;> omega)
              refine z_iload (pc := 89) C dX10_readMarks_89 rfl ?_
              refine z_if_eq (pc := 91) 98 C dX10_readMarks_91 (by decide) (fun h91_25 => absurd h91_25 (by decide)) (fun h91_25 => ?_)
              refine z_iconst (pc := 94) (v := 1) C dX10_readMarks_94 (by decide) ?_
              refine z_goto (pc := 95) 99 C dX10_readMarks_95 (by decide) ?_
              refine z_iadd (pc := 99) C dX10_readMarks_99 ?_
              refine w_gp (fun v => v = v25 + (1 : Int32)) rfl (fun v27 q27 => ?_)
              have e27 : v27.toInt = v25.toInt + 1 := by rw [q27]; exact (zadd_eb b25x (zB.of (x := 1) 1 (by decide)) (by decide) (by decide))
              have b27x : zB v27 1 120 := by have q1 := b25x; have q2 := (zB.of (x := 1) 1 (by decide)); constructor <;> omega
              refine z_putI (pc := 100) C zf_X10_211 zp_10_17 rfl rfl (by decide) dX10_readMarks_100 ?_
              refine w_memx hI4 hF4 (zB.wk (a' := 0) (b' := 120) b27x (by decide) (by decide)) rfl (fun g28 qm28 hI28 hF28 hq28 hx28 => ?_)
              have ec28 : (g28 25 0 17).toInt = v27.toInt := by rw [hx28]
              have c28x : zB (g28 25 0 17) 1 120 := by first | exact zB.eqv ec28 b27x | (have q9 := b27x; constructor <;> omega)
              refine z_iload (pc := 103) C dX10_readMarks_103 rfl ?_
              refine z_istore (pc := 105) C dX10_readMarks_105 (by rw [hn]; decide) rfl ?_
              refine z_goto (pc := 107) 7 C dX10_readMarks_107 (by decide) ?_
              refine w_mask [5, 6] ?_
              exact ih0 v24 b24x v5 (zB.wk (a' := (-98)) (b' := 158) b7x (by decide) (by decide)) 1 (zB.wk (a' := 0) (b' := 1) (zB.of (x := 1) 1 (by decide)) (by decide) (by decide)) g28 hI28 hF28 (zB.wk c28x (by decide) (by decide)) (by subst qm28; exact (zup_ne _ _ (by omega)).trans h184) (by intro i hi; subst qm28; exact (zup_ne _ _ (by omega)).trans (hTp4 i hi)) (by
                                                                                          have hm : v5 = zch T n (zsp T n ((g7_ 25 0 17).toInt.toNat)) - 97 := by rw [q5, hv4]
                                                                                          rcases hR7_3 with ⟨hmo, h5, K, hK1, hK2⟩ | ⟨hmo, hK1, hK2⟩
                                                                                          · obtain ⟨K, rfl⟩ : ∃ K2, K = K2 + 1 := ⟨K - 1, by omega⟩
                                                                                            have ez : (g4 25 0 17).toInt = ((zsp T n ((g7_ 25 0 17).toInt.toNat) : Nat) : Int) := by rw [hq4]; exact nI_toInt (by have := hb4; omega)
                                                                                            have hlt : zsp T n ((g7_ 25 0 17).toInt.toNat) < n := zch_lt (fun h => by
                                                                                              rw [← hv4, z32eq] at h
                                                                                              have c1 : (-1 : Int32).toInt = -1 := by decide
                                                                                              omega)
                                                                                            omega
                                                                                          · exfalso
                                                                                            rw [z32eq] at hmo
                                                                                            have c0 : (0 : Int32).toInt = 0 := by decide
                                                                                            omega) (by
                                                                                          have hm : v5 = zch T n (zsp T n ((g7_ 25 0 17).toInt.toNat)) - 97 := by rw [q5, hv4]
                                                                                          rcases hR7_3 with ⟨hmo, h5, K, hK1, hK2⟩ | ⟨hmo, hK1, hK2⟩
                                                                                          · obtain ⟨K, rfl⟩ : ∃ K2, K = K2 + 1 := ⟨K - 1, by omega⟩
                                                                                            have ez : (g4 25 0 17).toInt = ((zsp T n ((g7_ 25 0 17).toInt.toNat) : Nat) : Int) := by rw [hq4]; exact nI_toInt (by have := hb4; omega)
                                                                                            have eP : (g28 25 0 17).toInt.toNat = zsp T n ((g7_ 25 0 17).toInt.toNat) + 1 := by omega
                                                                                            refine Or.inl ⟨rfl, by omega, K, by omega, ?_⟩
                                                                                            rw [hK2, zrm_s, ← hm, if_pos (by omega), if_neg (fun hh => hh.elim (fun h1 => by omega) (fun h1 => absurd (show v17 = 1 by rw [q17, q16]; exact h1) (by assumption))), eP, q24, q23]
                                                                                          · exfalso
                                                                                            rw [z32eq] at hmo
                                                                                            have c0 : (0 : Int32).toInt = 0 := by decide
                                                                                            omega) (by have qc0 : (1 : Int32).toInt = 1 := (by decide); omega)
        · skip
          have hc28_0 : ¬ (0 ≤ v5.toInt ∧ v5.toInt ≤ 5) := by have q9 := h28_5; simp only [z64] at q9; exact q9
          refine z_istore (pc := 31) C dX10_readMarks_31 (by rw [hn]; decide) rfl ?_
          refine z_iload (pc := 33) C dX10_readMarks_33 rfl ?_
          refine z_if_eq (pc := 35) 54 C dX10_readMarks_35 (by decide) (fun h35_28 => ?_) (fun h35_28 => absurd h35_28 (by decide))
          refine z_iload (pc := 54) C dX10_readMarks_54 rfl ?_
          refine z_if_ne (pc := 56) 65 C dX10_readMarks_56 (by decide) (fun h56_29 => absurd h56_29 (by decide)) (fun h56_29 => ?_)
          refine z_iload_n (pc := 59) C dX10_readMarks_59 rfl ?_
          refine z_if_ne (pc := 60) 65 C dX10_readMarks_60 (by decide) (fun h60_30 => ?_) (fun h60_30 => ?_)
          · skip
            have b32x : zB a7_2 1 63 := by have q1 := b7_2; have q2 := (zB.of (x := 0) 0 (by decide)); simp only [z32lt, z32le, z32eq, Int32.reduceToInt, Int32.toInt_zero] at h60_30; constructor <;> omega
            refine z_iload_n (pc := 65) C dX10_readMarks_65 rfl ?_
            refine z_iload (pc := 66) C dX10_readMarks_66 rfl ?_
            refine z_if_eq (pc := 68) 78 C dX10_readMarks_68 (by decide) (fun h68_32 => ?_) (fun h68_32 => absurd h68_32 (by decide))
            refine z_iconst (pc := 78) (v := 0) C dX10_readMarks_78 (by decide) ?_
            refine z_ior (pc := 79) C dX10_readMarks_79 ?_
            refine w_gp (fun v => v = a7_2 ||| (0 : Int32)) rfl (fun v34 q34 => ?_)
            have b34x : zB v34 0 63 := by rw [q34]; exact (zor_b 6 b32x (zB.of (x := 0) 0 (by decide)) (by decide) (by decide) (by decide) (by decide) (by decide))
            refine z_istore_n (pc := 80) C dX10_readMarks_80 (by rw [hn]; decide) rfl ?_
            refine z_iload (pc := 81) C dX10_readMarks_81 rfl ?_
            refine z_istore_n (pc := 83) C dX10_readMarks_83 (by rw [hn]; decide) rfl ?_
            refine z_aload_n (pc := 84) C dX10_readMarks_84 rfl ?_
            refine z_dupr (pc := 85) C dX10_readMarks_85 ?_
            refine z_getI (pc := 86) C zf_X10_211 rfl rfl (by decide) dX10_readMarks_86 ?_
            refine w_gp (fun v => v = g4 25 0 17) rfl (fun v35 q35 => ?_)
            have e35 : v35.toInt = (g4 25 0 17).toInt := by rw [q35]
            have b35x : zB v35 0 120 := by first | exact zB.eqv e35 cr4_25_0_17 | (have q9 := cr4_25_0_17; constructor <;> omega)
            refine z_iload (pc := 89) C dX10_readMarks_89 rfl ?_
            refine z_if_eq (pc := 91) 98 C dX10_readMarks_91 (by decide) (fun h91_35 => ?_) (fun h91_35 => absurd h91_35 (by decide))
            refine z_iconst (pc := 98) (v := 0) C dX10_readMarks_98 (by decide) ?_
            refine z_iadd (pc := 99) C dX10_readMarks_99 ?_
            refine w_gp (fun v => v = v35 + (0 : Int32)) rfl (fun v37 q37 => ?_)
            have e37 : v37.toInt = v35.toInt + 0 := by rw [q37]; exact (zadd_eb b35x (zB.of (x := 0) 0 (by decide)) (by decide) (by decide))
            have b37x : zB v37 0 120 := by have q1 := b35x; have q2 := (zB.of (x := 0) 0 (by decide)); constructor <;> omega
            refine z_putI (pc := 100) C zf_X10_211 zp_10_17 rfl rfl (by decide) dX10_readMarks_100 ?_
            refine w_memx hI4 hF4 b37x rfl (fun g38 qm38 hI38 hF38 hq38 hx38 => ?_)
            have ec38 : (g38 25 0 17).toInt = v37.toInt := by rw [hx38]
            have c38x : zB (g38 25 0 17) 0 120 := by first | exact zB.eqv ec38 b37x | (have q9 := b37x; constructor <;> omega)
            refine z_iload (pc := 103) C dX10_readMarks_103 rfl ?_
            refine z_istore (pc := 105) C dX10_readMarks_105 (by rw [hn]; decide) rfl ?_
            refine z_goto (pc := 107) 7 C dX10_readMarks_107 (by decide) ?_
            refine w_mask [5, 6] ?_
            exact ih0 v34 b34x v5 b5x 0 (zB.wk (a' := 0) (b' := 1) (zB.of (x := 0) 0 (by decide)) (by decide) (by decide)) g38 hI38 hF38 c38x (by subst qm38; exact (zup_ne _ _ (by omega)).trans h184) (by intro i hi; subst qm38; exact (zup_ne _ _ (by omega)).trans (hTp4 i hi)) (by
                                                                                          have hm : v5 = zch T n (zsp T n ((g7_ 25 0 17).toInt.toNat)) - 97 := by rw [q5, hv4]
                                                                                          rcases hR7_3 with ⟨hmo, h5, K, hK1, hK2⟩ | ⟨hmo, hK1, hK2⟩
                                                                                          · obtain ⟨K, rfl⟩ : ∃ K2, K = K2 + 1 := ⟨K - 1, by omega⟩
                                                                                            have ez : (g4 25 0 17).toInt = ((zsp T n ((g7_ 25 0 17).toInt.toNat) : Nat) : Int) := by rw [hq4]; exact nI_toInt (by have := hb4; omega)
                                                                                            have hbz := hb4
                                                                                            omega
                                                                                          · exfalso
                                                                                            rw [z32eq] at hmo
                                                                                            have c0 : (0 : Int32).toInt = 0 := by decide
                                                                                            omega) (by
                                                                                          have hm : v5 = zch T n (zsp T n ((g7_ 25 0 17).toInt.toNat)) - 97 := by rw [q5, hv4]
                                                                                          rcases hR7_3 with ⟨hmo, h5, K, hK1, hK2⟩ | ⟨hmo, hK1, hK2⟩
                                                                                          · obtain ⟨K, rfl⟩ : ∃ K2, K = K2 + 1 := ⟨K - 1, by omega⟩
                                                                                            have ez : (g4 25 0 17).toInt = ((zsp T n ((g7_ 25 0 17).toInt.toNat) : Nat) : Int) := by rw [hq4]; exact nI_toInt (by have := hb4; omega)
                                                                                            have eP : (g38 25 0 17).toInt.toNat = zsp T n ((g7_ 25 0 17).toInt.toNat) := by omega
                                                                                            have hne : ¬ a7_2 = 0 := by assumption
                                                                                            have ho : v34 = a7_2 := by rw [q34]; exact Int32.or_zero
                                                                                            refine Or.inr ⟨rfl, by rw [ho]; exact hne, ?_⟩
                                                                                            rw [hK2, zrm_s, ← hm, if_neg (by omega), if_neg hne, eP, ho]
                                                                                          · exfalso
                                                                                            rw [z32eq] at hmo
                                                                                            have c0 : (0 : Int32).toInt = 0 := by decide
                                                                                            omega) (by have qc0 : (0 : Int32).toInt = 0 := (by decide); omega)
          · skip
            have b39x : zB a7_2 0 0 := by have q1 := b7_2; have q2 := (zB.of (x := 0) 0 (by decide)); simp only [z32lt, z32le, z32eq, Int32.reduceToInt, Int32.toInt_zero] at h60_30; constructor <;> omega
            refine z_iconst (pc := 63) (v := 0) C dX10_readMarks_63 (by decide) ?_
            exact z_iret (pc := 64) C hr dX10_readMarks_64 ⟨⟨_, rfl, (zB.wk (a' := 0) (b' := 63) (zB.of (x := 0) 0 (by decide)) (by decide) (by decide))⟩, hI4, hF4, (by
                                                                                          intro v hv; cases hv
                                                                                          have hm : v5 = zch T n (zsp T n ((g7_ 25 0 17).toInt.toNat)) - 97 := by rw [q5, hv4]
                                                                                          rcases hR7_3 with ⟨hmo, h5, K, hK1, hK2⟩ | ⟨hmo, hK1, hK2⟩
                                                                                          · obtain ⟨K, rfl⟩ : ∃ K2, K = K2 + 1 := ⟨K - 1, by omega⟩
                                                                                            refine Or.inl ⟨zsp T n ((g7_ 25 0 17).toInt.toNat), ?_, hb4, hq4, rfl⟩
                                                                                            first
                                                                                              | (rw [hK2, zrm_s, ← hm, if_pos (by omega), if_pos (Or.inl (by omega))]; done)
                                                                                              | (rw [hK2, zrm_s, ← hm, if_neg (by omega), if_pos (by assumption)]; done)
                                                                                          · exfalso
                                                                                            rw [z32eq] at hmo
                                                                                            have c0 : (0 : Int32).toInt = 0 := by decide
                                                                                            omega)⟩
  have J0 := J 738
  show Z X 0 [some (zr 25 0), some (zi a1), none, none, none, none, none] [] f
  refine z_iconst (pc := 0) (v := 0) C dX10_readMarks_0 (by decide) ?_
  refine z_istore_n (pc := 1) C dX10_readMarks_1 (by rw [hn]; decide) rfl ?_
  refine z_iconst (pc := 2) (v := -1) C dX10_readMarks_2 (by decide) ?_
  refine z_istore_n (pc := 3) C dX10_readMarks_3 (by rw [hn]; decide) rfl ?_
  refine z_iconst (pc := 4) (v := 1) C dX10_readMarks_4 (by decide) ?_
  refine z_istore (pc := 5) C dX10_readMarks_5 (by rw [hn]; decide) rfl ?_
  exact J0 0 (zB.wk (a' := 0) (b' := 63) (zB.of (x := 0) 0 (by decide)) (by decide) (by decide)) (-1) (zB.wk (a' := (-98)) (b' := 158) (zB.of (x := (-1)) (-1) (by decide)) (by decide) (by decide)) 1 (zB.wk (a' := 0) (b' := 1) (zB.of (x := 1) 1 (by decide)) (by decide) (by decide)) f hI hF ct25_0_17 (by exact h18) (by exact hTp) (by rw [hp, nI_tt (by omega)]; exact hb) (by exact Or.inl ⟨rfl, by decide, 7, by decide, by rw [hp, nI_tt (by omega)]⟩) (by have qc0 : ((-1) : Int32).toInt = (-1) := (by decide); have qc1 : (0 : Int32).toInt = 0 := (by decide); have qc2 : (1 : Int32).toInt = 1 := (by decide); omega)
