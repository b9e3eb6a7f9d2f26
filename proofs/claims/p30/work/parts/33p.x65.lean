set_option maxRecDepth 100000 in
set_option maxHeartbeats 4000000 in
theorem x_X8_takeCrime (d : Nat) (f : zM) (pf1_0_5 : zB (f 1 0 5) 0 23) (hI : zInv f) : ZM (d + 2) yX8_takeCrime cX8_takeCrime 2 (some .int) [zr 1 0] f (fun r g => (∃ v, r = some (zi v) ∧ zB v 0 23) ∧ zInv g ∧ zFr [(1, some 5), (8, some 5), (8, some 6), (8, some 7), (9, none), (10, none)] f g ∧ (∀ v : Int32, r = some (zi v) → v = f 1 0 5) ∧ (∀ v : Int32, r = some (zi v) → g 1 0 5 = f 1 0 5 + 1) ∧ (∀ v : Int32, r = some (zi v) → g 1 1 5 = f 1 1 5) ∧ (∀ v : Int32, r = some (zi v) → (g 1 0 5).toInt = (f 1 0 5).toInt + 1) ∧ (∀ v : Int32, r = some (zi v) → (g 1 1 5).toInt = (f 1 1 5).toInt) ∧ (∀ v : Int32, r = some (zi v) → ∀ i : Nat, (i : Int) < (f 1 0 6).toInt → zLk f i (fun k j => f 7 k j) (f 1 0 5).toInt.toNat → zLk g i (fun k j => f 7 k j) ((f 1 0 5).toInt.toNat + 1))) := by
  refine ZM.intro (by decide +kernel) (Nat.le_of_ble_eq_true rfl) ?_
  intro X C hr hn
  have hF : zFr [(1, some 5), (8, some 5), (8, some 6), (8, some 7), (9, none), (10, none)] f f := zFr.rf _ _
  have ct1_1_5 : zB (f 1 1 5) 0 24 := hI 1 1 5
  have ct1_0_6 : zB (f 1 0 6) 0 8 := hI 1 0 6
  have J : ∀ t : Nat, (∀ a2_1 : Int32, zB a2_1 0 8 → ∀ g : zM, zInv g → zFr [(1, some 5), (8, some 5), (8, some 6), (8, some 7), (9, none), (10, none)] f g → zB (g 1 0 5) 0 23 → zB (g 1 0 6) 0 8 → zB (g 1 1 5) 0 24 → ((g 1 0 5).toInt = (f 1 0 5).toInt) → ((g 1 1 5).toInt = (f 1 1 5).toInt) → (∀ i, i < a2_1.toInt.toNat → zLk f i (fun k j => f 7 k j) (f 1 0 5).toInt.toNat → zLk g i (fun k j => f 7 k j) ((f 1 0 5).toInt.toNat + 1)) → (∀ i, a2_1.toInt.toNat ≤ i → (∀ j, g 8 i j = f 8 i j) ∧ (∀ j, g 9 i j = f 9 i j) ∧ (∀ j, g 10 i j = f 10 i j)) → ((g 1 0 6).toInt = (f 1 0 6).toInt) → (a2_1.toInt ≤ (f 1 0 6).toInt) → (0 + 3 * (8 - a2_1.toInt) : Int) < t → Z X 2 [some (zr 1 0), some (zi a2_1)] [] g) := by
    intro t
    induction t with
    | zero =>
      intros; exfalso; omega
    | succ t ih =>
      have ih0 := ih
      intro a2_1 b2_1 g2_ hI2_ hF2_ f2_1_0_5 f2_1_0_6 f2_1_1_5 hR2_0 hR2_1 hR2_2 hR2_3 hR2_4 hR2_5 hM2_
      refine z_iload_n (pc := 2) C dX8_takeCrime_2 rfl ?_
      refine z_aload_n (pc := 3) C dX8_takeCrime_3 rfl ?_
      refine z_getI (pc := 4) C zf_X8_54 rfl rfl (by decide) dX8_takeCrime_4 ?_
      refine w_gp (fun v => v = g2_ 1 0 6) rfl (fun v1 q1 => ?_)
      have e1 : v1.toInt = (g2_ 1 0 6).toInt := by rw [q1]
      have b1x : zB v1 0 8 := by first | exact zB.eqv e1 f2_1_0_6 | (have q9 := f2_1_0_6; constructor <;> omega)
      refine z_icmp_ge (pc := 7) 38 C dX8_takeCrime_7 (by decide) (fun h7_1 => ?_) (fun h7_1 => ?_)
      · skip
        have rr3 : a2_1.toInt ≥ v1.toInt := by simp only [z32lt, z32le, z32eq] at h7_1; omega
        refine z_aload_n (pc := 38) C dX8_takeCrime_38 rfl ?_
        refine z_dupr (pc := 39) C dX8_takeCrime_39 ?_
        refine z_getI (pc := 40) C zf_X8_46 rfl rfl (by decide) dX8_takeCrime_40 ?_
        refine w_gp (fun v => v = g2_ 1 0 5) rfl (fun v4 q4 => ?_)
        have e4 : v4.toInt = (g2_ 1 0 5).toInt := by rw [q4]
        have b4x : zB v4 0 23 := by first | exact zB.eqv e4 f2_1_0_5 | (have q9 := f2_1_0_5; constructor <;> omega)
        refine z_iconst (pc := 43) (v := 1) C dX8_takeCrime_43 (by decide) ?_
        refine z_iadd (pc := 44) C dX8_takeCrime_44 ?_
        refine w_gp (fun v => v = v4 + (1 : Int32)) rfl (fun v5 q5 => ?_)
        have e5 : v5.toInt = v4.toInt + 1 := by rw [q5]; exact (zadd_eb b4x (zB.of (x := 1) 1 (by decide)) (by decide) (by decide))
        have b5x : zB v5 1 24 := by have q1 := b4x; have q2 := (zB.of (x := 1) 1 (by decide)); constructor <;> omega
        refine z_putI (pc := 45) C zf_X8_46 zp_8_5 rfl rfl (by decide) dX8_takeCrime_45 ?_
        refine w_memx hI2_ hF2_ (zB.wk (a' := 0) (b' := 24) b5x (by decide) (by decide)) rfl (fun g6 qm6 hI6 hF6 hq6 hx6 => ?_)
        have ec6 : (g6 1 0 5).toInt = v5.toInt := by rw [hx6]
        have c6x : zB (g6 1 0 5) 1 24 := by first | exact zB.eqv ec6 b5x | (have q9 := b5x; constructor <;> omega)
        have ek6_1_1_5 : (g6 1 1 5).toInt = (g2_ 1 1 5).toInt := by rw [(show g6 1 1 5 = g2_ 1 1 5 by rw [qm6]; exact zup_ne _ _ (by omega))]
        have c6_1_1_5x : zB (g6 1 1 5) 0 24 := by rw [(show g6 1 1 5 = g2_ 1 1 5 by rw [qm6]; exact zup_ne _ _ (by omega))]; exact f2_1_1_5
        have ek6_1_0_6 : (g6 1 0 6).toInt = (g2_ 1 0 6).toInt := by rw [hq6 1 0 6 (by omega)]
        have c6_1_0_6x : zB (g6 1 0 6) 0 8 := by rw [hq6 1 0 6 (by omega)]; exact f2_1_0_6
        refine z_aload_n (pc := 48) C dX8_takeCrime_48 rfl ?_
        refine z_getI (pc := 49) C zf_X8_46 rfl rfl (by decide) dX8_takeCrime_49 ?_
        refine w_gp (fun v => v = g6 1 0 5) rfl (fun v7 q7 => ?_)
        have e7 : v7.toInt = (g6 1 0 5).toInt := by rw [q7]
        have b7x : zB v7 1 24 := by first | exact zB.eqv e7 c6x | (have q9 := c6x; constructor <;> omega)
        refine z_iconst (pc := 52) (v := 1) C dX8_takeCrime_52 (by decide) ?_
        refine z_isub (pc := 53) C dX8_takeCrime_53 ?_
        refine w_gp (fun v => v = v7 - (1 : Int32)) rfl (fun v8 q8 => ?_)
        have e8 : v8.toInt = v7.toInt - 1 := by rw [q8]; exact (zsub_eb b7x (zB.of (x := 1) 1 (by decide)) (by decide) (by decide))
        have b8x : zB v8 0 23 := by have q1 := b7x; have q2 := (zB.of (x := 1) 1 (by decide)); constructor <;> omega
        exact z_iret (pc := 54) C hr dX8_takeCrime_54 ⟨⟨_, rfl, b8x⟩, hI6, hF6, (by intro v hv; cases hv; rw [z32eq]; omega), (by
                                                                                          intro v hv; cases hv
                                                                                          have e1 : ((f 1 0 5) + 1 : Int32).toInt = (f 1 0 5).toInt + 1 := zadd_eb pf1_0_5 (zB.of (x := 1) 1 (by decide)) (by decide) (by decide)
                                                                                          rw [z32eq]
                                                                                          omega), (by intro v hv; cases hv; rw [z32eq]; omega), (by intro v hv; cases hv; omega), (by intro v hv; cases hv; omega), (by
                                                                                          intro v hv; cases hv
                                                                                          intro i hi hL
                                                                                          exact zLk_k (hR2_2 i (by omega) hL) (fun j _ => by rw [qm6]; exact zup_ne _ _ (by omega)) (fun l _ => by rw [qm6]; exact zup_ne _ _ (by omega)) (fun l _ => by rw [qm6]; exact zup_ne _ _ (by omega)))⟩
      · skip
        have rr9 : a2_1.toInt < v1.toInt := by simp only [z32lt, z32le, z32eq] at h7_1; omega
        have b10x : zB a2_1 0 7 := by have q1 := b2_1; have q2 := b1x; simp only [z32lt, z32le, z32eq, Int32.reduceToInt, Int32.toInt_zero] at h7_1; constructor <;> omega
        have b11x : zB v1 1 8 := by have q1 := b2_1; have q2 := b1x; simp only [z32lt, z32le, z32eq, Int32.reduceToInt, Int32.toInt_zero] at h7_1; constructor <;> omega
        have c12x : zB (g2_ 1 0 6) 1 8 := by first | assumption | (constructor <;> omega)
        refine z_aload_n (pc := 10) C dX8_takeCrime_10 rfl ?_
        refine z_getR (pc := 11) C zf_X8_19 rfl rfl (by decide) dX8_takeCrime_11 ?_
        refine z_iload_n (pc := 14) C dX8_takeCrime_14 rfl ?_
        refine z_aald (pc := 15) C rfl ⟨rfl, by decide⟩ (by decide) (zIx b10x (by decide) (by decide)) dX8_takeCrime_15 ?_
        refine w_grx (by have hq := zN b10x (by decide); show 8 * 0 + a2_1.toNatClampNeg < 16; omega) (fun m13 q13r h13x => ?_)
        have q13r : m13 = 8 * 0 + a2_1.toNatClampNeg := q13r
        have k13r : a2_1.toNatClampNeg = a2_1.toInt.toNat := rfl
        refine z_aload_n (pc := 16) C dX8_takeCrime_16 rfl ?_
        refine z_getI (pc := 17) C zf_X8_46 rfl rfl (by decide) dX8_takeCrime_17 ?_
        refine w_gp (fun v => v = g2_ 1 0 5) rfl (fun v14 q14 => ?_)
        have e14 : v14.toInt = (g2_ 1 0 5).toInt := by rw [q14]
        have b14x : zB v14 0 23 := by first | exact zB.eqv e14 f2_1_0_5 | (have q9 := f2_1_0_5; constructor <;> omega)
        refine z_aload_n (pc := 20) C dX8_takeCrime_20 rfl ?_
        refine z_getR (pc := 21) C zf_X8_11 rfl rfl (by decide) dX8_takeCrime_21 ?_
        refine z_aload_n (pc := 24) C dX8_takeCrime_24 rfl ?_
        refine z_getI (pc := 25) C zf_X8_46 rfl rfl (by decide) dX8_takeCrime_25 ?_
        refine w_gp (fun v => v = g2_ 1 0 5) rfl (fun v15 q15 => ?_)
        have e15 : v15.toInt = (g2_ 1 0 5).toInt := by rw [q15]
        have b15x : zB v15 0 23 := by first | exact zB.eqv e15 f2_1_0_5 | (have q9 := f2_1_0_5; constructor <;> omega)
        refine z_aald (pc := 28) C rfl ⟨rfl, by decide⟩ (by decide) (zIx b15x (by decide) (by decide)) dX8_takeCrime_28 ?_
        refine w_grx (by have hq := zN b15x (by decide); show 24 * 0 + v15.toNatClampNeg < 60; omega) (fun m16 q16r h16x => ?_)
        have q16r : m16 = 24 * 0 + v15.toNatClampNeg := q16r
        have k16r : v15.toNatClampNeg = v15.toInt.toNat := rfl
        refine z_callV (pc := 29) C zk_X8_88 (x_X1_learn _ _ m13 h13x v14 b14x m16 h16x hI2_) rfl rfl h13x rfl rfl (Nat.le_of_ble_eq_true rfl) dX8_takeCrime_29 (fun r17 g17 q17 => ?_)
        obtain ⟨rfl, hI17, hF17q, hp17_0, hp17_1⟩ := q17
        have hF17 := zFr.tr hF2_ hF17q (by decide)
        simp only [Option.toList, List.cons_append, List.nil_append]
        have ek17_1_0_5 : (g17 1 0 5).toInt = (g2_ 1 0 5).toInt := by rw [hF17q 1 0 5 rfl]
        have c17_1_0_5x : zB (g17 1 0 5) 0 23 := by rw [hF17q 1 0 5 rfl]; exact f2_1_0_5
        have ek17_1_1_5 : (g17 1 1 5).toInt = (g2_ 1 1 5).toInt := by rw [hF17q 1 1 5 rfl]
        have c17_1_1_5x : zB (g17 1 1 5) 0 24 := by rw [hF17q 1 1 5 rfl]; exact f2_1_1_5
        have ek17_1_0_6 : (g17 1 0 6).toInt = (g2_ 1 0 6).toInt := by rw [hF17q 1 0 6 rfl]
        have c17_1_0_6x : zB (g17 1 0 6) 1 8 := by rw [hF17q 1 0 6 rfl]; exact c12x
        refine z_iinc (pc := 32) (v := 1) C dX8_takeCrime_32 rfl (by decide) (by rw [hn]; decide) rfl ?_
        obtain ⟨v18, hv18, e18⟩ : ∃ v : Int32, v = a2_1 + 1 ∧ v.toInt = a2_1.toInt + 1 := ⟨_, rfl, zadd_eb b10x (zB.of (x := 1) 1 (by decide)) (by decide) (by decide)⟩
        rw [← hv18]
        have b18x : zB v18 1 8 := by have q9 := b10x; constructor <;> omega
        refine z_goto (pc := 35) 2 C dX8_takeCrime_35 (by decide) ?_
        exact ih0 v18 (zB.wk (a' := 0) (b' := 8) b18x (by decide) (by decide)) g17 hI17 hF17 c17_1_0_5x (zB.wk c17_1_0_6x (by decide) (by decide)) c17_1_1_5x (by omega) (by omega) (by
                                                                                          have hn : m13 = a2_1.toInt.toNat := by omega
                                                                                          have h1 := hp17_1
                                                                                          rw [hn] at h1
                                                                                          intro i hi hL
                                                                                          have hc : m16 = (f 1 0 5).toInt.toNat := by omega
                                                                                          have h := hp17_0
                                                                                          have e7 : g2_ 7 (f 1 0 5).toInt.toNat = f 7 (f 1 0 5).toInt.toNat := funext (fun j => hF2_ 7 _ j rfl)
                                                                                          have ev : v14 = nI (f 1 0 5).toInt.toNat := by
                                                                                            have e := (nI_ofI (x := v14) (by omega)).1
                                                                                            rw [e]; congr 1; omega
                                                                                          rw [hn, hc, e7, ev] at h
                                                                                          by_cases q : i = a2_1.toInt.toNat
                                                                                          · obtain ⟨e8, e9, e10⟩ := hR2_3 i (by omega)
                                                                                            rw [← q] at h
                                                                                            exact zLk_s (C := (fun k j => f 7 k j)) (zLk_k hL (fun j _ => e8 j) (fun l _ => e9 l) (fun l _ => e10 l)) h (hF17q 8 _ 0 rfl) (hF17q 8 _ 1 rfl)
                                                                                          · exact zLk_k (hR2_2 i (by omega) hL) (fun j _ => h1.1 i j q) (fun l _ => h1.2.1 i l q) (fun l _ => h1.2.2 i l q)) (by
                                                                                          have hn : m13 = a2_1.toInt.toNat := by omega
                                                                                          have h1 := hp17_1
                                                                                          rw [hn] at h1
                                                                                          intro i hi
                                                                                          obtain ⟨e8, e9, e10⟩ := hR2_3 i (by omega)
                                                                                          exact ⟨fun j => (h1.1 i j (by omega)).trans (e8 j), fun j => (h1.2.1 i j (by omega)).trans (e9 j), fun j => (h1.2.2 i j (by omega)).trans (e10 j)⟩) (by omega) (by omega) (by omega)
  have J0 := J 39
  show Z X 0 [some (zr 1 0), none] [] f
  refine z_iconst (pc := 0) (v := 0) C dX8_takeCrime_0 (by decide) ?_
  refine z_istore_n (pc := 1) C dX8_takeCrime_1 (by rw [hn]; decide) rfl ?_
  exact J0 0 (zB.wk (a' := 0) (b' := 8) (zB.of (x := 0) 0 (by decide)) (by decide) (by decide)) f hI hF pf1_0_5 ct1_0_6 ct1_1_5 (by have qc0 : (0 : Int32).toInt = 0 := (by decide); omega) (by have qc0 : (0 : Int32).toInt = 0 := (by decide); omega) (by intro i hi; exact absurd hi (Nat.not_lt_zero i)) (by exact fun i _ => ⟨fun _ => rfl, fun _ => rfl, fun _ => rfl⟩) (by have qc0 : (0 : Int32).toInt = 0 := (by decide); omega) (by have qc0 : (0 : Int32).toInt = 0 := (by decide); omega) (by have qc0 : (0 : Int32).toInt = 0 := (by decide); omega)

set_option maxRecDepth 100000 in
set_option maxHeartbeats 4000000 in
theorem x_X9_crime (d : Nat) (f : zM) (a1 : Int32) (b1 : zB a1 (-2147483648) 2147483647) (a2 : Int32) (b2 : zB a2 (-2147483648) 2147483647) (a3 : Int32) (b3 : zB a3 (-2147483648) 2147483647) (a4 : Int32) (b4 : zB a4 (-2147483648) 2147483647) (a5 : Int32) (b5 : zB a5 (-2147483648) 2147483647) (a6 : Int32) (b6 : zB a6 0 1) (hI : zInv f) : ZM (d + 3) yX9_crime cX9_crime 7 (some .int) [zr 0 0, zi a1, zi a2, zi a3, zi a4, zi a5, zi a6] f (fun r g => (∃ v, r = some (zi v) ∧ zB v (-3) 23) ∧ zInv g ∧ zFr [(1, some 5), (7, some 0), (7, some 1), (7, some 2), (7, some 3), (7, some 4), (7, some 5), (8, some 5), (8, some 6), (8, some 7), (9, none), (10, none)] f g ∧ (∀ v : Int32, r = some (zi v) → (¬ ((0 ≤ a1.toInt ∧ a1.toInt ≤ 5) ∧ (1 ≤ a2.toInt ∧ a2.toInt ≤ 63) ∧ (0 ≤ a3.toInt ∧ a3.toInt ≤ 63) ∧ a2 &&& a3 = 0 ∧ (1 ≤ a5.toInt ∧ a5.toInt ≤ 40) ∧ (0 ≤ a4.toInt ∧ a4.toInt ≤ a5.toInt)) ∧ v = -1 ∧ g = f) ∨ (((0 ≤ a1.toInt ∧ a1.toInt ≤ 5) ∧ (1 ≤ a2.toInt ∧ a2.toInt ≤ 63) ∧ (0 ≤ a3.toInt ∧ a3.toInt ≤ 63) ∧ a2 &&& a3 = 0 ∧ (1 ≤ a5.toInt ∧ a5.toInt ≤ 40) ∧ (0 ≤ a4.toInt ∧ a4.toInt ≤ a5.toInt)) ∧ 24 ≤ (f 1 0 5).toInt ∧ v = -3 ∧ g = f) ∨ (((0 ≤ a1.toInt ∧ a1.toInt ≤ 5) ∧ (1 ≤ a2.toInt ∧ a2.toInt ≤ 63) ∧ (0 ≤ a3.toInt ∧ a3.toInt ≤ 63) ∧ a2 &&& a3 = 0 ∧ (1 ≤ a5.toInt ∧ a5.toInt ≤ 40) ∧ (0 ≤ a4.toInt ∧ a4.toInt ≤ a5.toInt)) ∧ (f 1 0 5).toInt < 24 ∧ v = f 1 0 5 ∧ g 1 0 5 = f 1 0 5 + 1 ∧ (∀ j, j < 6 → g 7 (f 1 0 5).toInt.toNat j = zc6 a1 a2 a3 a4 a5 a6 j) ∧ (∀ i j, i ≠ (f 1 0 5).toInt.toNat → j < 6 → g 7 i j = f 7 i j) ∧ g 1 1 5 = f 1 1 5)) ∧ (∀ v : Int32, r = some (zi v) → zRl f → zRl g)) := by
  refine ZM.intro (by decide +kernel) (Nat.le_of_ble_eq_true rfl) ?_
  intro X C hr hn
  have hF : zFr [(1, some 5), (7, some 0), (7, some 1), (7, some 2), (7, some 3), (7, some 4), (7, some 5), (8, some 5), (8, some 6), (8, some 7), (9, none), (10, none)] f f := zFr.rf _ _
  have ct1_0_5 : zB (f 1 0 5) 0 24 := hI 1 0 5
  show Z X 0 [some (zr 0 0), some (zi a1), some (zi a2), some (zi a3), some (zi a4), some (zi a5), some (zi a6)] [] f
  refine z_iload_n (pc := 0) C dX9_crime_0 rfl ?_
  refine z_callSb (pc := 1) C zk_X9_46 (m_X9_isLand _ _ _) rfl rfl (Nat.le_of_ble_eq_true rfl) dX9_crime_1 (fun h1_0 => ?_) (fun h1_0 => ?_)
  · skip
    have b2x : zB a1 0 5 := h1_0
    refine z_if_eq (pc := 4) 59 C dX9_crime_4 (by decide) (fun h => absurd h (by decide)) (fun _ => ?_)
    refine z_iload_n (pc := 7) C dX9_crime_7 rfl ?_
    refine z_iconst (pc := 8) (v := 1) C dX9_crime_8 (by decide) ?_
    refine z_icmp_lt (pc := 9) 59 C dX9_crime_9 (by decide) (fun h9_2 => ?_) (fun h9_2 => ?_)
    · skip
      have b4x : zB a2 (-2147483648) 0 := by have q1 := b2; have q2 := (zB.of (x := 1) 1 (by decide)); simp only [z32lt, z32le, z32eq, Int32.reduceToInt, Int32.toInt_zero] at h9_2; constructor <;> omega
      refine z_iconst (pc := 59) (v := -1) C dX9_crime_59 (by decide) ?_
      exact z_iret (pc := 60) C hr dX9_crime_60 ⟨⟨_, rfl, (zB.wk (a' := (-3)) (b' := 23) (zB.of (x := (-1)) (-1) (by decide)) (by decide) (by decide))⟩, hI, hF, (by intro v hv; cases hv; exact Or.inl ⟨by omega, rfl, rfl⟩), (by intro v hv; cases hv; exact fun h => h)⟩
    · skip
      have b5x : zB a2 1 2147483647 := by have q1 := b2; have q2 := (zB.of (x := 1) 1 (by decide)); simp only [z32lt, z32le, z32eq, Int32.reduceToInt, Int32.toInt_zero] at h9_2; constructor <;> omega
      refine z_iload_n (pc := 12) C dX9_crime_12 rfl ?_
      refine z_bipush (pc := 13) (v := 63) C dX9_crime_13 (by decide) ?_
      refine z_icmp_gt (pc := 15) 59 C dX9_crime_15 (by decide) (fun h15_5 => ?_) (fun h15_5 => ?_)
      · skip
        have b7x : zB a2 64 2147483647 := by have q1 := b5x; have q2 := (zB.of (x := 63) 63 (by decide)); simp only [z32lt, z32le, z32eq, Int32.reduceToInt, Int32.toInt_zero] at h15_5; constructor <;> omega
        refine z_iconst (pc := 59) (v := -1) C dX9_crime_59 (by decide) ?_
        exact z_iret (pc := 60) C hr dX9_crime_60 ⟨⟨_, rfl, (zB.wk (a' := (-3)) (b' := 23) (zB.of (x := (-1)) (-1) (by decide)) (by decide) (by decide))⟩, hI, hF, (by intro v hv; cases hv; exact Or.inl ⟨by omega, rfl, rfl⟩), (by intro v hv; cases hv; exact fun h => h)⟩
      · skip
        have b8x : zB a2 1 63 := by have q1 := b5x; have q2 := (zB.of (x := 63) 63 (by decide)); simp only [z32lt, z32le, z32eq, Int32.reduceToInt, Int32.toInt_zero] at h15_5; constructor <;> omega
        refine z_iload_n (pc := 18) C dX9_crime_18 rfl ?_
        refine z_if_lt (pc := 19) 59 C dX9_crime_19 (by decide) (fun h19_8 => ?_) (fun h19_8 => ?_)
        · skip
          have b10x : zB a3 (-2147483648) (-1) := by have q1 := b3; have q2 := (zB.of (x := 0) 0 (by decide)); simp only [z32lt, z32le, z32eq, Int32.reduceToInt, Int32.toInt_zero] at h19_8; constructor <;> omega
          refine z_iconst (pc := 59) (v := -1) C dX9_crime_59 (by decide) ?_
          exact z_iret (pc := 60) C hr dX9_crime_60 ⟨⟨_, rfl, (zB.wk (a' := (-3)) (b' := 23) (zB.of (x := (-1)) (-1) (by decide)) (by decide) (by decide))⟩, hI, hF, (by intro v hv; cases hv; exact Or.inl ⟨by omega, rfl, rfl⟩), (by intro v hv; cases hv; exact fun h => h)⟩
        · skip
          have b11x : zB a3 0 2147483647 := by have q1 := b3; have q2 := (zB.of (x := 0) 0 (by decide)); simp only [z32lt, z32le, z32eq, Int32.reduceToInt, Int32.toInt_zero] at h19_8; constructor <;> omega
          refine z_iload_n (pc := 22) C dX9_crime_22 rfl ?_
          refine z_bipush (pc := 23) (v := 63) C dX9_crime_23 (by decide) ?_
          refine z_icmp_gt (pc := 25) 59 C dX9_crime_25 (by decide) (fun h25_11 => ?_) (fun h25_11 => ?_)
          · skip
            have b13x : zB a3 64 2147483647 := by have q1 := b11x; have q2 := (zB.of (x := 63) 63 (by decide)); simp only [z32lt, z32le, z32eq, Int32.reduceToInt, Int32.toInt_zero] at h25_11; constructor <;> omega
            refine z_iconst (pc := 59) (v := -1) C dX9_crime_59 (by decide) ?_
            exact z_iret (pc := 60) C hr dX9_crime_60 ⟨⟨_, rfl, (zB.wk (a' := (-3)) (b' := 23) (zB.of (x := (-1)) (-1) (by decide)) (by decide) (by decide))⟩, hI, hF, (by intro v hv; cases hv; exact Or.inl ⟨by omega, rfl, rfl⟩), (by intro v hv; cases hv; exact fun h => h)⟩
          · skip
            have b14x : zB a3 0 63 := by have q1 := b11x; have q2 := (zB.of (x := 63) 63 (by decide)); simp only [z32lt, z32le, z32eq, Int32.reduceToInt, Int32.toInt_zero] at h25_11; constructor <;> omega
            refine z_iload_n (pc := 28) C dX9_crime_28 rfl ?_
            refine z_iload_n (pc := 29) C dX9_crime_29 rfl ?_
            refine z_iand (pc := 30) C dX9_crime_30 ?_
            refine w_gp (fun v => v = a2 &&& a3) rfl (fun v15 q15 => ?_)
            have b15x : zB v15 0 63 := by rw [q15]; exact (zand_b b8x b14x (by decide))
            refine z_if_ne (pc := 31) 59 C dX9_crime_31 (by decide) (fun h31_15 => ?_) (fun h31_15 => ?_)
            · skip
              have b17x : zB v15 1 63 := by have q1 := b15x; have q2 := (zB.of (x := 0) 0 (by decide)); simp only [z32lt, z32le, z32eq, Int32.reduceToInt, Int32.toInt_zero] at h31_15; constructor <;> omega
              refine z_iconst (pc := 59) (v := -1) C dX9_crime_59 (by decide) ?_
              exact z_iret (pc := 60) C hr dX9_crime_60 ⟨⟨_, rfl, (zB.wk (a' := (-3)) (b' := 23) (zB.of (x := (-1)) (-1) (by decide)) (by decide) (by decide))⟩, hI, hF, (by
                                                                                          intro v hv; cases hv
                                                                                          refine Or.inl ⟨fun hG => ?_, rfl, rfl⟩
                                                                                          first
                                                                                            | omega
                                                                                            | exact absurd hG.2.2.2.1 (by rw [← q15]; assumption)), (by intro v hv; cases hv; exact fun h => h)⟩
            · skip
              have b18x : zB v15 0 0 := by have q1 := b15x; have q2 := (zB.of (x := 0) 0 (by decide)); simp only [z32lt, z32le, z32eq, Int32.reduceToInt, Int32.toInt_zero] at h31_15; constructor <;> omega
              refine z_iload (pc := 34) C dX9_crime_34 rfl ?_
              refine z_iconst (pc := 36) (v := 1) C dX9_crime_36 (by decide) ?_
              refine z_icmp_lt (pc := 37) 59 C dX9_crime_37 (by decide) (fun h37_18 => ?_) (fun h37_18 => ?_)
              · skip
                have b20x : zB a5 (-2147483648) 0 := by have q1 := b5; have q2 := (zB.of (x := 1) 1 (by decide)); simp only [z32lt, z32le, z32eq, Int32.reduceToInt, Int32.toInt_zero] at h37_18; constructor <;> omega
                refine z_iconst (pc := 59) (v := -1) C dX9_crime_59 (by decide) ?_
                exact z_iret (pc := 60) C hr dX9_crime_60 ⟨⟨_, rfl, (zB.wk (a' := (-3)) (b' := 23) (zB.of (x := (-1)) (-1) (by decide)) (by decide) (by decide))⟩, hI, hF, (by
                                                                                          intro v hv; cases hv
                                                                                          refine Or.inl ⟨fun hG => ?_, rfl, rfl⟩
                                                                                          first
                                                                                            | omega
                                                                                            | exact absurd hG.2.2.2.1 (by rw [← q15]; assumption)), (by intro v hv; cases hv; exact fun h => h)⟩
              · skip
                have b21x : zB a5 1 2147483647 := by have q1 := b5; have q2 := (zB.of (x := 1) 1 (by decide)); simp only [z32lt, z32le, z32eq, Int32.reduceToInt, Int32.toInt_zero] at h37_18; constructor <;> omega
                refine z_iload (pc := 40) C dX9_crime_40 rfl ?_
                refine z_bipush (pc := 42) (v := 40) C dX9_crime_42 (by decide) ?_
                refine z_icmp_gt (pc := 44) 59 C dX9_crime_44 (by decide) (fun h44_21 => ?_) (fun h44_21 => ?_)
                · skip
                  have b23x : zB a5 41 2147483647 := by have q1 := b21x; have q2 := (zB.of (x := 40) 40 (by decide)); simp only [z32lt, z32le, z32eq, Int32.reduceToInt, Int32.toInt_zero] at h44_21; constructor <;> omega
                  refine z_iconst (pc := 59) (v := -1) C dX9_crime_59 (by decide) ?_
                  exact z_iret (pc := 60) C hr dX9_crime_60 ⟨⟨_, rfl, (zB.wk (a' := (-3)) (b' := 23) (zB.of (x := (-1)) (-1) (by decide)) (by decide) (by decide))⟩, hI, hF, (by
                                                                                          intro v hv; cases hv
                                                                                          refine Or.inl ⟨fun hG => ?_, rfl, rfl⟩
                                                                                          first
                                                                                            | omega
                                                                                            | exact absurd hG.2.2.2.1 (by rw [← q15]; assumption)), (by intro v hv; cases hv; exact fun h => h)⟩
                · skip
                  have b24x : zB a5 1 40 := by have q1 := b21x; have q2 := (zB.of (x := 40) 40 (by decide)); simp only [z32lt, z32le, z32eq, Int32.reduceToInt, Int32.toInt_zero] at h44_21; constructor <;> omega
                  refine z_iload (pc := 47) C dX9_crime_47 rfl ?_
                  refine z_if_lt (pc := 49) 59 C dX9_crime_49 (by decide) (fun h49_24 => ?_) (fun h49_24 => ?_)
                  · skip
                    have b26x : zB a4 (-2147483648) (-1) := by have q1 := b4; have q2 := (zB.of (x := 0) 0 (by decide)); simp only [z32lt, z32le, z32eq, Int32.reduceToInt, Int32.toInt_zero] at h49_24; constructor <;> omega
                    refine z_iconst (pc := 59) (v := -1) C dX9_crime_59 (by decide) ?_
                    exact z_iret (pc := 60) C hr dX9_crime_60 ⟨⟨_, rfl, (zB.wk (a' := (-3)) (b' := 23) (zB.of (x := (-1)) (-1) (by decide)) (by decide) (by decide))⟩, hI, hF, (by
                                                                                          intro v hv; cases hv
                                                                                          refine Or.inl ⟨fun hG => ?_, rfl, rfl⟩
                                                                                          first
                                                                                            | omega
                                                                                            | exact absurd hG.2.2.2.1 (by rw [← q15]; assumption)), (by intro v hv; cases hv; exact fun h => h)⟩
                  · skip
                    have b27x : zB a4 0 2147483647 := by have q1 := b4; have q2 := (zB.of (x := 0) 0 (by decide)); simp only [z32lt, z32le, z32eq, Int32.reduceToInt, Int32.toInt_zero] at h49_24; constructor <;> omega
                    refine z_iload (pc := 52) C dX9_crime_52 rfl ?_
                    refine z_iload (pc := 54) C dX9_crime_54 rfl ?_
                    refine z_icmp_le (pc := 56) 61 C dX9_crime_56 (by decide) (fun h56_27 => ?_) (fun h56_27 => ?_)
                    · skip
                      have rr29 : a4.toInt ≤ a5.toInt := by simp only [z32lt, z32le, z32eq] at h56_27; omega
                      have b30x : zB a4 0 40 := by have q1 := b27x; have q2 := b24x; simp only [z32lt, z32le, z32eq, Int32.reduceToInt, Int32.toInt_zero] at h56_27; constructor <;> omega
                      refine z_aload_n (pc := 61) C dX9_crime_61 rfl ?_
                      refine z_getR (pc := 62) C zf_X9_10 rfl rfl (by decide) dX9_crime_62 ?_
                      refine z_getI (pc := 65) C zf_X9_50 rfl rfl (by decide) dX9_crime_65 ?_
                      refine w_gp (fun v => v = f 1 0 5) rfl (fun v31 q31 => ?_)
                      have e31 : v31.toInt = (f 1 0 5).toInt := by rw [q31]
                      have b31x : zB v31 0 24 := by first | exact zB.eqv e31 ct1_0_5 | (have q9 := ct1_0_5; constructor <;> omega)
                      refine z_bipush (pc := 68) (v := 24) C dX9_crime_68 (by decide) ?_
                      refine z_icmp_lt (pc := 70) 76 C dX9_crime_70 (by decide) (fun h70_31 => ?_) (fun h70_31 => ?_)
                      · skip
                        have b33x : zB v31 0 23 := by have q1 := b31x; have q2 := (zB.of (x := 24) 24 (by decide)); simp only [z32lt, z32le, z32eq, Int32.reduceToInt, Int32.toInt_zero] at h70_31; constructor <;> omega
                        have c34x : zB (f 1 0 5) 0 23 := by first | assumption | (constructor <;> omega)
                        refine z_aload_n (pc := 76) C dX9_crime_76 rfl ?_
                        refine z_getR (pc := 77) C zf_X9_10 rfl rfl (by decide) dX9_crime_77 ?_
                        refine z_getR (pc := 80) C zf_X9_54 rfl rfl (by decide) dX9_crime_80 ?_
                        refine z_aload_n (pc := 83) C dX9_crime_83 rfl ?_
                        refine z_getR (pc := 84) C zf_X9_10 rfl rfl (by decide) dX9_crime_84 ?_
                        refine z_getI (pc := 87) C zf_X9_50 rfl rfl (by decide) dX9_crime_87 ?_
                        refine w_gp (fun v => v = f 1 0 5) rfl (fun v35 q35 => ?_)
                        have e35 : v35.toInt = (f 1 0 5).toInt := by rw [q35]
                        have b35x : zB v35 0 23 := by first | exact zB.eqv e35 c34x | (have q9 := c34x; constructor <;> omega)
                        refine z_aald (pc := 90) C rfl ⟨rfl, by decide⟩ (by decide) (zIx b35x (by decide) (by decide)) dX9_crime_90 ?_
                        refine w_grx (by have hq := zN b35x (by decide); show 24 * 0 + v35.toNatClampNeg < 60; omega) (fun m36 q36r h36x => ?_)
                        have q36r : m36 = 24 * 0 + v35.toNatClampNeg := q36r
                        have k36r : v35.toNatClampNeg = v35.toInt.toNat := rfl
                        refine z_iload_n (pc := 91) C dX9_crime_91 rfl ?_
                        refine z_iload_n (pc := 92) C dX9_crime_92 rfl ?_
                        refine z_iload_n (pc := 93) C dX9_crime_93 rfl ?_
                        refine z_iload (pc := 94) C dX9_crime_94 rfl ?_
                        refine z_iload (pc := 96) C dX9_crime_96 rfl ?_
                        refine z_iload (pc := 98) C dX9_crime_98 rfl ?_
                        refine z_callV (pc := 100) C zk_X9_58 (x_X0_tell _ _ m36 h36x a1 b2x a2 (zB.wk (a' := 0) (b' := 63) b8x (by decide) (by decide)) a3 b14x a4 b30x a5 (zB.wk (a' := 0) (b' := 40) b24x (by decide) (by decide)) a6 b6 hI) rfl rfl h36x rfl rfl (Nat.le_of_ble_eq_true rfl) dX9_crime_100 (fun r37 g37 q37 => ?_)
                        obtain ⟨rfl, hI37, hF37q, hp37_0⟩ := q37
                        have hF37 := zFr.tr hF hF37q (by decide)
                        simp only [Option.toList, List.cons_append, List.nil_append]
                        have ek37_1_0_5 : (g37 1 0 5).toInt = (f 1 0 5).toInt := by rw [hF37q 1 0 5 rfl]
                        have c37_1_0_5x : zB (g37 1 0 5) 0 23 := by rw [hF37q 1 0 5 rfl]; exact c34x
                        refine z_aload_n (pc := 103) C dX9_crime_103 rfl ?_
                        refine z_getR (pc := 104) C zf_X9_10 rfl rfl (by decide) dX9_crime_104 ?_
                        refine z_callV (pc := 107) C zk_X9_64 (x_X8_takeCrime _ _ c37_1_0_5x hI37) rfl rfl (by decide) rfl rfl (Nat.le_of_ble_eq_true rfl) dX9_crime_107 (fun r38 g38 q38 => ?_)
                        obtain ⟨⟨v38, rfl, b38x⟩, hI38, hF38q, hp38_0, hp38_1, hp38_2, hp38_3, hp38_4, hp38_5⟩ := q38
                        have hp38_0 := hp38_0 _ rfl
                        have hp38_1 := hp38_1 _ rfl
                        have hp38_2 := hp38_2 _ rfl
                        have hp38_3 := hp38_3 _ rfl
                        have hp38_4 := hp38_4 _ rfl
                        have hp38_5 := hp38_5 _ rfl
                        have hF38 := zFr.tr hF37 hF38q (by decide)
                        simp only [Option.toList, List.cons_append, List.nil_append]
                        have cr38_1_0_5 : zB (g38 1 0 5) 0 24 := hI38 1 0 5
                        exact z_iret (pc := 110) C hr dX9_crime_110 ⟨⟨_, rfl, (zB.wk (a' := (-3)) (b' := 23) b38x (by decide) (by decide))⟩, hI38, hF38, (by
                                                                                          intro v hv; cases hv
                                                                                          have hg1 := hp37_0
                                                                                          have hv := hp38_0
                                                                                          have hm := hp38_1
                                                                                          have hm2 := hp38_2
                                                                                          have hF := hF38q
                                                                                          have hn : m36 = (f 1 0 5).toInt.toNat := by omega
                                                                                          rw [hn] at hg1
                                                                                          rw [hg1] at hF hm hv hm2
                                                                                          refine Or.inr (Or.inr ⟨⟨by assumption, by omega, by omega, by rw [← q15]; assumption, by omega, by omega⟩, by omega, ?_, ?_, ?_, ?_, ?_⟩)
                                                                                          · rw [hv]; rfl
                                                                                          · rw [hm]; rfl
                                                                                          · intro j hj
                                                                                            rw [hF 7 _ j rfl]
                                                                                            rcases (show j = 0 ∨ j = 1 ∨ j = 2 ∨ j = 3 ∨ j = 4 ∨ j = 5 by omega) with rfl | rfl | rfl | rfl | rfl | rfl <;> simp [zup, zc6]
                                                                                          · intro i j hi hj
                                                                                            rw [hF 7 i j rfl, zup_ne _ _ (by omega), zup_ne _ _ (by omega), zup_ne _ _ (by omega), zup_ne _ _ (by omega), zup_ne _ _ (by omega), zup_ne _ _ (by omega)]
                                                                                          · rw [hm2]; rfl), (by
                                                                                          intro v hv; cases hv
                                                                                          intro hL
                                                                                          have hg1 := hp37_0
                                                                                          have hn : m36 = (f 1 0 5).toInt.toNat := by omega
                                                                                          rw [hn] at hg1
                                                                                          exact zRl_add hI hL (hF37q 1 0 5 rfl) (hF37q 1 0 6 rfl) (fun k j hk hj => by rw [hg1, zup_ne _ _ (by omega), zup_ne _ _ (by omega), zup_ne _ _ (by omega), zup_ne _ _ (by omega), zup_ne _ _ (by omega), zup_ne _ _ (by omega)]) (fun n j => hF37q 8 n j rfl) (fun n j => hF37q 9 n j rfl) (fun n j => hF37q 10 n j rfl) hp38_5 hp38_3 (hF38q 1 0 6 rfl) (fun k j => hF38q 7 k j rfl))⟩
                      · skip
                        have b39x : zB v31 24 24 := by have q1 := b31x; have q2 := (zB.of (x := 24) 24 (by decide)); simp only [z32lt, z32le, z32eq, Int32.reduceToInt, Int32.toInt_zero] at h70_31; constructor <;> omega
                        have c40x : zB (f 1 0 5) 24 24 := by first | assumption | (constructor <;> omega)
                        refine z_bipush (pc := 73) (v := -3) C dX9_crime_73 (by decide) ?_
                        exact z_iret (pc := 75) C hr dX9_crime_75 ⟨⟨_, rfl, (zB.wk (a' := (-3)) (b' := 23) (zB.of (x := (-3)) (-3) (by decide)) (by decide) (by decide))⟩, hI, hF, (by intro v hv; cases hv; exact Or.inr (Or.inl ⟨⟨by assumption, by omega, by omega, by rw [← q15]; assumption, by omega, by omega⟩, by omega, rfl, rfl⟩)), (by intro v hv; cases hv; exact fun h => h)⟩
                    · skip
                      have rr41 : a4.toInt > a5.toInt := by simp only [z32lt, z32le, z32eq] at h56_27; omega
                      have b42x : zB a4 2 2147483647 := by have q1 := b27x; have q2 := b24x; simp only [z32lt, z32le, z32eq, Int32.reduceToInt, Int32.toInt_zero] at h56_27; constructor <;> omega
                      refine z_iconst (pc := 59) (v := -1) C dX9_crime_59 (by decide) ?_
                      exact z_iret (pc := 60) C hr dX9_crime_60 ⟨⟨_, rfl, (zB.wk (a' := (-3)) (b' := 23) (zB.of (x := (-1)) (-1) (by decide)) (by decide) (by decide))⟩, hI, hF, (by
                                                                                          intro v hv; cases hv
                                                                                          refine Or.inl ⟨fun hG => ?_, rfl, rfl⟩
                                                                                          first
                                                                                            | omega
                                                                                            | exact absurd hG.2.2.2.1 (by rw [← q15]; assumption)), (by intro v hv; cases hv; exact fun h => h)⟩
  · skip
    refine z_if_eq (pc := 4) 59 C dX9_crime_4 (by decide) (fun _ => ?_) (fun h => absurd (by decide) h)
    refine z_iconst (pc := 59) (v := -1) C dX9_crime_59 (by decide) ?_
    exact z_iret (pc := 60) C hr dX9_crime_60 ⟨⟨_, rfl, (zB.wk (a' := (-3)) (b' := 23) (zB.of (x := (-1)) (-1) (by decide)) (by decide) (by decide))⟩, hI, hF, (by intro v hv; cases hv; exact Or.inl ⟨by omega, rfl, rfl⟩), (by intro v hv; cases hv; exact fun h => h)⟩

set_option maxRecDepth 100000 in
set_option maxHeartbeats 4000000 in
theorem x_X10_addCrime (d : Nat) (f : zM) (a1 : Int32) (b1 : zB a1 0 5) (a2 : Int32) (b2 : zB a2 0 63) (a3 : Int32) (b3 : zB a3 0 63) (a4 : Int32) (b4 : zB a4 0 40) (a5 : Int32) (b5 : zB a5 0 40) (a6 : Int32) (b6 : zB a6 0 1) (pf25_0_0 : zB (f 25 0 0) 0 23) (hI : zInv f) : ZM d yX10_addCrime cX10_addCrime 8 none [zr 25 0, zi a1, zi a2, zi a3, zi a4, zi a5, zi a6] f (fun r g => r = none ∧ zInv g ∧ zFr [(25, some 0), (26, none)] f g ∧ ((g 25 0 0).toInt = (f 25 0 0).toInt + 1) ∧ (g 25 0 0 = f 25 0 0 + 1) ∧ ((∀ j, j < 6 → g 26 0 (6 * (f 25 0 0).toInt.toNat + j) = zc6 a1 a2 a3 a4 a5 a6 j) ∧ (∀ q, (q < 6 * (f 25 0 0).toInt.toNat ∨ 6 * (f 25 0 0).toInt.toNat + 6 ≤ q) → g 26 0 q = f 26 0 q))) := by
  refine ZM.intro (by decide +kernel) (Nat.le_of_ble_eq_true rfl) ?_
  intro X C hr hn
  have hF : zFr [(25, some 0), (26, none)] f f := zFr.rf _ _
  show Z X 0 [some (zr 25 0), some (zi a1), some (zi a2), some (zi a3), some (zi a4), some (zi a5), some (zi a6), none] [] f
  refine z_bipush (pc := 0) (v := 6) C dX10_addCrime_0 (by decide) ?_
  refine z_aload_n (pc := 2) C dX10_addCrime_2 rfl ?_
  refine z_getI (pc := 3) C zf_X10_80 rfl rfl (by decide) dX10_addCrime_3 ?_
  refine w_gp (fun v => v = f 25 0 0) rfl (fun v1 q1 => ?_)
  have e1 : v1.toInt = (f 25 0 0).toInt := by rw [q1]
  have b1x : zB v1 0 23 := by first | exact zB.eqv e1 pf25_0_0 | (have q9 := pf25_0_0; constructor <;> omega)
  refine z_imul (pc := 6) C dX10_addCrime_6 ?_
  refine w_gp (fun v => v = (6 : Int32) * v1) rfl (fun v2 q2 => ?_)
  have e2 : v2.toInt = 6 * v1.toInt := by rw [q2]; exact (zmul_kb 6 (by decide) (by decide) b1x (by decide) (by decide))
  have b2x : zB v2 0 138 := zmul_bb e2 (by decide) b1x
  refine z_istore (pc := 7) C dX10_addCrime_7 (by rw [hn]; decide) rfl ?_
  refine z_aload_n (pc := 9) C dX10_addCrime_9 rfl ?_
  refine z_getR (pc := 10) C zf_X10_7 rfl rfl (by decide) dX10_addCrime_10 ?_
  refine z_iload (pc := 13) C dX10_addCrime_13 rfl ?_
  refine z_iload_n (pc := 15) C dX10_addCrime_15 rfl ?_
  have kw16_2 : v2.toNatClampNeg = v2.toInt.toNat := rfl
  refine z_iast (pc := 16) C rfl (by decide) (zIx b2x (by decide) (by decide)) dX10_addCrime_16 ?_
  refine w_memx hI hF (by rw [zrg26 (r := 0) (by have hq : v2.toNatClampNeg = v2.toInt.toNat := rfl; have hq2 := b2x; omega)]; exact b1) rfl (fun g3 qm3 hI3 hF3 hq3 hx3 => ?_)
  have ek3_25_0_0 : (g3 25 0 0).toInt = (f 25 0 0).toInt := by rw [hq3 25 0 0 (by omega)]
  have c3_25_0_0x : zB (g3 25 0 0) 0 23 := by rw [hq3 25 0 0 (by omega)]; exact pf25_0_0
  refine z_aload_n (pc := 17) C dX10_addCrime_17 rfl ?_
  refine z_getR (pc := 18) C zf_X10_7 rfl rfl (by decide) dX10_addCrime_18 ?_
  refine z_iload (pc := 21) C dX10_addCrime_21 rfl ?_
  refine z_iconst (pc := 23) (v := 1) C dX10_addCrime_23 (by decide) ?_
  refine z_iadd (pc := 24) C dX10_addCrime_24 ?_
  refine w_gp (fun v => v = v2 + (1 : Int32)) rfl (fun v4 q4 => ?_)
  have e4 : v4.toInt = v2.toInt + 1 := by rw [q4]; exact (zadd_eb b2x (zB.of (x := 1) 1 (by decide)) (by decide) (by decide))
  have b4x : zB v4 1 139 := by have q1 := b2x; have q2 := (zB.of (x := 1) 1 (by decide)); constructor <;> omega
  refine z_iload_n (pc := 25) C dX10_addCrime_25 rfl ?_
  have kw26_4 : v4.toNatClampNeg = v4.toInt.toNat := rfl
  refine z_iast (pc := 26) C rfl (by decide) (zIx b4x (by decide) (by decide)) dX10_addCrime_26 ?_
  refine w_memx hI3 hF3 (by rw [zrg26 (r := 1) (by have hq : v4.toNatClampNeg = v4.toInt.toNat := rfl; have hq2 := b4x; omega)]; exact b2) rfl (fun g5 qm5 hI5 hF5 hq5 hx5 => ?_)
  have ek5_25_0_0 : (g5 25 0 0).toInt = (g3 25 0 0).toInt := by rw [hq5 25 0 0 (by omega)]
  have c5_25_0_0x : zB (g5 25 0 0) 0 23 := by rw [hq5 25 0 0 (by omega)]; exact c3_25_0_0x
  refine z_aload_n (pc := 27) C dX10_addCrime_27 rfl ?_
  refine z_getR (pc := 28) C zf_X10_7 rfl rfl (by decide) dX10_addCrime_28 ?_
  refine z_iload (pc := 31) C dX10_addCrime_31 rfl ?_
  refine z_iconst (pc := 33) (v := 2) C dX10_addCrime_33 (by decide) ?_
  refine z_iadd (pc := 34) C dX10_addCrime_34 ?_
  refine w_gp (fun v => v = v2 + (2 : Int32)) rfl (fun v6 q6 => ?_)
  have e6 : v6.toInt = v2.toInt + 2 := by rw [q6]; exact (zadd_eb b2x (zB.of (x := 2) 2 (by decide)) (by decide) (by decide))
  have b6x : zB v6 2 140 := by have q1 := b2x; have q2 := (zB.of (x := 2) 2 (by decide)); constructor <;> omega
  refine z_iload_n (pc := 35) C dX10_addCrime_35 rfl ?_
  have kw36_6 : v6.toNatClampNeg = v6.toInt.toNat := rfl
  refine z_iast (pc := 36) C rfl (by decide) (zIx b6x (by decide) (by decide)) dX10_addCrime_36 ?_
  refine w_memx hI5 hF5 (by rw [zrg26 (r := 2) (by have hq : v6.toNatClampNeg = v6.toInt.toNat := rfl; have hq2 := b6x; omega)]; exact b3) rfl (fun g7 qm7 hI7 hF7 hq7 hx7 => ?_)
  have ek7_25_0_0 : (g7 25 0 0).toInt = (g5 25 0 0).toInt := by rw [hq7 25 0 0 (by omega)]
  have c7_25_0_0x : zB (g7 25 0 0) 0 23 := by rw [hq7 25 0 0 (by omega)]; exact c5_25_0_0x
  refine z_aload_n (pc := 37) C dX10_addCrime_37 rfl ?_
  refine z_getR (pc := 38) C zf_X10_7 rfl rfl (by decide) dX10_addCrime_38 ?_
  refine z_iload (pc := 41) C dX10_addCrime_41 rfl ?_
  refine z_iconst (pc := 43) (v := 3) C dX10_addCrime_43 (by decide) ?_
  refine z_iadd (pc := 44) C dX10_addCrime_44 ?_
  refine w_gp (fun v => v = v2 + (3 : Int32)) rfl (fun v8 q8 => ?_)
  have e8 : v8.toInt = v2.toInt + 3 := by rw [q8]; exact (zadd_eb b2x (zB.of (x := 3) 3 (by decide)) (by decide) (by decide))
  have b8x : zB v8 3 141 := by have q1 := b2x; have q2 := (zB.of (x := 3) 3 (by decide)); constructor <;> omega
  refine z_iload (pc := 45) C dX10_addCrime_45 rfl ?_
  have kw47_8 : v8.toNatClampNeg = v8.toInt.toNat := rfl
  refine z_iast (pc := 47) C rfl (by decide) (zIx b8x (by decide) (by decide)) dX10_addCrime_47 ?_
  refine w_memx hI7 hF7 (by rw [zrg26 (r := 3) (by have hq : v8.toNatClampNeg = v8.toInt.toNat := rfl; have hq2 := b8x; omega)]; exact b4) rfl (fun g9 qm9 hI9 hF9 hq9 hx9 => ?_)
  have ek9_25_0_0 : (g9 25 0 0).toInt = (g7 25 0 0).toInt := by rw [hq9 25 0 0 (by omega)]
  have c9_25_0_0x : zB (g9 25 0 0) 0 23 := by rw [hq9 25 0 0 (by omega)]; exact c7_25_0_0x
  refine z_aload_n (pc := 48) C dX10_addCrime_48 rfl ?_
  refine z_getR (pc := 49) C zf_X10_7 rfl rfl (by decide) dX10_addCrime_49 ?_
  refine z_iload (pc := 52) C dX10_addCrime_52 rfl ?_
  refine z_iconst (pc := 54) (v := 4) C dX10_addCrime_54 (by decide) ?_
  refine z_iadd (pc := 55) C dX10_addCrime_55 ?_
  refine w_gp (fun v => v = v2 + (4 : Int32)) rfl (fun v10 q10 => ?_)
  have e10 : v10.toInt = v2.toInt + 4 := by rw [q10]; exact (zadd_eb b2x (zB.of (x := 4) 4 (by decide)) (by decide) (by decide))
  have b10x : zB v10 4 142 := by have q1 := b2x; have q2 := (zB.of (x := 4) 4 (by decide)); constructor <;> omega
  refine z_iload (pc := 56) C dX10_addCrime_56 rfl ?_
  have kw58_10 : v10.toNatClampNeg = v10.toInt.toNat := rfl
  refine z_iast (pc := 58) C rfl (by decide) (zIx b10x (by decide) (by decide)) dX10_addCrime_58 ?_
  refine w_memx hI9 hF9 (by rw [zrg26 (r := 4) (by have hq : v10.toNatClampNeg = v10.toInt.toNat := rfl; have hq2 := b10x; omega)]; exact b5) rfl (fun g11 qm11 hI11 hF11 hq11 hx11 => ?_)
  have ek11_25_0_0 : (g11 25 0 0).toInt = (g9 25 0 0).toInt := by rw [hq11 25 0 0 (by omega)]
  have c11_25_0_0x : zB (g11 25 0 0) 0 23 := by rw [hq11 25 0 0 (by omega)]; exact c9_25_0_0x
  refine z_aload_n (pc := 59) C dX10_addCrime_59 rfl ?_
  refine z_getR (pc := 60) C zf_X10_7 rfl rfl (by decide) dX10_addCrime_60 ?_
  refine z_iload (pc := 63) C dX10_addCrime_63 rfl ?_
  refine z_iconst (pc := 65) (v := 5) C dX10_addCrime_65 (by decide) ?_
  refine z_iadd (pc := 66) C dX10_addCrime_66 ?_
  refine w_gp (fun v => v = v2 + (5 : Int32)) rfl (fun v12 q12 => ?_)
  have e12 : v12.toInt = v2.toInt + 5 := by rw [q12]; exact (zadd_eb b2x (zB.of (x := 5) 5 (by decide)) (by decide) (by decide))
  have b12x : zB v12 5 143 := by have q1 := b2x; have q2 := (zB.of (x := 5) 5 (by decide)); constructor <;> omega
  refine z_iload (pc := 67) C dX10_addCrime_67 rfl ?_
  have kw69_12 : v12.toNatClampNeg = v12.toInt.toNat := rfl
  refine z_iast (pc := 69) C rfl (by decide) (zIx b12x (by decide) (by decide)) dX10_addCrime_69 ?_
  refine w_memx hI11 hF11 (by rw [zrg26 (r := 5) (by have hq : v12.toNatClampNeg = v12.toInt.toNat := rfl; have hq2 := b12x; omega)]; exact b6) rfl (fun g13 qm13 hI13 hF13 hq13 hx13 => ?_)
  have ek13_25_0_0 : (g13 25 0 0).toInt = (g11 25 0 0).toInt := by rw [hq13 25 0 0 (by omega)]
  have c13_25_0_0x : zB (g13 25 0 0) 0 23 := by rw [hq13 25 0 0 (by omega)]; exact c11_25_0_0x
  refine z_aload_n (pc := 70) C dX10_addCrime_70 rfl ?_
  refine z_dupr (pc := 71) C dX10_addCrime_71 ?_
  refine z_getI (pc := 72) C zf_X10_80 rfl rfl (by decide) dX10_addCrime_72 ?_
  refine w_gp (fun v => v = g13 25 0 0) rfl (fun v14 q14 => ?_)
  have e14 : v14.toInt = (g13 25 0 0).toInt := by rw [q14]
  have b14x : zB v14 0 23 := by first | exact zB.eqv e14 c13_25_0_0x | (have q9 := c13_25_0_0x; constructor <;> omega)
  refine z_iconst (pc := 75) (v := 1) C dX10_addCrime_75 (by decide) ?_
  refine z_iadd (pc := 76) C dX10_addCrime_76 ?_
  refine w_gp (fun v => v = v14 + (1 : Int32)) rfl (fun v15 q15 => ?_)
  have e15 : v15.toInt = v14.toInt + 1 := by rw [q15]; exact (zadd_eb b14x (zB.of (x := 1) 1 (by decide)) (by decide) (by decide))
  have b15x : zB v15 1 24 := by have q1 := b14x; have q2 := (zB.of (x := 1) 1 (by decide)); constructor <;> omega
  refine z_putI (pc := 77) C zf_X10_80 zp_10_0 rfl rfl (by decide) dX10_addCrime_77 ?_
  refine w_memx hI13 hF13 (zB.wk (a' := 0) (b' := 24) b15x (by decide) (by decide)) rfl (fun g16 qm16 hI16 hF16 hq16 hx16 => ?_)
  have ec16 : (g16 25 0 0).toInt = v15.toInt := by rw [hx16]
  have c16x : zB (g16 25 0 0) 1 24 := by first | exact zB.eqv ec16 b15x | (have q9 := b15x; constructor <;> omega)
  exact z_vret (pc := 80) C hr dX10_addCrime_80 ⟨rfl, hI16, hF16, (by omega), (by
                                                                                          have e1 : ((f 25 0 0) + 1 : Int32).toInt = (f 25 0 0).toInt + 1 := zadd_eb pf25_0_0 (zB.of (x := 1) 1 (by decide)) (by decide) (by decide)
                                                                                          rw [z32eq]
                                                                                          omega), (by
                                                                                          have hr := zrow6 (k := 26) (K := 6 * (f 25 0 0).toInt.toNat) qm3 qm5 qm7 qm9 qm11 qm13 (show (v2).toNatClampNeg = 6 * (f 25 0 0).toInt.toNat + 0 by omega) (show (v4).toNatClampNeg = 6 * (f 25 0 0).toInt.toNat + 1 by omega) (show (v6).toNatClampNeg = 6 * (f 25 0 0).toInt.toNat + 2 by omega) (show (v8).toNatClampNeg = 6 * (f 25 0 0).toInt.toNat + 3 by omega) (show (v10).toNatClampNeg = 6 * (f 25 0 0).toInt.toNat + 4 by omega) (show (v12).toNatClampNeg = 6 * (f 25 0 0).toInt.toNat + 5 by omega)
                                                                                          refine ⟨fun j hj => ?_, fun q hq => ?_⟩
                                                                                          · rw [qm16, zup_ne _ _ (fun h => absurd h.1 (by decide))]; exact hr.1 j hj
                                                                                          · rw [qm16, zup_ne _ _ (fun h => absurd h.1 (by decide))]; exact hr.2 q hq)⟩

set_option maxRecDepth 100000 in
set_option maxHeartbeats 4000000 in
theorem x_X10_crime (d : Nat) (f : zM) (a1 : Int32) (b1 : zB a1 (-2147483648) 2147483647) (a2 : Int32) (b2 : zB a2 (-2147483648) 2147483647) (a3 : Int32) (b3 : zB a3 (-2147483648) 2147483647) (a4 : Int32) (b4 : zB a4 (-2147483648) 2147483647) (a5 : Int32) (b5 : zB a5 (-2147483648) 2147483647) (a6 : Int32) (b6 : zB a6 0 1) (hI : zInv f) : ZM (d + 2) yX10_crime cX10_crime 7 (some .int) [zr 25 0, zi a1, zi a2, zi a3, zi a4, zi a5, zi a6] f (fun r g => (∃ v, r = some (zi v) ∧ zB v (-3) 23) ∧ zInv g ∧ zFr [(25, some 0), (26, none)] f g ∧ (∀ v : Int32, r = some (zi v) → (¬ ((0 ≤ a1.toInt ∧ a1.toInt ≤ 5) ∧ (1 ≤ a2.toInt ∧ a2.toInt ≤ 63) ∧ (0 ≤ a3.toInt ∧ a3.toInt ≤ 63) ∧ a2 &&& a3 = 0 ∧ (1 ≤ a5.toInt ∧ a5.toInt ≤ 40) ∧ (0 ≤ a4.toInt ∧ a4.toInt ≤ a5.toInt)) ∧ v = -1 ∧ g = f) ∨ (((0 ≤ a1.toInt ∧ a1.toInt ≤ 5) ∧ (1 ≤ a2.toInt ∧ a2.toInt ≤ 63) ∧ (0 ≤ a3.toInt ∧ a3.toInt ≤ 63) ∧ a2 &&& a3 = 0 ∧ (1 ≤ a5.toInt ∧ a5.toInt ≤ 40) ∧ (0 ≤ a4.toInt ∧ a4.toInt ≤ a5.toInt)) ∧ 24 ≤ (f 25 0 0).toInt ∧ v = -3 ∧ g = f) ∨ (((0 ≤ a1.toInt ∧ a1.toInt ≤ 5) ∧ (1 ≤ a2.toInt ∧ a2.toInt ≤ 63) ∧ (0 ≤ a3.toInt ∧ a3.toInt ≤ 63) ∧ a2 &&& a3 = 0 ∧ (1 ≤ a5.toInt ∧ a5.toInt ≤ 40) ∧ (0 ≤ a4.toInt ∧ a4.toInt ≤ a5.toInt)) ∧ (f 25 0 0).toInt < 24 ∧ v = f 25 0 0 ∧ g 25 0 0 = f 25 0 0 + 1 ∧ (∀ j, j < 6 → g 26 0 (6 * (f 25 0 0).toInt.toNat + j) = zc6 a1 a2 a3 a4 a5 a6 j) ∧ (∀ q, (q < 6 * (f 25 0 0).toInt.toNat ∨ 6 * (f 25 0 0).toInt.toNat + 6 ≤ q) → g 26 0 q = f 26 0 q)))) := by
  refine ZM.intro (by decide +kernel) (Nat.le_of_ble_eq_true rfl) ?_
  intro X C hr hn
  have hF : zFr [(25, some 0), (26, none)] f f := zFr.rf _ _
  have ct25_0_0 : zB (f 25 0 0) 0 24 := hI 25 0 0
  show Z X 0 [some (zr 25 0), some (zi a1), some (zi a2), some (zi a3), some (zi a4), some (zi a5), some (zi a6)] [] f
  refine z_iload_n (pc := 0) C dX10_crime_0 rfl ?_
  refine z_callSb (pc := 1) C zk_X10_83 (m_X10_isLand _ _ _) rfl rfl (Nat.le_of_ble_eq_true rfl) dX10_crime_1 (fun h1_0 => ?_) (fun h1_0 => ?_)
  · skip
    have b2x : zB a1 0 5 := h1_0
    refine z_if_eq (pc := 4) 63 C dX10_crime_4 (by decide) (fun h => absurd h (by decide)) (fun _ => ?_)
    refine z_iload_n (pc := 7) C dX10_crime_7 rfl ?_
    refine z_i2l (pc := 8) C dX10_crime_8 ?_
    refine z_lconst (pc := 9) (v := 1) C dX10_crime_9 (by decide) ?_
    refine z_ldc2 (pc := 10) C zw_1127 dX10_crime_10 ?_
    refine z_callSb (pc := 13) C zk_X10_69 (m_X10_in _ _ _ _ _) rfl rfl (Nat.le_of_ble_eq_true rfl) dX10_crime_13 (fun h13_2 => ?_) (fun h13_2 => ?_)
    · skip
      have hc13_1 : (1 ≤ a2.toInt ∧ a2.toInt ≤ 63) := by have q9 := h13_2; simp only [z64] at q9; exact q9
      have b4x : zB a2 1 63 := zin64 h13_2 rfl rfl
      refine z_if_eq (pc := 16) 63 C dX10_crime_16 (by decide) (fun h => absurd h (by decide)) (fun _ => ?_)
      refine z_iload_n (pc := 19) C dX10_crime_19 rfl ?_
      refine z_i2l (pc := 20) C dX10_crime_20 ?_
      refine z_lconst (pc := 21) (v := 0) C dX10_crime_21 (by decide) ?_
      refine z_ldc2 (pc := 22) C zw_1127 dX10_crime_22 ?_
      refine z_callSb (pc := 25) C zk_X10_69 (m_X10_in _ _ _ _ _) rfl rfl (Nat.le_of_ble_eq_true rfl) dX10_crime_25 (fun h25_4 => ?_) (fun h25_4 => ?_)
      · skip
        have hc25_1 : (0 ≤ a3.toInt ∧ a3.toInt ≤ 63) := by have q9 := h25_4; simp only [z64] at q9; exact q9
        have b6x : zB a3 0 63 := zin64 h25_4 rfl rfl
        refine z_if_eq (pc := 28) 63 C dX10_crime_28 (by decide) (fun h => absurd h (by decide)) (fun _ => ?_)
        refine z_iload_n (pc := 31) C dX10_crime_31 rfl ?_
        refine z_iload_n (pc := 32) C dX10_crime_32 rfl ?_
        refine z_iand (pc := 33) C dX10_crime_33 ?_
        refine w_gp (fun v => v = a2 &&& a3) rfl (fun v7 q7 => ?_)
        have b7x : zB v7 0 63 := by rw [q7]; exact (zand_b b4x b6x (by decide))
        refine z_if_ne (pc := 34) 63 C dX10_crime_34 (by decide) (fun h34_7 => ?_) (fun h34_7 => ?_)
        · skip
          have b9x : zB v7 1 63 := by have q1 := b7x; have q2 := (zB.of (x := 0) 0 (by decide)); simp only [z32lt, z32le, z32eq, Int32.reduceToInt, Int32.toInt_zero] at h34_7; constructor <;> omega
          refine z_iconst (pc := 63) (v := -1) C dX10_crime_63 (by decide) ?_
          exact z_iret (pc := 64) C hr dX10_crime_64 ⟨⟨_, rfl, (zB.wk (a' := (-3)) (b' := 23) (zB.of (x := (-1)) (-1) (by decide)) (by decide) (by decide))⟩, hI, hF, (by
                                                                                          intro v hv; cases hv
                                                                                          refine Or.inl ⟨fun hG => ?_, rfl, rfl⟩
                                                                                          first
                                                                                            | omega
                                                                                            | exact absurd hG.2.2.2.1 (by rw [← q7]; assumption))⟩
        · skip
          have b10x : zB v7 0 0 := by have q1 := b7x; have q2 := (zB.of (x := 0) 0 (by decide)); simp only [z32lt, z32le, z32eq, Int32.reduceToInt, Int32.toInt_zero] at h34_7; constructor <;> omega
          refine z_iload (pc := 37) C dX10_crime_37 rfl ?_
          refine z_i2l (pc := 39) C dX10_crime_39 ?_
          refine z_lconst (pc := 40) (v := 1) C dX10_crime_40 (by decide) ?_
          refine z_ldc2 (pc := 41) C zw_1128 dX10_crime_41 ?_
          refine z_callSb (pc := 44) C zk_X10_69 (m_X10_in _ _ _ _ _) rfl rfl (Nat.le_of_ble_eq_true rfl) dX10_crime_44 (fun h44_10 => ?_) (fun h44_10 => ?_)
          · skip
            have hc44_1 : (1 ≤ a5.toInt ∧ a5.toInt ≤ 40) := by have q9 := h44_10; simp only [z64] at q9; exact q9
            have b12x : zB a5 1 40 := zin64 h44_10 rfl rfl
            refine z_if_eq (pc := 47) 63 C dX10_crime_47 (by decide) (fun h => absurd h (by decide)) (fun _ => ?_)
            refine z_iload (pc := 50) C dX10_crime_50 rfl ?_
            refine z_i2l (pc := 52) C dX10_crime_52 ?_
            refine z_lconst (pc := 53) (v := 0) C dX10_crime_53 (by decide) ?_
            refine z_iload (pc := 54) C dX10_crime_54 rfl ?_
            refine z_i2l (pc := 56) C dX10_crime_56 ?_
            refine z_callSb (pc := 57) C zk_X10_69 (m_X10_in _ _ _ _ _) rfl rfl (Nat.le_of_ble_eq_true rfl) dX10_crime_57 (fun h57_12 => ?_) (fun h57_12 => ?_)
            · skip
              have hc57_1 : (0 ≤ a4.toInt ∧ a4.toInt ≤ a5.toInt) := by have q9 := h57_12; simp only [z64] at q9; exact q9
              have b14x : zB a4 0 40 := zin64v h57_12 rfl b12x
              have b14xr := zin64r h57_12
              refine z_if_ne (pc := 60) 65 C dX10_crime_60 (by decide) (fun _ => ?_) (fun h => absurd h (by decide))
              refine z_aload_n (pc := 65) C dX10_crime_65 rfl ?_
              refine z_getI (pc := 66) C zf_X10_80 rfl rfl (by decide) dX10_crime_66 ?_
              refine w_gp (fun v => v = f 25 0 0) rfl (fun v15 q15 => ?_)
              have e15 : v15.toInt = (f 25 0 0).toInt := by rw [q15]
              have b15x : zB v15 0 24 := by first | exact zB.eqv e15 ct25_0_0 | (have q9 := ct25_0_0; constructor <;> omega)
              refine z_bipush (pc := 69) (v := 24) C dX10_crime_69 (by decide) ?_
              refine z_icmp_ne (pc := 71) 77 C dX10_crime_71 (by decide) (fun h71_15 => ?_) (fun h71_15 => ?_)
              · skip
                have b17x : zB v15 0 23 := by have q1 := b15x; have q2 := (zB.of (x := 24) 24 (by decide)); simp only [z32lt, z32le, z32eq, Int32.reduceToInt, Int32.toInt_zero] at h71_15; constructor <;> omega
                have c18x : zB (f 25 0 0) 0 23 := by first | assumption | (constructor <;> omega)
                refine z_aload_n (pc := 77) C dX10_crime_77 rfl ?_
                refine z_iload_n (pc := 78) C dX10_crime_78 rfl ?_
                refine z_iload_n (pc := 79) C dX10_crime_79 rfl ?_
                refine z_iload_n (pc := 80) C dX10_crime_80 rfl ?_
                refine z_iload (pc := 81) C dX10_crime_81 rfl ?_
                refine z_iload (pc := 83) C dX10_crime_83 rfl ?_
                refine z_iload (pc := 85) C dX10_crime_85 rfl ?_
                refine z_if_eq (pc := 87) 94 C dX10_crime_87 (by decide) (fun h87_18 => ?_) (fun h87_18 => ?_)
                · skip
                  have b20x : zB a6 0 0 := by have q1 := b6; have q2 := (zB.of (x := 0) 0 (by decide)); simp only [z32lt, z32le, z32eq, Int32.reduceToInt, Int32.toInt_zero] at h87_18; constructor <;> omega
                  refine z_iconst (pc := 94) (v := 0) C dX10_crime_94 (by decide) ?_
                  refine z_callV (pc := 95) C zk_X10_91 (x_X10_addCrime _ _ a1 b2x a2 (zB.wk (a' := 0) (b' := 63) b4x (by decide) (by decide)) a3 b6x a4 b14x a5 (zB.wk (a' := 0) (b' := 40) b12x (by decide) (by decide)) 0 (zB.wk (a' := 0) (b' := 1) (zB.of (x := 0) 0 (by decide)) (by decide) (by decide)) c18x hI) rfl rfl (by decide) rfl rfl (Nat.le_of_ble_eq_true rfl) dX10_crime_95 (fun r21 g21 q21 => ?_)
                  have qa21_0 : (0 : Int32).toInt = 0 := by decide
                  obtain ⟨rfl, hI21, hF21q, hp21_0, hp21_1, hp21_2⟩ := q21
                  have hF21 := zFr.tr hF hF21q (by decide)
                  simp only [Option.toList, List.cons_append, List.nil_append]
                  have cr21_25_0_0 : zB (g21 25 0 0) 0 24 := hI21 25 0 0
                  refine z_aload_n (pc := 98) C dX10_crime_98 rfl ?_
                  refine z_getI (pc := 99) C zf_X10_80 rfl rfl (by decide) dX10_crime_99 ?_
                  refine w_gp (fun v => v = g21 25 0 0) rfl (fun v22 q22 => ?_)
                  have e22 : v22.toInt = (g21 25 0 0).toInt := by rw [q22]
                  have b22x : zB v22 0 24 := by first | exact zB.eqv e22 cr21_25_0_0 | (have q9 := cr21_25_0_0; constructor <;> omega)
                  refine z_iconst (pc := 102) (v := 1) C dX10_crime_102 (by decide) ?_
                  refine z_isub (pc := 103) C dX10_crime_103 ?_
                  refine w_gp (fun v => v = v22 - (1 : Int32)) rfl (fun v23 q23 => ?_)
                  have e23 : v23.toInt = v22.toInt - 1 := by rw [q23]; exact (zsub_eb b22x (zB.of (x := 1) 1 (by decide)) (by decide) (by decide))
                  have b23x : zB v23 (-1) 23 := by have q1 := b22x; have q2 := (zB.of (x := 1) 1 (by decide)); constructor <;> omega
                  exact z_iret (pc := 104) C hr dX10_crime_104 ⟨⟨_, rfl, (zB.wk (a' := (-3)) (b' := 23) b23x (by decide) (by decide))⟩, hI21, hF21, (by
                                                                                          intro v hv; cases hv
                                                                                          obtain ⟨h1, h2⟩ := hp21_2
                                                                                          have h0 := hp21_1
                                                                                          have h0i : (g21 25 0 0).toInt = (f 25 0 0).toInt + 1 := by rw [h0]; exact zadd_eb (x := f 25 0 0) (hI 25 0 0) (zB.of (x := 1) 1 (by decide)) (by decide) (by decide)
                                                                                          have ca : a6 = (0 : Int32) := by
                                                                                            rw [z32eq]
                                                                                            have c0 : (0 : Int32).toInt = 0 := by decide
                                                                                            have c1 : (1 : Int32).toInt = 1 := by decide
                                                                                            omega
                                                                                          rw [ca]
                                                                                          exact Or.inr (Or.inr ⟨⟨by assumption, by omega, by omega, by rw [← q7]; assumption, by omega, by omega⟩, by omega, by rw [z32eq]; omega, h0, h1, h2⟩))⟩
                · skip
                  have b24x : zB a6 1 1 := by have q1 := b6; have q2 := (zB.of (x := 0) 0 (by decide)); simp only [z32lt, z32le, z32eq, Int32.reduceToInt, Int32.toInt_zero] at h87_18; constructor <;> omega
                  refine z_iconst (pc := 90) (v := 1) C dX10_crime_90 (by decide) ?_
                  refine z_goto (pc := 91) 95 C dX10_crime_91 (by decide) ?_
                  refine z_callV (pc := 95) C zk_X10_91 (x_X10_addCrime _ _ a1 b2x a2 (zB.wk (a' := 0) (b' := 63) b4x (by decide) (by decide)) a3 b6x a4 b14x a5 (zB.wk (a' := 0) (b' := 40) b12x (by decide) (by decide)) 1 (zB.wk (a' := 0) (b' := 1) (zB.of (x := 1) 1 (by decide)) (by decide) (by decide)) c18x hI) rfl rfl (by decide) rfl rfl (Nat.le_of_ble_eq_true rfl) dX10_crime_95 (fun r25 g25 q25 => ?_)
                  have qa25_1 : (1 : Int32).toInt = 1 := by decide
                  obtain ⟨rfl, hI25, hF25q, hp25_0, hp25_1, hp25_2⟩ := q25
                  have hF25 := zFr.tr hF hF25q (by decide)
                  simp only [Option.toList, List.cons_append, List.nil_append]
                  have cr25_25_0_0 : zB (g25 25 0 0) 0 24 := hI25 25 0 0
                  refine z_aload_n (pc := 98) C dX10_crime_98 rfl ?_
                  refine z_getI (pc := 99) C zf_X10_80 rfl rfl (by decide) dX10_crime_99 ?_
                  refine w_gp (fun v => v = g25 25 0 0) rfl (fun v26 q26 => ?_)
                  have e26 : v26.toInt = (g25 25 0 0).toInt := by rw [q26]
                  have b26x : zB v26 0 24 := by first | exact zB.eqv e26 cr25_25_0_0 | (have q9 := cr25_25_0_0; constructor <;> omega)
                  refine z_iconst (pc := 102) (v := 1) C dX10_crime_102 (by decide) ?_
                  refine z_isub (pc := 103) C dX10_crime_103 ?_
                  refine w_gp (fun v => v = v26 - (1 : Int32)) rfl (fun v27 q27 => ?_)
                  have e27 : v27.toInt = v26.toInt - 1 := by rw [q27]; exact (zsub_eb b26x (zB.of (x := 1) 1 (by decide)) (by decide) (by decide))
                  have b27x : zB v27 (-1) 23 := by have q1 := b26x; have q2 := (zB.of (x := 1) 1 (by decide)); constructor <;> omega
                  exact z_iret (pc := 104) C hr dX10_crime_104 ⟨⟨_, rfl, (zB.wk (a' := (-3)) (b' := 23) b27x (by decide) (by decide))⟩, hI25, hF25, (by
                                                                                          intro v hv; cases hv
                                                                                          obtain ⟨h1, h2⟩ := hp25_2
                                                                                          have h0 := hp25_1
                                                                                          have h0i : (g25 25 0 0).toInt = (f 25 0 0).toInt + 1 := by rw [h0]; exact zadd_eb (x := f 25 0 0) (hI 25 0 0) (zB.of (x := 1) 1 (by decide)) (by decide) (by decide)
                                                                                          have ca : a6 = (1 : Int32) := by
                                                                                            rw [z32eq]
                                                                                            have c0 : (0 : Int32).toInt = 0 := by decide
                                                                                            have c1 : (1 : Int32).toInt = 1 := by decide
                                                                                            omega
                                                                                          rw [ca]
                                                                                          exact Or.inr (Or.inr ⟨⟨by assumption, by omega, by omega, by rw [← q7]; assumption, by omega, by omega⟩, by omega, by rw [z32eq]; omega, h0, h1, h2⟩))⟩
              · skip
                have b28x : zB v15 24 24 := by have q1 := b15x; have q2 := (zB.of (x := 24) 24 (by decide)); simp only [z32lt, z32le, z32eq, Int32.reduceToInt, Int32.toInt_zero] at h71_15; constructor <;> omega
                have c29x : zB (f 25 0 0) 24 24 := by first | assumption | (constructor <;> omega)
                refine z_bipush (pc := 74) (v := -3) C dX10_crime_74 (by decide) ?_
                exact z_iret (pc := 76) C hr dX10_crime_76 ⟨⟨_, rfl, (zB.wk (a' := (-3)) (b' := 23) (zB.of (x := (-3)) (-3) (by decide)) (by decide) (by decide))⟩, hI, hF, (by intro v hv; cases hv; exact Or.inr (Or.inl ⟨⟨by assumption, by omega, by omega, by rw [← q7]; assumption, by omega, by omega⟩, by omega, rfl, rfl⟩))⟩
            · skip
              have hc57_0 : ¬ (0 ≤ a4.toInt ∧ a4.toInt ≤ a5.toInt) := by have q9 := h57_12; simp only [z64] at q9; exact q9
              refine z_if_ne (pc := 60) 65 C dX10_crime_60 (by decide) (fun h => absurd (by decide) h) (fun _ => ?_)
              refine z_iconst (pc := 63) (v := -1) C dX10_crime_63 (by decide) ?_
              exact z_iret (pc := 64) C hr dX10_crime_64 ⟨⟨_, rfl, (zB.wk (a' := (-3)) (b' := 23) (zB.of (x := (-1)) (-1) (by decide)) (by decide) (by decide))⟩, hI, hF, (by
                                                                                          intro v hv; cases hv
                                                                                          refine Or.inl ⟨fun hG => ?_, rfl, rfl⟩
                                                                                          first
                                                                                            | omega
                                                                                            | exact absurd hG.2.2.2.1 (by rw [← q7]; assumption))⟩
          · skip
            have hc44_0 : ¬ (1 ≤ a5.toInt ∧ a5.toInt ≤ 40) := by have q9 := h44_10; simp only [z64] at q9; exact q9
            refine z_if_eq (pc := 47) 63 C dX10_crime_47 (by decide) (fun _ => ?_) (fun h => absurd (by decide) h)
            refine z_iconst (pc := 63) (v := -1) C dX10_crime_63 (by decide) ?_
            exact z_iret (pc := 64) C hr dX10_crime_64 ⟨⟨_, rfl, (zB.wk (a' := (-3)) (b' := 23) (zB.of (x := (-1)) (-1) (by decide)) (by decide) (by decide))⟩, hI, hF, (by
                                                                                          intro v hv; cases hv
                                                                                          refine Or.inl ⟨fun hG => ?_, rfl, rfl⟩
                                                                                          first
                                                                                            | omega
                                                                                            | exact absurd hG.2.2.2.1 (by rw [← q7]; assumption))⟩
      · skip
        have hc25_0 : ¬ (0 ≤ a3.toInt ∧ a3.toInt ≤ 63) := by have q9 := h25_4; simp only [z64] at q9; exact q9
        refine z_if_eq (pc := 28) 63 C dX10_crime_28 (by decide) (fun _ => ?_) (fun h => absurd (by decide) h)
        refine z_iconst (pc := 63) (v := -1) C dX10_crime_63 (by decide) ?_
        exact z_iret (pc := 64) C hr dX10_crime_64 ⟨⟨_, rfl, (zB.wk (a' := (-3)) (b' := 23) (zB.of (x := (-1)) (-1) (by decide)) (by decide) (by decide))⟩, hI, hF, (by intro v hv; cases hv; exact Or.inl ⟨by omega, rfl, rfl⟩)⟩
    · skip
      have hc13_0 : ¬ (1 ≤ a2.toInt ∧ a2.toInt ≤ 63) := by have q9 := h13_2; simp only [z64] at q9; exact q9
      refine z_if_eq (pc := 16) 63 C dX10_crime_16 (by decide) (fun _ => ?_) (fun h => absurd (by decide) h)
      refine z_iconst (pc := 63) (v := -1) C dX10_crime_63 (by decide) ?_
      exact z_iret (pc := 64) C hr dX10_crime_64 ⟨⟨_, rfl, (zB.wk (a' := (-3)) (b' := 23) (zB.of (x := (-1)) (-1) (by decide)) (by decide) (by decide))⟩, hI, hF, (by intro v hv; cases hv; exact Or.inl ⟨by omega, rfl, rfl⟩)⟩
  · skip
    refine z_if_eq (pc := 4) 63 C dX10_crime_4 (by decide) (fun _ => ?_) (fun h => absurd (by decide) h)
    refine z_iconst (pc := 63) (v := -1) C dX10_crime_63 (by decide) ?_
    exact z_iret (pc := 64) C hr dX10_crime_64 ⟨⟨_, rfl, (zB.wk (a' := (-3)) (b' := 23) (zB.of (x := (-1)) (-1) (by decide)) (by decide) (by decide))⟩, hI, hF, (by intro v hv; cases hv; exact Or.inl ⟨by omega, rfl, rfl⟩)⟩

set_option maxRecDepth 100000 in
set_option maxHeartbeats 4000000 in
theorem x_X8_takePaper (d : Nat) (f : zM) (pf1_0_7 : zB (f 1 0 7) 0 11) (hI : zInv f) : ZM d yX8_takePaper cX8_takePaper 1 (some .int) [zr 1 0] f (fun r g => (∃ v, r = some (zi v) ∧ zB v 0 11) ∧ zInv g ∧ zFr [(1, some 7)] f g ∧ (∀ v : Int32, r = some (zi v) → v = f 1 0 7) ∧ (∀ v : Int32, r = some (zi v) → g = zup f 1 0 7 (f 1 0 7 + 1)) ∧ (∀ v : Int32, r = some (zi v) → (g 1 0 7).toInt = (f 1 0 7).toInt + 1) ∧ (∀ v : Int32, r = some (zi v) → (g 1 1 7).toInt = (f 1 1 7).toInt)) := by
  refine ZM.intro (by decide +kernel) (Nat.le_of_ble_eq_true rfl) ?_
  intro X C hr hn
  have hF : zFr [(1, some 7)] f f := zFr.rf _ _
  have ct1_1_7 : zB (f 1 1 7) 0 12 := hI 1 1 7
  show Z X 0 [some (zr 1 0)] [] f
  refine z_aload_n (pc := 0) C dX8_takePaper_0 rfl ?_
  refine z_dupr (pc := 1) C dX8_takePaper_1 ?_
  refine z_getI (pc := 2) C zf_X8_64 rfl rfl (by decide) dX8_takePaper_2 ?_
  refine w_gp (fun v => v = f 1 0 7) rfl (fun v1 q1 => ?_)
  have e1 : v1.toInt = (f 1 0 7).toInt := by rw [q1]
  have b1x : zB v1 0 11 := by first | exact zB.eqv e1 pf1_0_7 | (have q9 := pf1_0_7; constructor <;> omega)
  refine z_iconst (pc := 5) (v := 1) C dX8_takePaper_5 (by decide) ?_
  refine z_iadd (pc := 6) C dX8_takePaper_6 ?_
  refine w_gp (fun v => v = v1 + (1 : Int32)) rfl (fun v2 q2 => ?_)
  have e2 : v2.toInt = v1.toInt + 1 := by rw [q2]; exact (zadd_eb b1x (zB.of (x := 1) 1 (by decide)) (by decide) (by decide))
  have b2x : zB v2 1 12 := by have q1 := b1x; have q2 := (zB.of (x := 1) 1 (by decide)); constructor <;> omega
  refine z_putI (pc := 7) C zf_X8_64 zp_8_7 rfl rfl (by decide) dX8_takePaper_7 ?_
  refine w_memx hI hF (zB.wk (a' := 0) (b' := 12) b2x (by decide) (by decide)) rfl (fun g3 qm3 hI3 hF3 hq3 hx3 => ?_)
  have ec3 : (g3 1 0 7).toInt = v2.toInt := by rw [hx3]
  have c3x : zB (g3 1 0 7) 1 12 := by first | exact zB.eqv ec3 b2x | (have q9 := b2x; constructor <;> omega)
  have ek3_1_1_7 : (g3 1 1 7).toInt = (f 1 1 7).toInt := by rw [(show g3 1 1 7 = f 1 1 7 by rw [qm3]; exact zup_ne _ _ (by omega))]
  have c3_1_1_7x : zB (g3 1 1 7) 0 12 := by rw [(show g3 1 1 7 = f 1 1 7 by rw [qm3]; exact zup_ne _ _ (by omega))]; exact ct1_1_7
  refine z_aload_n (pc := 10) C dX8_takePaper_10 rfl ?_
  refine z_getI (pc := 11) C zf_X8_64 rfl rfl (by decide) dX8_takePaper_11 ?_
  refine w_gp (fun v => v = g3 1 0 7) rfl (fun v4 q4 => ?_)
  have e4 : v4.toInt = (g3 1 0 7).toInt := by rw [q4]
  have b4x : zB v4 1 12 := by first | exact zB.eqv e4 c3x | (have q9 := c3x; constructor <;> omega)
  refine z_iconst (pc := 14) (v := 1) C dX8_takePaper_14 (by decide) ?_
  refine z_isub (pc := 15) C dX8_takePaper_15 ?_
  refine w_gp (fun v => v = v4 - (1 : Int32)) rfl (fun v5 q5 => ?_)
  have e5 : v5.toInt = v4.toInt - 1 := by rw [q5]; exact (zsub_eb b4x (zB.of (x := 1) 1 (by decide)) (by decide) (by decide))
  have b5x : zB v5 0 11 := by have q1 := b4x; have q2 := (zB.of (x := 1) 1 (by decide)); constructor <;> omega
  exact z_iret (pc := 16) C hr dX8_takePaper_16 ⟨⟨_, rfl, b5x⟩, hI3, hF3, (by intro v hv; cases hv; rw [z32eq]; omega), (by intro v hv; cases hv; rw [qm3, q2, q1]), (by intro v hv; cases hv; omega), (by intro v hv; cases hv; omega)⟩

set_option maxRecDepth 100000 in
set_option maxHeartbeats 4000000 in
theorem x_X9_addPaper (d : Nat) (f : zM) (a1 : Int32) (b1 : zB a1 (-2147483648) 2147483647) (a2 : Int32) (b2 : zB a2 (-2147483648) 2147483647) (a3 : Int32) (b3 : zB a3 (-2147483648) 2147483647) (a4 : Int32) (b4 : zB a4 (-2147483648) 2147483647) (a5 : Int32) (b5 : zB a5 (-2147483648) 2147483647) (hI : zInv f) : ZM (d + 1) yX9_addPaper cX9_addPaper 7 (some .int) [zr 0 0, zi a1, zi a2, zi a3, zi a4, zi a5] f (fun r g => (∃ v, r = some (zi v) ∧ zB v (-3) 11) ∧ zInv g ∧ zFr [(1, some 7), (11, some 1), (11, some 2), (11, some 5), (11, some 6), (11, some 7)] f g ∧ (∀ v : Int32, r = some (zi v) → (¬ ((0 ≤ a1.toInt ∧ a1.toInt ≤ 5) ∧ (0 ≤ a2.toInt ∧ a2.toInt ≤ 5) ∧ ¬ a1.toInt = a2.toInt ∧ (0 ≤ a3.toInt ∧ a3.toInt ≤ 31) ∧ (0 ≤ a4.toInt ∧ a4.toInt ≤ 99) ∧ (0 ≤ a5.toInt ∧ a5.toInt ≤ 7)) ∧ v = -1 ∧ g = f) ∨ (((0 ≤ a1.toInt ∧ a1.toInt ≤ 5) ∧ (0 ≤ a2.toInt ∧ a2.toInt ≤ 5) ∧ ¬ a1.toInt = a2.toInt ∧ (0 ≤ a3.toInt ∧ a3.toInt ≤ 31) ∧ (0 ≤ a4.toInt ∧ a4.toInt ≤ 99) ∧ (0 ≤ a5.toInt ∧ a5.toInt ≤ 7)) ∧ 12 ≤ (f 1 0 7).toInt ∧ v = -3 ∧ g = f) ∨ (((0 ≤ a1.toInt ∧ a1.toInt ≤ 5) ∧ (0 ≤ a2.toInt ∧ a2.toInt ≤ 5) ∧ ¬ a1.toInt = a2.toInt ∧ (0 ≤ a3.toInt ∧ a3.toInt ≤ 31) ∧ (0 ≤ a4.toInt ∧ a4.toInt ≤ 99) ∧ (0 ≤ a5.toInt ∧ a5.toInt ≤ 7)) ∧ (f 1 0 7).toInt < 12 ∧ v = f 1 0 7 ∧ g = zup (zup (zup (zup (zup (zup f 11 (f 1 0 7).toInt.toNat 1 a1) 11 (f 1 0 7).toInt.toNat 2 a2) 11 (f 1 0 7).toInt.toNat 5 a3) 11 (f 1 0 7).toInt.toNat 6 a4) 11 (f 1 0 7).toInt.toNat 7 a5) 1 0 7 (f 1 0 7 + 1)))) := by
  refine ZM.intro (by decide +kernel) (Nat.le_of_ble_eq_true rfl) ?_
  intro X C hr hn
  have hF : zFr [(1, some 7), (11, some 1), (11, some 2), (11, some 5), (11, some 6), (11, some 7)] f f := zFr.rf _ _
  have ct1_0_7 : zB (f 1 0 7) 0 12 := hI 1 0 7
  show Z X 0 [some (zr 0 0), some (zi a1), some (zi a2), some (zi a3), some (zi a4), some (zi a5), none] [] f
  refine z_iload_n (pc := 0) C dX9_addPaper_0 rfl ?_
  refine z_callSb (pc := 1) C zk_X9_46 (m_X9_isLand _ _ _) rfl rfl (Nat.le_of_ble_eq_true rfl) dX9_addPaper_1 (fun h1_0 => ?_) (fun h1_0 => ?_)
  · skip
    have b2x : zB a1 0 5 := h1_0
    refine z_if_eq (pc := 4) 49 C dX9_addPaper_4 (by decide) (fun h => absurd h (by decide)) (fun _ => ?_)
    refine z_iload_n (pc := 7) C dX9_addPaper_7 rfl ?_
    refine z_callSb (pc := 8) C zk_X9_46 (m_X9_isLand _ _ _) rfl rfl (Nat.le_of_ble_eq_true rfl) dX9_addPaper_8 (fun h8_2 => ?_) (fun h8_2 => ?_)
    · skip
      have b4x : zB a2 0 5 := h8_2
      refine z_if_eq (pc := 11) 49 C dX9_addPaper_11 (by decide) (fun h => absurd h (by decide)) (fun _ => ?_)
      refine z_iload_n (pc := 14) C dX9_addPaper_14 rfl ?_
      refine z_iload_n (pc := 15) C dX9_addPaper_15 rfl ?_
      refine z_icmp_eq (pc := 16) 49 C dX9_addPaper_16 (by decide) (fun h16_4 => ?_) (fun h16_4 => ?_)
      · skip
        have rr6 : a1.toInt = a2.toInt := by simp only [z32lt, z32le, z32eq] at h16_4; omega
        refine z_iconst (pc := 49) (v := -1) C dX9_addPaper_49 (by decide) ?_
        exact z_iret (pc := 50) C hr dX9_addPaper_50 ⟨⟨_, rfl, (zB.wk (a' := (-3)) (b' := 11) (zB.of (x := (-1)) (-1) (by decide)) (by decide) (by decide))⟩, hI, hF, (by
                                                                                          intro v hv; cases hv
                                                                                          refine Or.inl ⟨fun hG => ?_, rfl, rfl⟩
                                                                                          omega)⟩
      · skip
        refine z_iload_n (pc := 19) C dX9_addPaper_19 rfl ?_
        refine z_if_lt (pc := 20) 49 C dX9_addPaper_20 (by decide) (fun h20_6 => ?_) (fun h20_6 => ?_)
        · skip
          have b8x : zB a3 (-2147483648) (-1) := by have q1 := b3; have q2 := (zB.of (x := 0) 0 (by decide)); simp only [z32lt, z32le, z32eq, Int32.reduceToInt, Int32.toInt_zero] at h20_6; constructor <;> omega
          refine z_iconst (pc := 49) (v := -1) C dX9_addPaper_49 (by decide) ?_
          exact z_iret (pc := 50) C hr dX9_addPaper_50 ⟨⟨_, rfl, (zB.wk (a' := (-3)) (b' := 11) (zB.of (x := (-1)) (-1) (by decide)) (by decide) (by decide))⟩, hI, hF, (by
                                                                                          intro v hv; cases hv
                                                                                          refine Or.inl ⟨fun hG => ?_, rfl, rfl⟩
                                                                                          omega)⟩
        · skip
          have b9x : zB a3 0 2147483647 := by have q1 := b3; have q2 := (zB.of (x := 0) 0 (by decide)); simp only [z32lt, z32le, z32eq, Int32.reduceToInt, Int32.toInt_zero] at h20_6; constructor <;> omega
          refine z_iload_n (pc := 23) C dX9_addPaper_23 rfl ?_
          refine z_bipush (pc := 24) (v := 31) C dX9_addPaper_24 (by decide) ?_
          refine z_icmp_gt (pc := 26) 49 C dX9_addPaper_26 (by decide) (fun h26_9 => ?_) (fun h26_9 => ?_)
          · skip
            have b11x : zB a3 32 2147483647 := by have q1 := b9x; have q2 := (zB.of (x := 31) 31 (by decide)); simp only [z32lt, z32le, z32eq, Int32.reduceToInt, Int32.toInt_zero] at h26_9; constructor <;> omega
            refine z_iconst (pc := 49) (v := -1) C dX9_addPaper_49 (by decide) ?_
            exact z_iret (pc := 50) C hr dX9_addPaper_50 ⟨⟨_, rfl, (zB.wk (a' := (-3)) (b' := 11) (zB.of (x := (-1)) (-1) (by decide)) (by decide) (by decide))⟩, hI, hF, (by
                                                                                          intro v hv; cases hv
                                                                                          refine Or.inl ⟨fun hG => ?_, rfl, rfl⟩
                                                                                          omega)⟩
          · skip
            have b12x : zB a3 0 31 := by have q1 := b9x; have q2 := (zB.of (x := 31) 31 (by decide)); simp only [z32lt, z32le, z32eq, Int32.reduceToInt, Int32.toInt_zero] at h26_9; constructor <;> omega
            refine z_iload (pc := 29) C dX9_addPaper_29 rfl ?_
            refine z_callSb (pc := 31) C zk_X9_68 (m_X9_isYear _ _ _) rfl rfl (Nat.le_of_ble_eq_true rfl) dX9_addPaper_31 (fun h31_12 => ?_) (fun h31_12 => ?_)
            · skip
              have b14x : zB a4 0 99 := h31_12
              refine z_if_eq (pc := 34) 49 C dX9_addPaper_34 (by decide) (fun h => absurd h (by decide)) (fun _ => ?_)
              refine z_iload (pc := 37) C dX9_addPaper_37 rfl ?_
              refine z_if_lt (pc := 39) 49 C dX9_addPaper_39 (by decide) (fun h39_14 => ?_) (fun h39_14 => ?_)
              · skip
                have b16x : zB a5 (-2147483648) (-1) := by have q1 := b5; have q2 := (zB.of (x := 0) 0 (by decide)); simp only [z32lt, z32le, z32eq, Int32.reduceToInt, Int32.toInt_zero] at h39_14; constructor <;> omega
                refine z_iconst (pc := 49) (v := -1) C dX9_addPaper_49 (by decide) ?_
                exact z_iret (pc := 50) C hr dX9_addPaper_50 ⟨⟨_, rfl, (zB.wk (a' := (-3)) (b' := 11) (zB.of (x := (-1)) (-1) (by decide)) (by decide) (by decide))⟩, hI, hF, (by
                                                                                          intro v hv; cases hv
                                                                                          refine Or.inl ⟨fun hG => ?_, rfl, rfl⟩
                                                                                          omega)⟩
              · skip
                have b17x : zB a5 0 2147483647 := by have q1 := b5; have q2 := (zB.of (x := 0) 0 (by decide)); simp only [z32lt, z32le, z32eq, Int32.reduceToInt, Int32.toInt_zero] at h39_14; constructor <;> omega
                refine z_iload (pc := 42) C dX9_addPaper_42 rfl ?_
                refine z_bipush (pc := 44) (v := 7) C dX9_addPaper_44 (by decide) ?_
                refine z_icmp_le (pc := 46) 51 C dX9_addPaper_46 (by decide) (fun h46_17 => ?_) (fun h46_17 => ?_)
                · skip
                  have b19x : zB a5 0 7 := by have q1 := b17x; have q2 := (zB.of (x := 7) 7 (by decide)); simp only [z32lt, z32le, z32eq, Int32.reduceToInt, Int32.toInt_zero] at h46_17; constructor <;> omega
                  refine z_aload_n (pc := 51) C dX9_addPaper_51 rfl ?_
                  refine z_getR (pc := 52) C zf_X9_10 rfl rfl (by decide) dX9_addPaper_52 ?_
                  refine z_getI (pc := 55) C zf_X9_119 rfl rfl (by decide) dX9_addPaper_55 ?_
                  refine w_gp (fun v => v = f 1 0 7) rfl (fun v20 q20 => ?_)
                  have e20 : v20.toInt = (f 1 0 7).toInt := by rw [q20]
                  have b20x : zB v20 0 12 := by first | exact zB.eqv e20 ct1_0_7 | (have q9 := ct1_0_7; constructor <;> omega)
                  refine z_bipush (pc := 58) (v := 12) C dX9_addPaper_58 (by decide) ?_
                  refine z_icmp_lt (pc := 60) 66 C dX9_addPaper_60 (by decide) (fun h60_20 => ?_) (fun h60_20 => ?_)
                  · skip
                    have b22x : zB v20 0 11 := by have q1 := b20x; have q2 := (zB.of (x := 12) 12 (by decide)); simp only [z32lt, z32le, z32eq, Int32.reduceToInt, Int32.toInt_zero] at h60_20; constructor <;> omega
                    have c23x : zB (f 1 0 7) 0 11 := by first | assumption | (constructor <;> omega)
                    refine z_aload_n (pc := 66) C dX9_addPaper_66 rfl ?_
                    refine z_getR (pc := 67) C zf_X9_10 rfl rfl (by decide) dX9_addPaper_67 ?_
                    refine z_getR (pc := 70) C zf_X9_90 rfl rfl (by decide) dX9_addPaper_70 ?_
                    refine z_aload_n (pc := 73) C dX9_addPaper_73 rfl ?_
                    refine z_getR (pc := 74) C zf_X9_10 rfl rfl (by decide) dX9_addPaper_74 ?_
                    refine z_getI (pc := 77) C zf_X9_119 rfl rfl (by decide) dX9_addPaper_77 ?_
                    refine w_gp (fun v => v = f 1 0 7) rfl (fun v24 q24 => ?_)
                    have e24 : v24.toInt = (f 1 0 7).toInt := by rw [q24]
                    have b24x : zB v24 0 11 := by first | exact zB.eqv e24 c23x | (have q9 := c23x; constructor <;> omega)
                    refine z_aald (pc := 80) C rfl ⟨rfl, by decide⟩ (by decide) (zIx b24x (by decide) (by decide)) dX9_addPaper_80 ?_
                    refine w_grx (by have hq := zN b24x (by decide); show 12 * 0 + v24.toNatClampNeg < 36; omega) (fun m25 q25r h25x => ?_)
                    have q25r : m25 = 12 * 0 + v24.toNatClampNeg := q25r
                    have k25r : v24.toNatClampNeg = v24.toInt.toNat := rfl
                    refine z_astore (pc := 81) C dX9_addPaper_81 (by rw [hn]; decide) rfl ?_
                    refine z_aload (pc := 83) C dX9_addPaper_83 rfl ?_
                    refine z_iload_n (pc := 85) C dX9_addPaper_85 rfl ?_
                    refine z_iload_n (pc := 86) C dX9_addPaper_86 rfl ?_
                    refine z_callV (pc := 87) C zk_X9_342 (x_X4_lead _ _ m25 h25x a1 b2x a2 b4x hI) rfl rfl h25x rfl rfl (Nat.le_of_ble_eq_true rfl) dX9_addPaper_87 (fun r26 g26 q26 => ?_)
                    obtain ⟨rfl, hI26, hF26q, hp26_0⟩ := q26
                    have hF26 := zFr.tr hF hF26q (by decide)
                    simp only [Option.toList, List.cons_append, List.nil_append]
                    have ek26_1_0_7 : (g26 1 0 7).toInt = (f 1 0 7).toInt := by rw [hF26q 1 0 7 rfl]
                    have c26_1_0_7x : zB (g26 1 0 7) 0 11 := by rw [hF26q 1 0 7 rfl]; exact c23x
                    refine z_aload (pc := 90) C dX9_addPaper_90 rfl ?_
                    refine z_iload_n (pc := 92) C dX9_addPaper_92 rfl ?_
                    refine z_iload (pc := 93) C dX9_addPaper_93 rfl ?_
                    refine z_iload (pc := 95) C dX9_addPaper_95 rfl ?_
                    refine z_callV (pc := 97) C zk_X9_345 (x_X4_rule _ _ m25 h25x a3 b12x a4 b14x a5 b19x hI26) rfl rfl h25x rfl rfl (Nat.le_of_ble_eq_true rfl) dX9_addPaper_97 (fun r27 g27 q27 => ?_)
                    obtain ⟨rfl, hI27, hF27q, hp27_0⟩ := q27
                    have hF27 := zFr.tr hF26 hF27q (by decide)
                    simp only [Option.toList, List.cons_append, List.nil_append]
                    have ek27_1_0_7 : (g27 1 0 7).toInt = (g26 1 0 7).toInt := by rw [hF27q 1 0 7 rfl]
                    have c27_1_0_7x : zB (g27 1 0 7) 0 11 := by rw [hF27q 1 0 7 rfl]; exact c26_1_0_7x
                    refine z_aload_n (pc := 100) C dX9_addPaper_100 rfl ?_
                    refine z_getR (pc := 101) C zf_X9_10 rfl rfl (by decide) dX9_addPaper_101 ?_
                    refine z_callV (pc := 104) C zk_X9_132 (x_X8_takePaper _ _ c27_1_0_7x hI27) rfl rfl (by decide) rfl rfl (Nat.le_of_ble_eq_true rfl) dX9_addPaper_104 (fun r28 g28 q28 => ?_)
                    obtain ⟨⟨v28, rfl, b28x⟩, hI28, hF28q, hp28_0, hp28_1, hp28_2, hp28_3⟩ := q28
                    have hp28_0 := hp28_0 _ rfl
                    have hp28_1 := hp28_1 _ rfl
                    have hp28_2 := hp28_2 _ rfl
                    have hp28_3 := hp28_3 _ rfl
                    have hF28 := zFr.tr hF27 hF28q (by decide)
                    simp only [Option.toList, List.cons_append, List.nil_append]
                    have cr28_1_0_7 : zB (g28 1 0 7) 0 12 := hI28 1 0 7
                    exact z_iret (pc := 107) C hr dX9_addPaper_107 ⟨⟨_, rfl, (zB.wk (a' := (-3)) (b' := 11) b28x (by decide) (by decide))⟩, hI28, hF28, (by
                                                                                          intro v hv; cases hv
                                                                                          have hn : m25 = (f 1 0 7).toInt.toNat := by omega
                                                                                          have h1 := hp26_0
                                                                                          have h2 := hp27_0
                                                                                          have h3 := hp28_0
                                                                                          have h4 := hp28_1
                                                                                          rw [hn] at h1 h2
                                                                                          rw [h1] at h2
                                                                                          rw [h2] at h3 h4
                                                                                          refine Or.inr (Or.inr ⟨⟨by assumption, by assumption, (fun h => absurd ((z32eq _ _).mpr h) (by assumption)), by omega, by assumption, by omega⟩, by omega, ?_, ?_⟩)
                                                                                          · rw [h3]; rfl
                                                                                          · rw [h4]; rfl)⟩
                  · skip
                    have b29x : zB v20 12 12 := by have q1 := b20x; have q2 := (zB.of (x := 12) 12 (by decide)); simp only [z32lt, z32le, z32eq, Int32.reduceToInt, Int32.toInt_zero] at h60_20; constructor <;> omega
                    have c30x : zB (f 1 0 7) 12 12 := by first | assumption | (constructor <;> omega)
                    refine z_bipush (pc := 63) (v := -3) C dX9_addPaper_63 (by decide) ?_
                    exact z_iret (pc := 65) C hr dX9_addPaper_65 ⟨⟨_, rfl, (zB.wk (a' := (-3)) (b' := 11) (zB.of (x := (-3)) (-3) (by decide)) (by decide) (by decide))⟩, hI, hF, (by intro v hv; cases hv; exact Or.inr (Or.inl ⟨⟨by assumption, by assumption, (fun h => absurd ((z32eq _ _).mpr h) (by assumption)), by omega, by assumption, by omega⟩, by omega, rfl, rfl⟩))⟩
                · skip
                  have b31x : zB a5 8 2147483647 := by have q1 := b17x; have q2 := (zB.of (x := 7) 7 (by decide)); simp only [z32lt, z32le, z32eq, Int32.reduceToInt, Int32.toInt_zero] at h46_17; constructor <;> omega
                  refine z_iconst (pc := 49) (v := -1) C dX9_addPaper_49 (by decide) ?_
                  exact z_iret (pc := 50) C hr dX9_addPaper_50 ⟨⟨_, rfl, (zB.wk (a' := (-3)) (b' := 11) (zB.of (x := (-1)) (-1) (by decide)) (by decide) (by decide))⟩, hI, hF, (by
                                                                                          intro v hv; cases hv
                                                                                          refine Or.inl ⟨fun hG => ?_, rfl, rfl⟩
                                                                                          omega)⟩
            · skip
              refine z_if_eq (pc := 34) 49 C dX9_addPaper_34 (by decide) (fun _ => ?_) (fun h => absurd (by decide) h)
              refine z_iconst (pc := 49) (v := -1) C dX9_addPaper_49 (by decide) ?_
              exact z_iret (pc := 50) C hr dX9_addPaper_50 ⟨⟨_, rfl, (zB.wk (a' := (-3)) (b' := 11) (zB.of (x := (-1)) (-1) (by decide)) (by decide) (by decide))⟩, hI, hF, (by
                                                                                          intro v hv; cases hv
                                                                                          refine Or.inl ⟨fun hG => ?_, rfl, rfl⟩
                                                                                          omega)⟩
    · skip
      refine z_if_eq (pc := 11) 49 C dX9_addPaper_11 (by decide) (fun _ => ?_) (fun h => absurd (by decide) h)
      refine z_iconst (pc := 49) (v := -1) C dX9_addPaper_49 (by decide) ?_
      exact z_iret (pc := 50) C hr dX9_addPaper_50 ⟨⟨_, rfl, (zB.wk (a' := (-3)) (b' := 11) (zB.of (x := (-1)) (-1) (by decide)) (by decide) (by decide))⟩, hI, hF, (by
                                                                                          intro v hv; cases hv
                                                                                          refine Or.inl ⟨fun hG => ?_, rfl, rfl⟩
                                                                                          omega)⟩
  · skip
    refine z_if_eq (pc := 4) 49 C dX9_addPaper_4 (by decide) (fun _ => ?_) (fun h => absurd (by decide) h)
    refine z_iconst (pc := 49) (v := -1) C dX9_addPaper_49 (by decide) ?_
    exact z_iret (pc := 50) C hr dX9_addPaper_50 ⟨⟨_, rfl, (zB.wk (a' := (-3)) (b' := 11) (zB.of (x := (-1)) (-1) (by decide)) (by decide) (by decide))⟩, hI, hF, (by
                                                                                          intro v hv; cases hv
                                                                                          refine Or.inl ⟨fun hG => ?_, rfl, rfl⟩
                                                                                          omega)⟩

set_option maxRecDepth 100000 in
set_option maxHeartbeats 4000000 in
theorem x_X9_years (d : Nat) (f : zM) (a1 : Int32) (b1 : zB a1 (-2147483648) 2147483647) (a2 : Int32) (b2 : zB a2 (-2147483648) 2147483647) (a3 : Int32) (b3 : zB a3 (-2147483648) 2147483647) (a4 : Int32) (b4 : zB a4 (-2147483648) 2147483647) (a5 : Int32) (b5 : zB a5 (-2147483648) 2147483647) (a6 : Int32) (b6 : zB a6 (-2147483648) 2147483647) (hI : zInv f) : ZM (d + 2) yX9_years cX9_years 8 (some .int) [zr 0 0, zi a1, zi a2, zi a3, zi a4, zi a5, zi a6] f (fun r g => (∃ v, r = some (zi v) ∧ zB v (-3) 11) ∧ zInv g ∧ zFr [(1, some 7), (11, some 0), (11, some 1), (11, some 2), (11, some 3), (11, some 4), (11, some 5), (11, some 6), (11, some 7)] f g ∧ (∀ v : Int32, r = some (zi v) → (¬ (((0 ≤ a1.toInt ∧ a1.toInt ≤ 5) ∧ (0 ≤ a2.toInt ∧ a2.toInt ≤ 5) ∧ ¬ a1.toInt = a2.toInt ∧ (0 ≤ a4.toInt ∧ a4.toInt ≤ 31) ∧ (0 ≤ a5.toInt ∧ a5.toInt ≤ 99) ∧ (0 ≤ a6.toInt ∧ a6.toInt ≤ 7)) ∧ (1 ≤ a3.toInt ∧ a3.toInt ≤ 40)) ∧ v = -1 ∧ g = f) ∨ ((((0 ≤ a1.toInt ∧ a1.toInt ≤ 5) ∧ (0 ≤ a2.toInt ∧ a2.toInt ≤ 5) ∧ ¬ a1.toInt = a2.toInt ∧ (0 ≤ a4.toInt ∧ a4.toInt ≤ 31) ∧ (0 ≤ a5.toInt ∧ a5.toInt ≤ 99) ∧ (0 ≤ a6.toInt ∧ a6.toInt ≤ 7)) ∧ (1 ≤ a3.toInt ∧ a3.toInt ≤ 40)) ∧ 12 ≤ (f 1 0 7).toInt ∧ v = -3 ∧ g = f) ∨ ((((0 ≤ a1.toInt ∧ a1.toInt ≤ 5) ∧ (0 ≤ a2.toInt ∧ a2.toInt ≤ 5) ∧ ¬ a1.toInt = a2.toInt ∧ (0 ≤ a4.toInt ∧ a4.toInt ≤ 31) ∧ (0 ≤ a5.toInt ∧ a5.toInt ≤ 99) ∧ (0 ≤ a6.toInt ∧ a6.toInt ≤ 7)) ∧ (1 ≤ a3.toInt ∧ a3.toInt ≤ 40)) ∧ (f 1 0 7).toInt < 12 ∧ v = f 1 0 7 ∧ g 1 0 7 = f 1 0 7 + 1 ∧ (∀ j, j < 8 → g 11 (f 1 0 7).toInt.toNat j = zc8 0 a1 a2 a3 0 a4 a5 a6 j) ∧ (∀ i j, i ≠ (f 1 0 7).toInt.toNat → j < 8 → g 11 i j = f 11 i j) ∧ (∀ i j, ¬ (i = 0 ∧ j = 7) → g 1 i j = f 1 i j)))) := by
  refine ZM.intro (by decide +kernel) (Nat.le_of_ble_eq_true rfl) ?_
  intro X C hr hn
  have hF : zFr [(1, some 7), (11, some 0), (11, some 1), (11, some 2), (11, some 3), (11, some 4), (11, some 5), (11, some 6), (11, some 7)] f f := zFr.rf _ _
  show Z X 0 [some (zr 0 0), some (zi a1), some (zi a2), some (zi a3), some (zi a4), some (zi a5), some (zi a6), none] [] f
  refine z_iload_n (pc := 0) C dX9_years_0 rfl ?_
  refine z_iconst (pc := 1) (v := 1) C dX9_years_1 (by decide) ?_
  refine z_icmp_lt (pc := 2) 11 C dX9_years_2 (by decide) (fun h2_0 => ?_) (fun h2_0 => ?_)
  · skip
    have b2x : zB a3 (-2147483648) 0 := by have q1 := b3; have q2 := (zB.of (x := 1) 1 (by decide)); simp only [z32lt, z32le, z32eq, Int32.reduceToInt, Int32.toInt_zero] at h2_0; constructor <;> omega
    refine z_iconst (pc := 11) (v := -1) C dX9_years_11 (by decide) ?_
    exact z_iret (pc := 12) C hr dX9_years_12 ⟨⟨_, rfl, (zB.wk (a' := (-3)) (b' := 11) (zB.of (x := (-1)) (-1) (by decide)) (by decide) (by decide))⟩, hI, hF, (by intro v hv; cases hv; exact Or.inl ⟨by omega, rfl, rfl⟩)⟩
  · skip
    have b3x : zB a3 1 2147483647 := by have q1 := b3; have q2 := (zB.of (x := 1) 1 (by decide)); simp only [z32lt, z32le, z32eq, Int32.reduceToInt, Int32.toInt_zero] at h2_0; constructor <;> omega
    refine z_iload_n (pc := 5) C dX9_years_5 rfl ?_
    refine z_bipush (pc := 6) (v := 40) C dX9_years_6 (by decide) ?_
    refine z_icmp_le (pc := 8) 13 C dX9_years_8 (by decide) (fun h8_3 => ?_) (fun h8_3 => ?_)
    · skip
      have b5x : zB a3 1 40 := by have q1 := b3x; have q2 := (zB.of (x := 40) 40 (by decide)); simp only [z32lt, z32le, z32eq, Int32.reduceToInt, Int32.toInt_zero] at h8_3; constructor <;> omega
      refine z_aload_n (pc := 13) C dX9_years_13 rfl ?_
      refine z_iload_n (pc := 14) C dX9_years_14 rfl ?_
      refine z_iload_n (pc := 15) C dX9_years_15 rfl ?_
      refine z_iload (pc := 16) C dX9_years_16 rfl ?_
      refine z_iload (pc := 18) C dX9_years_18 rfl ?_
      refine z_iload (pc := 20) C dX9_years_20 rfl ?_
      refine z_callV (pc := 22) C zk_X9_86 (x_X9_addPaper _ _ a1 b1 a2 b2 a4 b4 a5 b5 a6 b6 hI) rfl rfl (by decide) rfl rfl (Nat.le_of_ble_eq_true rfl) dX9_years_22 (fun r6 g6 q6 => ?_)
      obtain ⟨⟨v6, rfl, b6x⟩, hI6, hF6q, hp6_0⟩ := q6
      have hp6_0 := hp6_0 _ rfl
      have hF6 := zFr.tr hF hF6q (by decide)
      simp only [Option.toList, List.cons_append, List.nil_append]
      refine z_istore (pc := 25) C dX9_years_25 (by rw [hn]; decide) rfl ?_
      refine z_iload (pc := 27) C dX9_years_27 rfl ?_
      refine z_if_lt (pc := 29) 48 C dX9_years_29 (by decide) (fun h29_6 => ?_) (fun h29_6 => ?_)
      · skip
        have b8x : zB v6 (-3) (-1) := by have q1 := b6x; have q2 := (zB.of (x := 0) 0 (by decide)); simp only [z32lt, z32le, z32eq, Int32.reduceToInt, Int32.toInt_zero] at h29_6; constructor <;> omega
        refine z_iload (pc := 48) C dX9_years_48 rfl ?_
        exact z_iret (pc := 50) C hr dX9_years_50 ⟨⟨_, rfl, (zB.wk (a' := (-3)) (b' := 11) b8x (by decide) (by decide))⟩, hI6, hF6, (by
                                                                                          intro v hv; cases hv
                                                                                          rcases hp6_0 with ⟨h1, h2, h3⟩ | ⟨h1, h2, h3, h4⟩ | ⟨h1, h2, h3, h4⟩
                                                                                          · exact Or.inl ⟨fun hG => h1 (by exact hG.1), h2, h3⟩
                                                                                          · exact Or.inr (Or.inl ⟨⟨h1, by omega⟩, h2, h3, h4⟩)
                                                                                          · exfalso
                                                                                            rw [z32eq] at h3
                                                                                            have b7 : 0 ≤ (f 1 0 7).toInt := (hI 1 0 7).1
                                                                                            omega)⟩
      · skip
        have b9x : zB v6 0 11 := by have q1 := b6x; have q2 := (zB.of (x := 0) 0 (by decide)); simp only [z32lt, z32le, z32eq, Int32.reduceToInt, Int32.toInt_zero] at h29_6; constructor <;> omega
        refine z_aload_n (pc := 32) C dX9_years_32 rfl ?_
        refine z_getR (pc := 33) C zf_X9_10 rfl rfl (by decide) dX9_years_33 ?_
        refine z_getR (pc := 36) C zf_X9_90 rfl rfl (by decide) dX9_years_36 ?_
        refine z_iload (pc := 39) C dX9_years_39 rfl ?_
        refine z_aald (pc := 41) C rfl ⟨rfl, by decide⟩ (by decide) (zIx b9x (by decide) (by decide)) dX9_years_41 ?_
        refine w_grx (by have hq := zN b9x (by decide); show 12 * 0 + v6.toNatClampNeg < 36; omega) (fun m10 q10r h10x => ?_)
        have q10r : m10 = 12 * 0 + v6.toNatClampNeg := q10r
        have k10r : v6.toNatClampNeg = v6.toInt.toNat := rfl
        refine z_iconst (pc := 42) (v := 0) C dX9_years_42 (by decide) ?_
        refine z_iload_n (pc := 43) C dX9_years_43 rfl ?_
        refine z_iconst (pc := 44) (v := 0) C dX9_years_44 (by decide) ?_
        refine z_callV (pc := 45) C zk_X9_94 (x_X4_become _ _ m10 h10x 0 (zB.wk (a' := 0) (b' := 2) (zB.of (x := 0) 0 (by decide)) (by decide) (by decide)) a3 (zB.wk (a' := 0) (b' := 40) b5x (by decide) (by decide)) 0 (zB.wk (a' := (-2147483648)) (b' := 2147483647) (zB.of (x := 0) 0 (by decide)) (by decide) (by decide)) hI6) rfl rfl h10x rfl rfl (Nat.le_of_ble_eq_true rfl) dX9_years_45 (fun r11 g11 q11 => ?_)
        have qa11_0 : (0 : Int32).toInt = 0 := by decide
        obtain ⟨rfl, hI11, hF11q, hp11_0⟩ := q11
        have hF11 := zFr.tr hF6 hF11q (by decide)
        simp only [Option.toList, List.cons_append, List.nil_append]
        refine z_iload (pc := 48) C dX9_years_48 rfl ?_
        exact z_iret (pc := 50) C hr dX9_years_50 ⟨⟨_, rfl, (zB.wk (a' := (-3)) (b' := 11) b9x (by decide) (by decide))⟩, hI11, hF11, (by
                                                                                          intro v hv; cases hv
                                                                                          rcases hp6_0 with ⟨h1, h2, h3⟩ | ⟨h1, h2, h3, h4⟩ | ⟨h1, h2, h3, h4⟩
                                                                                          · exfalso; rw [z32eq] at h2; have c1 : (-1 : Int32).toInt = -1 := by decide
                                                                                            omega
                                                                                          · exfalso; rw [z32eq] at h3; have c1 : (-3 : Int32).toInt = -3 := by decide
                                                                                            omega
                                                                                          · have h3i : (v6).toInt = (f 1 0 7).toInt := by rw [h3]
                                                                                            have hn : m10 = (f 1 0 7).toInt.toNat := by omega
                                                                                            have hg := hp11_0
                                                                                            rw [hn, h4] at hg
                                                                                            refine Or.inr (Or.inr ⟨⟨h1, by omega⟩, h2, h3, ?_, ?_, ?_, ?_⟩)
                                                                                            · rw [hg, zup_ne _ _ (by omega), zup_ne _ _ (by omega), zup_ne _ _ (by omega), zup_same]
                                                                                            · intro j hj
                                                                                              rw [hg]
                                                                                              rcases (show j = 0 ∨ j = 1 ∨ j = 2 ∨ j = 3 ∨ j = 4 ∨ j = 5 ∨ j = 6 ∨ j = 7 by omega) with rfl | rfl | rfl | rfl | rfl | rfl | rfl | rfl <;> simp [zup, zc8]
                                                                                            · intro i j hi hj
                                                                                              rw [hg, zup_ne _ _ (by omega), zup_ne _ _ (by omega), zup_ne _ _ (by omega), zup_ne _ _ (by omega), zup_ne _ _ (by omega), zup_ne _ _ (by omega), zup_ne _ _ (by omega), zup_ne _ _ (by omega), zup_ne _ _ (by omega)]
                                                                                            · intro i j hij
                                                                                              rw [hg, zup_ne _ _ (by omega), zup_ne _ _ (by omega), zup_ne _ _ (by omega), zup_ne _ _ (by omega), zup_ne _ _ (by omega), zup_ne _ _ (by omega), zup_ne _ _ (by omega), zup_ne _ _ (by omega), zup_ne _ _ (by omega)])⟩
    · skip
      have b12x : zB a3 41 2147483647 := by have q1 := b3x; have q2 := (zB.of (x := 40) 40 (by decide)); simp only [z32lt, z32le, z32eq, Int32.reduceToInt, Int32.toInt_zero] at h8_3; constructor <;> omega
      refine z_iconst (pc := 11) (v := -1) C dX9_years_11 (by decide) ?_
      exact z_iret (pc := 12) C hr dX9_years_12 ⟨⟨_, rfl, (zB.wk (a' := (-3)) (b' := 11) (zB.of (x := (-1)) (-1) (by decide)) (by decide) (by decide))⟩, hI, hF, (by intro v hv; cases hv; exact Or.inl ⟨by omega, rfl, rfl⟩)⟩

set_option maxRecDepth 100000 in
set_option maxHeartbeats 4000000 in
theorem x_X9_custom (d : Nat) (f : zM) (a1 : Int32) (b1 : zB a1 (-2147483648) 2147483647) (a2 : Int32) (b2 : zB a2 (-2147483648) 2147483647) (a3 : Int32) (b3 : zB a3 (-2147483648) 2147483647) (a4 : Int32) (b4 : zB a4 (-2147483648) 2147483647) (a5 : Int32) (b5 : zB a5 (-2147483648) 2147483647) (hI : zInv f) : ZM (d + 2) yX9_custom cX9_custom 7 (some .int) [zr 0 0, zi a1, zi a2, zi a3, zi a4, zi a5] f (fun r g => (∃ v, r = some (zi v) ∧ zB v (-3) 11) ∧ zInv g ∧ zFr [(1, some 7), (11, some 0), (11, some 1), (11, some 2), (11, some 3), (11, some 4), (11, some 5), (11, some 6), (11, some 7)] f g ∧ (∀ v : Int32, r = some (zi v) → (¬ ((0 ≤ a1.toInt ∧ a1.toInt ≤ 5) ∧ (0 ≤ a2.toInt ∧ a2.toInt ≤ 5) ∧ ¬ a1.toInt = a2.toInt ∧ (0 ≤ a3.toInt ∧ a3.toInt ≤ 31) ∧ (0 ≤ a4.toInt ∧ a4.toInt ≤ 99) ∧ (0 ≤ a5.toInt ∧ a5.toInt ≤ 7)) ∧ v = -1 ∧ g = f) ∨ (((0 ≤ a1.toInt ∧ a1.toInt ≤ 5) ∧ (0 ≤ a2.toInt ∧ a2.toInt ≤ 5) ∧ ¬ a1.toInt = a2.toInt ∧ (0 ≤ a3.toInt ∧ a3.toInt ≤ 31) ∧ (0 ≤ a4.toInt ∧ a4.toInt ≤ 99) ∧ (0 ≤ a5.toInt ∧ a5.toInt ≤ 7)) ∧ 12 ≤ (f 1 0 7).toInt ∧ v = -3 ∧ g = f) ∨ (((0 ≤ a1.toInt ∧ a1.toInt ≤ 5) ∧ (0 ≤ a2.toInt ∧ a2.toInt ≤ 5) ∧ ¬ a1.toInt = a2.toInt ∧ (0 ≤ a3.toInt ∧ a3.toInt ≤ 31) ∧ (0 ≤ a4.toInt ∧ a4.toInt ≤ 99) ∧ (0 ≤ a5.toInt ∧ a5.toInt ≤ 7)) ∧ (f 1 0 7).toInt < 12 ∧ v = f 1 0 7 ∧ g 1 0 7 = f 1 0 7 + 1 ∧ (∀ j, j < 8 → g 11 (f 1 0 7).toInt.toNat j = zc8 2 a1 a2 1 0 a3 a4 a5 j) ∧ (∀ i j, i ≠ (f 1 0 7).toInt.toNat → j < 8 → g 11 i j = f 11 i j) ∧ (∀ i j, ¬ (i = 0 ∧ j = 7) → g 1 i j = f 1 i j)))) := by
  refine ZM.intro (by decide +kernel) (Nat.le_of_ble_eq_true rfl) ?_
  intro X C hr hn
  have hF : zFr [(1, some 7), (11, some 0), (11, some 1), (11, some 2), (11, some 3), (11, some 4), (11, some 5), (11, some 6), (11, some 7)] f f := zFr.rf _ _
  show Z X 0 [some (zr 0 0), some (zi a1), some (zi a2), some (zi a3), some (zi a4), some (zi a5), none] [] f
  refine z_aload_n (pc := 0) C dX9_custom_0 rfl ?_
  refine z_iload_n (pc := 1) C dX9_custom_1 rfl ?_
  refine z_iload_n (pc := 2) C dX9_custom_2 rfl ?_
  refine z_iload_n (pc := 3) C dX9_custom_3 rfl ?_
  refine z_iload (pc := 4) C dX9_custom_4 rfl ?_
  refine z_iload (pc := 6) C dX9_custom_6 rfl ?_
  refine z_callV (pc := 8) C zk_X9_86 (x_X9_addPaper _ _ a1 b1 a2 b2 a3 b3 a4 b4 a5 b5 hI) rfl rfl (by decide) rfl rfl (Nat.le_of_ble_eq_true rfl) dX9_custom_8 (fun r1 g1 q1 => ?_)
  obtain ⟨⟨v1, rfl, b1x⟩, hI1, hF1q, hp1_0⟩ := q1
  have hp1_0 := hp1_0 _ rfl
  have hF1 := zFr.tr hF hF1q (by decide)
  simp only [Option.toList, List.cons_append, List.nil_append]
  refine z_istore (pc := 11) C dX9_custom_11 (by rw [hn]; decide) rfl ?_
  refine z_iload (pc := 13) C dX9_custom_13 rfl ?_
  refine z_if_lt (pc := 15) 34 C dX9_custom_15 (by decide) (fun h15_1 => ?_) (fun h15_1 => ?_)
  · skip
    have b3x : zB v1 (-3) (-1) := by have q1 := b1x; have q2 := (zB.of (x := 0) 0 (by decide)); simp only [z32lt, z32le, z32eq, Int32.reduceToInt, Int32.toInt_zero] at h15_1; constructor <;> omega
    refine z_iload (pc := 34) C dX9_custom_34 rfl ?_
    exact z_iret (pc := 36) C hr dX9_custom_36 ⟨⟨_, rfl, (zB.wk (a' := (-3)) (b' := 11) b3x (by decide) (by decide))⟩, hI1, hF1, (by
                                                                                          intro v hv; cases hv
                                                                                          rcases hp1_0 with ⟨h1, h2, h3⟩ | ⟨h1, h2, h3, h4⟩ | ⟨h1, h2, h3, h4⟩
                                                                                          · exact Or.inl ⟨fun hG => h1 (by exact hG), h2, h3⟩
                                                                                          · exact Or.inr (Or.inl ⟨h1, h2, h3, h4⟩)
                                                                                          · exfalso
                                                                                            rw [z32eq] at h3
                                                                                            have b7 : 0 ≤ (f 1 0 7).toInt := (hI 1 0 7).1
                                                                                            omega)⟩
  · skip
    have b4x : zB v1 0 11 := by have q1 := b1x; have q2 := (zB.of (x := 0) 0 (by decide)); simp only [z32lt, z32le, z32eq, Int32.reduceToInt, Int32.toInt_zero] at h15_1; constructor <;> omega
    refine z_aload_n (pc := 18) C dX9_custom_18 rfl ?_
    refine z_getR (pc := 19) C zf_X9_10 rfl rfl (by decide) dX9_custom_19 ?_
    refine z_getR (pc := 22) C zf_X9_90 rfl rfl (by decide) dX9_custom_22 ?_
    refine z_iload (pc := 25) C dX9_custom_25 rfl ?_
    refine z_aald (pc := 27) C rfl ⟨rfl, by decide⟩ (by decide) (zIx b4x (by decide) (by decide)) dX9_custom_27 ?_
    refine w_grx (by have hq := zN b4x (by decide); show 12 * 0 + v1.toNatClampNeg < 36; omega) (fun m5 q5r h5x => ?_)
    have q5r : m5 = 12 * 0 + v1.toNatClampNeg := q5r
    have k5r : v1.toNatClampNeg = v1.toInt.toNat := rfl
    refine z_iconst (pc := 28) (v := 2) C dX9_custom_28 (by decide) ?_
    refine z_iconst (pc := 29) (v := 1) C dX9_custom_29 (by decide) ?_
    refine z_iconst (pc := 30) (v := 0) C dX9_custom_30 (by decide) ?_
    refine z_callV (pc := 31) C zk_X9_94 (x_X4_become _ _ m5 h5x 2 (zB.wk (a' := 0) (b' := 2) (zB.of (x := 2) 2 (by decide)) (by decide) (by decide)) 1 (zB.wk (a' := 0) (b' := 40) (zB.of (x := 1) 1 (by decide)) (by decide) (by decide)) 0 (zB.wk (a' := (-2147483648)) (b' := 2147483647) (zB.of (x := 0) 0 (by decide)) (by decide) (by decide)) hI1) rfl rfl h5x rfl rfl (Nat.le_of_ble_eq_true rfl) dX9_custom_31 (fun r6 g6 q6 => ?_)
    have qa6_0 : (0 : Int32).toInt = 0 := by decide
    have qa6_1 : (1 : Int32).toInt = 1 := by decide
    have qa6_2 : (2 : Int32).toInt = 2 := by decide
    obtain ⟨rfl, hI6, hF6q, hp6_0⟩ := q6
    have hF6 := zFr.tr hF1 hF6q (by decide)
    simp only [Option.toList, List.cons_append, List.nil_append]
    refine z_iload (pc := 34) C dX9_custom_34 rfl ?_
    exact z_iret (pc := 36) C hr dX9_custom_36 ⟨⟨_, rfl, (zB.wk (a' := (-3)) (b' := 11) b4x (by decide) (by decide))⟩, hI6, hF6, (by
                                                                                          intro v hv; cases hv
                                                                                          rcases hp1_0 with ⟨h1, h2, h3⟩ | ⟨h1, h2, h3, h4⟩ | ⟨h1, h2, h3, h4⟩
                                                                                          · exfalso; rw [z32eq] at h2; have c1 : (-1 : Int32).toInt = -1 := by decide
                                                                                            omega
                                                                                          · exfalso; rw [z32eq] at h3; have c1 : (-3 : Int32).toInt = -3 := by decide
                                                                                            omega
                                                                                          · have h3i : (v1).toInt = (f 1 0 7).toInt := by rw [h3]
                                                                                            have hn : m5 = (f 1 0 7).toInt.toNat := by omega
                                                                                            have hg := hp6_0
                                                                                            rw [hn, h4] at hg
                                                                                            refine Or.inr (Or.inr ⟨h1, h2, h3, ?_, ?_, ?_, ?_⟩)
                                                                                            · rw [hg, zup_ne _ _ (by omega), zup_ne _ _ (by omega), zup_ne _ _ (by omega), zup_same]
                                                                                            · intro j hj
                                                                                              rw [hg]
                                                                                              rcases (show j = 0 ∨ j = 1 ∨ j = 2 ∨ j = 3 ∨ j = 4 ∨ j = 5 ∨ j = 6 ∨ j = 7 by omega) with rfl | rfl | rfl | rfl | rfl | rfl | rfl | rfl <;> simp [zup, zc8]
                                                                                            · intro i j hi hj
                                                                                              rw [hg, zup_ne _ _ (by omega), zup_ne _ _ (by omega), zup_ne _ _ (by omega), zup_ne _ _ (by omega), zup_ne _ _ (by omega), zup_ne _ _ (by omega), zup_ne _ _ (by omega), zup_ne _ _ (by omega), zup_ne _ _ (by omega)]
                                                                                            · intro i j hij
                                                                                              rw [hg, zup_ne _ _ (by omega), zup_ne _ _ (by omega), zup_ne _ _ (by omega), zup_ne _ _ (by omega), zup_ne _ _ (by omega), zup_ne _ _ (by omega), zup_ne _ _ (by omega), zup_ne _ _ (by omega), zup_ne _ _ (by omega)])⟩

set_option maxRecDepth 100000 in
set_option maxHeartbeats 4000000 in
theorem x_X10_addPaper (d : Nat) (f : zM) (a1 : Int32) (b1 : zB a1 0 2) (a2 : Int32) (b2 : zB a2 0 5) (a3 : Int32) (b3 : zB a3 0 5) (a4 : Int32) (b4 : zB a4 0 40) (a5 : Int32) (b5 : zB a5 (-2147483648) 2147483647) (a6 : Int32) (b6 : zB a6 0 31) (a7 : Int32) (b7 : zB a7 0 99) (a8 : Int32) (b8 : zB a8 0 7) (hI : zInv f) : ZM d yX10_addPaper cX10_addPaper 10 (some .int) [zr 25 0, zi a1, zi a2, zi a3, zi a4, zi a5, zi a6, zi a7, zi a8] f (fun r g => (∃ v, r = some (zi v) ∧ zB v (-3) 11) ∧ zInv g ∧ zFr [(25, some 4), (28, none)] f g ∧ (∀ v : Int32, r = some (zi v) → (12 ≤ (f 25 0 4).toInt ∧ v = -3 ∧ g = f) ∨ ((f 25 0 4).toInt < 12 ∧ v = f 25 0 4 ∧ g 25 0 4 = f 25 0 4 + 1 ∧ (∀ j, j < 8 → g 28 0 (8 * (f 25 0 4).toInt.toNat + j) = zc8 a1 a2 a3 a4 a5 a6 a7 a8 j) ∧ (∀ q, (q < 8 * (f 25 0 4).toInt.toNat ∨ 8 * (f 25 0 4).toInt.toNat + 8 ≤ q) → g 28 0 q = f 28 0 q)))) := by
  refine ZM.intro (by decide +kernel) (Nat.le_of_ble_eq_true rfl) ?_
  intro X C hr hn
  have hF : zFr [(25, some 4), (28, none)] f f := zFr.rf _ _
  have ct25_0_4 : zB (f 25 0 4) 0 12 := hI 25 0 4
  show Z X 0 [some (zr 25 0), some (zi a1), some (zi a2), some (zi a3), some (zi a4), some (zi a5), some (zi a6), some (zi a7), some (zi a8), none] [] f
  refine z_aload_n (pc := 0) C dX10_addPaper_0 rfl ?_
  refine z_getI (pc := 1) C zf_X10_77 rfl rfl (by decide) dX10_addPaper_1 ?_
  refine w_gp (fun v => v = f 25 0 4) rfl (fun v1 q1 => ?_)
  have e1 : v1.toInt = (f 25 0 4).toInt := by rw [q1]
  have b1x : zB v1 0 12 := by first | exact zB.eqv e1 ct25_0_4 | (have q9 := ct25_0_4; constructor <;> omega)
  refine z_bipush (pc := 4) (v := 12) C dX10_addPaper_4 (by decide) ?_
  refine z_icmp_ne (pc := 6) 12 C dX10_addPaper_6 (by decide) (fun h6_1 => ?_) (fun h6_1 => ?_)
  · skip
    have b3x : zB v1 0 11 := by have q1 := b1x; have q2 := (zB.of (x := 12) 12 (by decide)); simp only [z32lt, z32le, z32eq, Int32.reduceToInt, Int32.toInt_zero] at h6_1; constructor <;> omega
    have c4x : zB (f 25 0 4) 0 11 := by first | assumption | (constructor <;> omega)
    refine z_bipush (pc := 12) (v := 8) C dX10_addPaper_12 (by decide) ?_
    refine z_aload_n (pc := 14) C dX10_addPaper_14 rfl ?_
    refine z_getI (pc := 15) C zf_X10_77 rfl rfl (by decide) dX10_addPaper_15 ?_
    refine w_gp (fun v => v = f 25 0 4) rfl (fun v5 q5 => ?_)
    have e5 : v5.toInt = (f 25 0 4).toInt := by rw [q5]
    have b5x : zB v5 0 11 := by first | exact zB.eqv e5 c4x | (have q9 := c4x; constructor <;> omega)
    refine z_imul (pc := 18) C dX10_addPaper_18 ?_
    refine w_gp (fun v => v = (8 : Int32) * v5) rfl (fun v6 q6 => ?_)
    have e6 : v6.toInt = 8 * v5.toInt := by rw [q6]; exact (zmul_kb 8 (by decide) (by decide) b5x (by decide) (by decide))
    have b6x : zB v6 0 88 := zmul_bb e6 (by decide) b5x
    refine z_istore (pc := 19) C dX10_addPaper_19 (by rw [hn]; decide) rfl ?_
    refine z_aload_n (pc := 21) C dX10_addPaper_21 rfl ?_
    refine z_getR (pc := 22) C zf_X10_16 rfl rfl (by decide) dX10_addPaper_22 ?_
    refine z_iload (pc := 25) C dX10_addPaper_25 rfl ?_
    refine z_iload_n (pc := 27) C dX10_addPaper_27 rfl ?_
    have kw28_6 : v6.toNatClampNeg = v6.toInt.toNat := rfl
    refine z_iast (pc := 28) C rfl (by decide) (zIx b6x (by decide) (by decide)) dX10_addPaper_28 ?_
    refine w_memx hI hF (by rw [zrg28 (r := 0) (by have hq : v6.toNatClampNeg = v6.toInt.toNat := rfl; have hq2 := b6x; omega)]; exact b1) rfl (fun g7 qm7 hI7 hF7 hq7 hx7 => ?_)
    have ek7_25_0_4 : (g7 25 0 4).toInt = (f 25 0 4).toInt := by rw [hq7 25 0 4 (by omega)]
    have c7_25_0_4x : zB (g7 25 0 4) 0 11 := by rw [hq7 25 0 4 (by omega)]; exact c4x
    refine z_aload_n (pc := 29) C dX10_addPaper_29 rfl ?_
    refine z_getR (pc := 30) C zf_X10_16 rfl rfl (by decide) dX10_addPaper_30 ?_
    refine z_iload (pc := 33) C dX10_addPaper_33 rfl ?_
    refine z_iconst (pc := 35) (v := 1) C dX10_addPaper_35 (by decide) ?_
    refine z_iadd (pc := 36) C dX10_addPaper_36 ?_
    refine w_gp (fun v => v = v6 + (1 : Int32)) rfl (fun v8 q8 => ?_)
    have e8 : v8.toInt = v6.toInt + 1 := by rw [q8]; exact (zadd_eb b6x (zB.of (x := 1) 1 (by decide)) (by decide) (by decide))
    have b8x : zB v8 1 89 := by have q1 := b6x; have q2 := (zB.of (x := 1) 1 (by decide)); constructor <;> omega
    refine z_iload_n (pc := 37) C dX10_addPaper_37 rfl ?_
    have kw38_8 : v8.toNatClampNeg = v8.toInt.toNat := rfl
    refine z_iast (pc := 38) C rfl (by decide) (zIx b8x (by decide) (by decide)) dX10_addPaper_38 ?_
    refine w_memx hI7 hF7 (by rw [zrg28 (r := 1) (by have hq : v8.toNatClampNeg = v8.toInt.toNat := rfl; have hq2 := b8x; omega)]; exact b2) rfl (fun g9 qm9 hI9 hF9 hq9 hx9 => ?_)
    have ek9_25_0_4 : (g9 25 0 4).toInt = (g7 25 0 4).toInt := by rw [hq9 25 0 4 (by omega)]
    have c9_25_0_4x : zB (g9 25 0 4) 0 11 := by rw [hq9 25 0 4 (by omega)]; exact c7_25_0_4x
    refine z_aload_n (pc := 39) C dX10_addPaper_39 rfl ?_
    refine z_getR (pc := 40) C zf_X10_16 rfl rfl (by decide) dX10_addPaper_40 ?_
    refine z_iload (pc := 43) C dX10_addPaper_43 rfl ?_
    refine z_iconst (pc := 45) (v := 2) C dX10_addPaper_45 (by decide) ?_
    refine z_iadd (pc := 46) C dX10_addPaper_46 ?_
    refine w_gp (fun v => v = v6 + (2 : Int32)) rfl (fun v10 q10 => ?_)
    have e10 : v10.toInt = v6.toInt + 2 := by rw [q10]; exact (zadd_eb b6x (zB.of (x := 2) 2 (by decide)) (by decide) (by decide))
    have b10x : zB v10 2 90 := by have q1 := b6x; have q2 := (zB.of (x := 2) 2 (by decide)); constructor <;> omega
    refine z_iload_n (pc := 47) C dX10_addPaper_47 rfl ?_
    have kw48_10 : v10.toNatClampNeg = v10.toInt.toNat := rfl
    refine z_iast (pc := 48) C rfl (by decide) (zIx b10x (by decide) (by decide)) dX10_addPaper_48 ?_
    refine w_memx hI9 hF9 (by rw [zrg28 (r := 2) (by have hq : v10.toNatClampNeg = v10.toInt.toNat := rfl; have hq2 := b10x; omega)]; exact b3) rfl (fun g11 qm11 hI11 hF11 hq11 hx11 => ?_)
    have ek11_25_0_4 : (g11 25 0 4).toInt = (g9 25 0 4).toInt := by rw [hq11 25 0 4 (by omega)]
    have c11_25_0_4x : zB (g11 25 0 4) 0 11 := by rw [hq11 25 0 4 (by omega)]; exact c9_25_0_4x
    refine z_aload_n (pc := 49) C dX10_addPaper_49 rfl ?_
    refine z_getR (pc := 50) C zf_X10_16 rfl rfl (by decide) dX10_addPaper_50 ?_
    refine z_iload (pc := 53) C dX10_addPaper_53 rfl ?_
    refine z_iconst (pc := 55) (v := 3) C dX10_addPaper_55 (by decide) ?_
    refine z_iadd (pc := 56) C dX10_addPaper_56 ?_
    refine w_gp (fun v => v = v6 + (3 : Int32)) rfl (fun v12 q12 => ?_)
    have e12 : v12.toInt = v6.toInt + 3 := by rw [q12]; exact (zadd_eb b6x (zB.of (x := 3) 3 (by decide)) (by decide) (by decide))
    have b12x : zB v12 3 91 := by have q1 := b6x; have q2 := (zB.of (x := 3) 3 (by decide)); constructor <;> omega
    refine z_iload (pc := 57) C dX10_addPaper_57 rfl ?_
    have kw59_12 : v12.toNatClampNeg = v12.toInt.toNat := rfl
    refine z_iast (pc := 59) C rfl (by decide) (zIx b12x (by decide) (by decide)) dX10_addPaper_59 ?_
    refine w_memx hI11 hF11 (by rw [zrg28 (r := 3) (by have hq : v12.toNatClampNeg = v12.toInt.toNat := rfl; have hq2 := b12x; omega)]; exact b4) rfl (fun g13 qm13 hI13 hF13 hq13 hx13 => ?_)
    have ek13_25_0_4 : (g13 25 0 4).toInt = (g11 25 0 4).toInt := by rw [hq13 25 0 4 (by omega)]
    have c13_25_0_4x : zB (g13 25 0 4) 0 11 := by rw [hq13 25 0 4 (by omega)]; exact c11_25_0_4x
    refine z_aload_n (pc := 60) C dX10_addPaper_60 rfl ?_
    refine z_getR (pc := 61) C zf_X10_16 rfl rfl (by decide) dX10_addPaper_61 ?_
    refine z_iload (pc := 64) C dX10_addPaper_64 rfl ?_
    refine z_iconst (pc := 66) (v := 4) C dX10_addPaper_66 (by decide) ?_
    refine z_iadd (pc := 67) C dX10_addPaper_67 ?_
    refine w_gp (fun v => v = v6 + (4 : Int32)) rfl (fun v14 q14 => ?_)
    have e14 : v14.toInt = v6.toInt + 4 := by rw [q14]; exact (zadd_eb b6x (zB.of (x := 4) 4 (by decide)) (by decide) (by decide))
    have b14x : zB v14 4 92 := by have q1 := b6x; have q2 := (zB.of (x := 4) 4 (by decide)); constructor <;> omega
    refine z_iload (pc := 68) C dX10_addPaper_68 rfl ?_
    have kw70_14 : v14.toNatClampNeg = v14.toInt.toNat := rfl
    refine z_iast (pc := 70) C rfl (by decide) (zIx b14x (by decide) (by decide)) dX10_addPaper_70 ?_
    refine w_memx hI13 hF13 (by rw [zrg28 (r := 4) (by have hq : v14.toNatClampNeg = v14.toInt.toNat := rfl; have hq2 := b14x; omega)]; exact b5) rfl (fun g15 qm15 hI15 hF15 hq15 hx15 => ?_)
    have ek15_25_0_4 : (g15 25 0 4).toInt = (g13 25 0 4).toInt := by rw [hq15 25 0 4 (by omega)]
    have c15_25_0_4x : zB (g15 25 0 4) 0 11 := by rw [hq15 25 0 4 (by omega)]; exact c13_25_0_4x
    refine z_aload_n (pc := 71) C dX10_addPaper_71 rfl ?_
    refine z_getR (pc := 72) C zf_X10_16 rfl rfl (by decide) dX10_addPaper_72 ?_
    refine z_iload (pc := 75) C dX10_addPaper_75 rfl ?_
    refine z_iconst (pc := 77) (v := 5) C dX10_addPaper_77 (by decide) ?_
    refine z_iadd (pc := 78) C dX10_addPaper_78 ?_
    refine w_gp (fun v => v = v6 + (5 : Int32)) rfl (fun v16 q16 => ?_)
    have e16 : v16.toInt = v6.toInt + 5 := by rw [q16]; exact (zadd_eb b6x (zB.of (x := 5) 5 (by decide)) (by decide) (by decide))
    have b16x : zB v16 5 93 := by have q1 := b6x; have q2 := (zB.of (x := 5) 5 (by decide)); constructor <;> omega
    refine z_iload (pc := 79) C dX10_addPaper_79 rfl ?_
    have kw81_16 : v16.toNatClampNeg = v16.toInt.toNat := rfl
    refine z_iast (pc := 81) C rfl (by decide) (zIx b16x (by decide) (by decide)) dX10_addPaper_81 ?_
    refine w_memx hI15 hF15 (by rw [zrg28 (r := 5) (by have hq : v16.toNatClampNeg = v16.toInt.toNat := rfl; have hq2 := b16x; omega)]; exact b6) rfl (fun g17 qm17 hI17 hF17 hq17 hx17 => ?_)
    have ek17_25_0_4 : (g17 25 0 4).toInt = (g15 25 0 4).toInt := by rw [hq17 25 0 4 (by omega)]
    have c17_25_0_4x : zB (g17 25 0 4) 0 11 := by rw [hq17 25 0 4 (by omega)]; exact c15_25_0_4x
    refine z_aload_n (pc := 82) C dX10_addPaper_82 rfl ?_
    refine z_getR (pc := 83) C zf_X10_16 rfl rfl (by decide) dX10_addPaper_83 ?_
    refine z_iload (pc := 86) C dX10_addPaper_86 rfl ?_
    refine z_bipush (pc := 88) (v := 6) C dX10_addPaper_88 (by decide) ?_
    refine z_iadd (pc := 90) C dX10_addPaper_90 ?_
    refine w_gp (fun v => v = v6 + (6 : Int32)) rfl (fun v18 q18 => ?_)
    have e18 : v18.toInt = v6.toInt + 6 := by rw [q18]; exact (zadd_eb b6x (zB.of (x := 6) 6 (by decide)) (by decide) (by decide))
    have b18x : zB v18 6 94 := by have q1 := b6x; have q2 := (zB.of (x := 6) 6 (by decide)); constructor <;> omega
    refine z_iload (pc := 91) C dX10_addPaper_91 rfl ?_
    have kw93_18 : v18.toNatClampNeg = v18.toInt.toNat := rfl
    refine z_iast (pc := 93) C rfl (by decide) (zIx b18x (by decide) (by decide)) dX10_addPaper_93 ?_
    refine w_memx hI17 hF17 (by rw [zrg28 (r := 6) (by have hq : v18.toNatClampNeg = v18.toInt.toNat := rfl; have hq2 := b18x; omega)]; exact b7) rfl (fun g19 qm19 hI19 hF19 hq19 hx19 => ?_)
    have ek19_25_0_4 : (g19 25 0 4).toInt = (g17 25 0 4).toInt := by rw [hq19 25 0 4 (by omega)]
    have c19_25_0_4x : zB (g19 25 0 4) 0 11 := by rw [hq19 25 0 4 (by omega)]; exact c17_25_0_4x
    refine z_aload_n (pc := 94) C dX10_addPaper_94 rfl ?_
    refine z_getR (pc := 95) C zf_X10_16 rfl rfl (by decide) dX10_addPaper_95 ?_
    refine z_iload (pc := 98) C dX10_addPaper_98 rfl ?_
    refine z_bipush (pc := 100) (v := 7) C dX10_addPaper_100 (by decide) ?_
    refine z_iadd (pc := 102) C dX10_addPaper_102 ?_
    refine w_gp (fun v => v = v6 + (7 : Int32)) rfl (fun v20 q20 => ?_)
    have e20 : v20.toInt = v6.toInt + 7 := by rw [q20]; exact (zadd_eb b6x (zB.of (x := 7) 7 (by decide)) (by decide) (by decide))
    have b20x : zB v20 7 95 := by have q1 := b6x; have q2 := (zB.of (x := 7) 7 (by decide)); constructor <;> omega
    refine z_iload (pc := 103) C dX10_addPaper_103 rfl ?_
    have kw105_20 : v20.toNatClampNeg = v20.toInt.toNat := rfl
    refine z_iast (pc := 105) C rfl (by decide) (zIx b20x (by decide) (by decide)) dX10_addPaper_105 ?_
    refine w_memx hI19 hF19 (by rw [zrg28 (r := 7) (by have hq : v20.toNatClampNeg = v20.toInt.toNat := rfl; have hq2 := b20x; omega)]; exact b8) rfl (fun g21 qm21 hI21 hF21 hq21 hx21 => ?_)
    have ek21_25_0_4 : (g21 25 0 4).toInt = (g19 25 0 4).toInt := by rw [hq21 25 0 4 (by omega)]
    have c21_25_0_4x : zB (g21 25 0 4) 0 11 := by rw [hq21 25 0 4 (by omega)]; exact c19_25_0_4x
    refine z_aload_n (pc := 106) C dX10_addPaper_106 rfl ?_
    refine z_dupr (pc := 107) C dX10_addPaper_107 ?_
    refine z_getI (pc := 108) C zf_X10_77 rfl rfl (by decide) dX10_addPaper_108 ?_
    refine w_gp (fun v => v = g21 25 0 4) rfl (fun v22 q22 => ?_)
    have e22 : v22.toInt = (g21 25 0 4).toInt := by rw [q22]
    have b22x : zB v22 0 11 := by first | exact zB.eqv e22 c21_25_0_4x | (have q9 := c21_25_0_4x; constructor <;> omega)
    refine z_iconst (pc := 111) (v := 1) C dX10_addPaper_111 (by decide) ?_
    refine z_iadd (pc := 112) C dX10_addPaper_112 ?_
    refine w_gp (fun v => v = v22 + (1 : Int32)) rfl (fun v23 q23 => ?_)
    have e23 : v23.toInt = v22.toInt + 1 := by rw [q23]; exact (zadd_eb b22x (zB.of (x := 1) 1 (by decide)) (by decide) (by decide))
    have b23x : zB v23 1 12 := by have q1 := b22x; have q2 := (zB.of (x := 1) 1 (by decide)); constructor <;> omega
    refine z_putI (pc := 113) C zf_X10_77 zp_10_4 rfl rfl (by decide) dX10_addPaper_113 ?_
    refine w_memx hI21 hF21 (zB.wk (a' := 0) (b' := 12) b23x (by decide) (by decide)) rfl (fun g24 qm24 hI24 hF24 hq24 hx24 => ?_)
    have ec24 : (g24 25 0 4).toInt = v23.toInt := by rw [hx24]
    have c24x : zB (g24 25 0 4) 1 12 := by first | exact zB.eqv ec24 b23x | (have q9 := b23x; constructor <;> omega)
    refine z_aload_n (pc := 116) C dX10_addPaper_116 rfl ?_
    refine z_getI (pc := 117) C zf_X10_77 rfl rfl (by decide) dX10_addPaper_117 ?_
    refine w_gp (fun v => v = g24 25 0 4) rfl (fun v25 q25 => ?_)
    have e25 : v25.toInt = (g24 25 0 4).toInt := by rw [q25]
    have b25x : zB v25 1 12 := by first | exact zB.eqv e25 c24x | (have q9 := c24x; constructor <;> omega)
    refine z_iconst (pc := 120) (v := 1) C dX10_addPaper_120 (by decide) ?_
    refine z_isub (pc := 121) C dX10_addPaper_121 ?_
    refine w_gp (fun v => v = v25 - (1 : Int32)) rfl (fun v26 q26 => ?_)
    have e26 : v26.toInt = v25.toInt - 1 := by rw [q26]; exact (zsub_eb b25x (zB.of (x := 1) 1 (by decide)) (by decide) (by decide))
    have b26x : zB v26 0 11 := by have q1 := b25x; have q2 := (zB.of (x := 1) 1 (by decide)); constructor <;> omega
    exact z_iret (pc := 122) C hr dX10_addPaper_122 ⟨⟨_, rfl, (zB.wk (a' := (-3)) (b' := 11) b26x (by decide) (by decide))⟩, hI24, hF24, (by
                                                                                          intro v hv; cases hv
                                                                                          have e1 : ((f 25 0 4) + 1 : Int32).toInt = (f 25 0 4).toInt + 1 := zadd_eb (x := f 25 0 4) (hI 25 0 4) (zB.of (x := 1) 1 (by decide)) (by decide) (by decide)
                                                                                          refine Or.inr ⟨by omega, by rw [z32eq]; omega, by rw [z32eq]; omega, ?_⟩
                                                                                          have hr := zrow8 (k := 28) (K := 8 * (f 25 0 4).toInt.toNat) qm7 qm9 qm11 qm13 qm15 qm17 qm19 qm21 (show (v6).toNatClampNeg = 8 * (f 25 0 4).toInt.toNat + 0 by omega) (show (v8).toNatClampNeg = 8 * (f 25 0 4).toInt.toNat + 1 by omega) (show (v10).toNatClampNeg = 8 * (f 25 0 4).toInt.toNat + 2 by omega) (show (v12).toNatClampNeg = 8 * (f 25 0 4).toInt.toNat + 3 by omega) (show (v14).toNatClampNeg = 8 * (f 25 0 4).toInt.toNat + 4 by omega) (show (v16).toNatClampNeg = 8 * (f 25 0 4).toInt.toNat + 5 by omega) (show (v18).toNatClampNeg = 8 * (f 25 0 4).toInt.toNat + 6 by omega) (show (v20).toNatClampNeg = 8 * (f 25 0 4).toInt.toNat + 7 by omega)
                                                                                          refine ⟨fun j hj => ?_, fun q hq => ?_⟩
                                                                                          · rw [qm24, zup_ne _ _ (fun h => absurd h.1 (by decide))]; exact hr.1 j hj
                                                                                          · rw [qm24, zup_ne _ _ (fun h => absurd h.1 (by decide))]; exact hr.2 q hq)⟩
  · skip
    have b27x : zB v1 12 12 := by have q1 := b1x; have q2 := (zB.of (x := 12) 12 (by decide)); simp only [z32lt, z32le, z32eq, Int32.reduceToInt, Int32.toInt_zero] at h6_1; constructor <;> omega
    have c28x : zB (f 25 0 4) 12 12 := by first | assumption | (constructor <;> omega)
    refine z_bipush (pc := 9) (v := -3) C dX10_addPaper_9 (by decide) ?_
    exact z_iret (pc := 11) C hr dX10_addPaper_11 ⟨⟨_, rfl, (zB.wk (a' := (-3)) (b' := 11) (zB.of (x := (-3)) (-3) (by decide)) (by decide) (by decide))⟩, hI, hF, (by intro v hv; cases hv; exact Or.inl ⟨by omega, rfl, rfl⟩)⟩

set_option maxRecDepth 100000 in
set_option maxHeartbeats 4000000 in
theorem x_X10_years (d : Nat) (f : zM) (a1 : Int32) (b1 : zB a1 (-2147483648) 2147483647) (a2 : Int32) (b2 : zB a2 (-2147483648) 2147483647) (a3 : Int32) (b3 : zB a3 (-2147483648) 2147483647) (a4 : Int32) (b4 : zB a4 (-2147483648) 2147483647) (a5 : Int32) (b5 : zB a5 (-2147483648) 2147483647) (a6 : Int32) (b6 : zB a6 (-2147483648) 2147483647) (hI : zInv f) : ZM (d + 3) yX10_years cX10_years 7 (some .int) [zr 25 0, zi a1, zi a2, zi a3, zi a4, zi a5, zi a6] f (fun r g => (∃ v, r = some (zi v) ∧ zB v (-3) 11) ∧ zInv g ∧ zFr [(25, some 4), (28, none)] f g ∧ (∀ v : Int32, r = some (zi v) → (¬ (((0 ≤ a1.toInt ∧ a1.toInt ≤ 5) ∧ (0 ≤ a2.toInt ∧ a2.toInt ≤ 5) ∧ ¬ a1.toInt = a2.toInt ∧ (0 ≤ a4.toInt ∧ a4.toInt ≤ 31) ∧ (0 ≤ a5.toInt ∧ a5.toInt ≤ 99) ∧ (0 ≤ a6.toInt ∧ a6.toInt ≤ 7)) ∧ (1 ≤ a3.toInt ∧ a3.toInt ≤ 40)) ∧ v = -1 ∧ g = f) ∨ ((((0 ≤ a1.toInt ∧ a1.toInt ≤ 5) ∧ (0 ≤ a2.toInt ∧ a2.toInt ≤ 5) ∧ ¬ a1.toInt = a2.toInt ∧ (0 ≤ a4.toInt ∧ a4.toInt ≤ 31) ∧ (0 ≤ a5.toInt ∧ a5.toInt ≤ 99) ∧ (0 ≤ a6.toInt ∧ a6.toInt ≤ 7)) ∧ (1 ≤ a3.toInt ∧ a3.toInt ≤ 40)) ∧ 12 ≤ (f 25 0 4).toInt ∧ v = -3 ∧ g = f) ∨ ((((0 ≤ a1.toInt ∧ a1.toInt ≤ 5) ∧ (0 ≤ a2.toInt ∧ a2.toInt ≤ 5) ∧ ¬ a1.toInt = a2.toInt ∧ (0 ≤ a4.toInt ∧ a4.toInt ≤ 31) ∧ (0 ≤ a5.toInt ∧ a5.toInt ≤ 99) ∧ (0 ≤ a6.toInt ∧ a6.toInt ≤ 7)) ∧ (1 ≤ a3.toInt ∧ a3.toInt ≤ 40)) ∧ (f 25 0 4).toInt < 12 ∧ v = f 25 0 4 ∧ g 25 0 4 = f 25 0 4 + 1 ∧ (∀ j, j < 8 → g 28 0 (8 * (f 25 0 4).toInt.toNat + j) = zc8 0 a1 a2 a3 0 a4 a5 a6 j) ∧ (∀ q, (q < 8 * (f 25 0 4).toInt.toNat ∨ 8 * (f 25 0 4).toInt.toNat + 8 ≤ q) → g 28 0 q = f 28 0 q)))) := by
  refine ZM.intro (by decide +kernel) (Nat.le_of_ble_eq_true rfl) ?_
  intro X C hr hn
  have hF : zFr [(25, some 4), (28, none)] f f := zFr.rf _ _
  show Z X 0 [some (zr 25 0), some (zi a1), some (zi a2), some (zi a3), some (zi a4), some (zi a5), some (zi a6)] [] f
  refine z_iload_n (pc := 0) C dX10_years_0 rfl ?_
  refine z_iload_n (pc := 1) C dX10_years_1 rfl ?_
  refine z_iload (pc := 2) C dX10_years_2 rfl ?_
  refine z_iload (pc := 4) C dX10_years_4 rfl ?_
  refine z_iload (pc := 6) C dX10_years_6 rfl ?_
  refine z_callSb (pc := 8) C zk_X10_101 (m_X10_mayBe _ _ _ _ _ _ _) rfl rfl (Nat.le_of_ble_eq_true rfl) dX10_years_8 (fun h8_0 => ?_) (fun h8_0 => ?_)
  · skip
    have b2x : zB a1 0 5 := h8_0.1
    have b3x : zB a2 0 5 := h8_0.2.1
    have b4x : zB a4 0 31 := h8_0.2.2.2.1
    have b5x : zB a5 0 99 := h8_0.2.2.2.2.1
    have b6x : zB a6 0 7 := h8_0.2.2.2.2.2
    refine z_if_eq (pc := 11) 44 C dX10_years_11 (by decide) (fun h => absurd h (by decide)) (fun _ => ?_)
    refine z_iload_n (pc := 14) C dX10_years_14 rfl ?_
    refine z_i2l (pc := 15) C dX10_years_15 ?_
    refine z_lconst (pc := 16) (v := 1) C dX10_years_16 (by decide) ?_
    refine z_ldc2 (pc := 17) C zw_1128 dX10_years_17 ?_
    refine z_callSb (pc := 20) C zk_X10_69 (m_X10_in _ _ _ _ _) rfl rfl (Nat.le_of_ble_eq_true rfl) dX10_years_20 (fun h20_6 => ?_) (fun h20_6 => ?_)
    · skip
      have hc20_1 : (1 ≤ a3.toInt ∧ a3.toInt ≤ 40) := by have q9 := h20_6; simp only [z64] at q9; exact q9
      have b8x : zB a3 1 40 := zin64 h20_6 rfl rfl
      refine z_if_eq (pc := 23) 44 C dX10_years_23 (by decide) (fun h => absurd h (by decide)) (fun _ => ?_)
      refine z_aload_n (pc := 26) C dX10_years_26 rfl ?_
      refine z_iconst (pc := 27) (v := 0) C dX10_years_27 (by decide) ?_
      refine z_iload_n (pc := 28) C dX10_years_28 rfl ?_
      refine z_iload_n (pc := 29) C dX10_years_29 rfl ?_
      refine z_iload_n (pc := 30) C dX10_years_30 rfl ?_
      refine z_iconst (pc := 31) (v := 0) C dX10_years_31 (by decide) ?_
      refine z_iload (pc := 32) C dX10_years_32 rfl ?_
      refine z_iload (pc := 34) C dX10_years_34 rfl ?_
      refine z_iload (pc := 36) C dX10_years_36 rfl ?_
      refine z_callV (pc := 38) C zk_X10_105 (x_X10_addPaper _ _ 0 (zB.wk (a' := 0) (b' := 2) (zB.of (x := 0) 0 (by decide)) (by decide) (by decide)) a1 b2x a2 b3x a3 (zB.wk (a' := 0) (b' := 40) b8x (by decide) (by decide)) 0 (zB.wk (a' := (-2147483648)) (b' := 2147483647) (zB.of (x := 0) 0 (by decide)) (by decide) (by decide)) a4 b4x a5 b5x a6 b6x hI) rfl rfl (by decide) rfl rfl (Nat.le_of_ble_eq_true rfl) dX10_years_38 (fun r9 g9 q9 => ?_)
      have qa9_0 : (0 : Int32).toInt = 0 := by decide
      obtain ⟨⟨v9, rfl, b9x⟩, hI9, hF9q, hp9_0⟩ := q9
      have hp9_0 := hp9_0 _ rfl
      have hF9 := zFr.tr hF hF9q (by decide)
      simp only [Option.toList, List.cons_append, List.nil_append]
      refine z_goto (pc := 41) 45 C dX10_years_41 (by decide) ?_
      exact z_iret (pc := 45) C hr dX10_years_45 ⟨⟨_, rfl, b9x⟩, hI9, hF9, (by
                                                                                          intro v hv; cases hv
                                                                                          rcases hp9_0 with ⟨h1, h2, h3⟩ | ⟨h1, h2, h3, h4, h5⟩
                                                                                          · exact Or.inr (Or.inl ⟨⟨by assumption, by assumption⟩, h1, h2, h3⟩)
                                                                                          · exact Or.inr (Or.inr ⟨⟨by assumption, by assumption⟩, h1, h2, h3, h4, h5⟩))⟩
    · skip
      have hc20_0 : ¬ (1 ≤ a3.toInt ∧ a3.toInt ≤ 40) := by have q9 := h20_6; simp only [z64] at q9; exact q9
      refine z_if_eq (pc := 23) 44 C dX10_years_23 (by decide) (fun _ => ?_) (fun h => absurd (by decide) h)
      refine z_iconst (pc := 44) (v := -1) C dX10_years_44 (by decide) ?_
      exact z_iret (pc := 45) C hr dX10_years_45 ⟨⟨_, rfl, (zB.wk (a' := (-3)) (b' := 11) (zB.of (x := (-1)) (-1) (by decide)) (by decide) (by decide))⟩, hI, hF, (by
                                                                                          intro v hv; cases hv
                                                                                          exact Or.inl ⟨(fun hG => by first | exact absurd hG.1 (by assumption) | exact absurd hG.2 (by assumption)), rfl, rfl⟩)⟩
  · skip
    refine z_if_eq (pc := 11) 44 C dX10_years_11 (by decide) (fun _ => ?_) (fun h => absurd (by decide) h)
    refine z_iconst (pc := 44) (v := -1) C dX10_years_44 (by decide) ?_
    exact z_iret (pc := 45) C hr dX10_years_45 ⟨⟨_, rfl, (zB.wk (a' := (-3)) (b' := 11) (zB.of (x := (-1)) (-1) (by decide)) (by decide) (by decide))⟩, hI, hF, (by
                                                                                          intro v hv; cases hv
                                                                                          exact Or.inl ⟨(fun hG => by first | exact absurd hG.1 (by assumption) | exact absurd hG.2 (by assumption)), rfl, rfl⟩)⟩

set_option maxRecDepth 100000 in
set_option maxHeartbeats 4000000 in
theorem x_X10_custom (d : Nat) (f : zM) (a1 : Int32) (b1 : zB a1 (-2147483648) 2147483647) (a2 : Int32) (b2 : zB a2 (-2147483648) 2147483647) (a3 : Int32) (b3 : zB a3 (-2147483648) 2147483647) (a4 : Int32) (b4 : zB a4 (-2147483648) 2147483647) (a5 : Int32) (b5 : zB a5 (-2147483648) 2147483647) (hI : zInv f) : ZM (d + 3) yX10_custom cX10_custom 6 (some .int) [zr 25 0, zi a1, zi a2, zi a3, zi a4, zi a5] f (fun r g => (∃ v, r = some (zi v) ∧ zB v (-3) 11) ∧ zInv g ∧ zFr [(25, some 4), (28, none)] f g ∧ (∀ v : Int32, r = some (zi v) → (¬ ((0 ≤ a1.toInt ∧ a1.toInt ≤ 5) ∧ (0 ≤ a2.toInt ∧ a2.toInt ≤ 5) ∧ ¬ a1.toInt = a2.toInt ∧ (0 ≤ a3.toInt ∧ a3.toInt ≤ 31) ∧ (0 ≤ a4.toInt ∧ a4.toInt ≤ 99) ∧ (0 ≤ a5.toInt ∧ a5.toInt ≤ 7)) ∧ v = -1 ∧ g = f) ∨ (((0 ≤ a1.toInt ∧ a1.toInt ≤ 5) ∧ (0 ≤ a2.toInt ∧ a2.toInt ≤ 5) ∧ ¬ a1.toInt = a2.toInt ∧ (0 ≤ a3.toInt ∧ a3.toInt ≤ 31) ∧ (0 ≤ a4.toInt ∧ a4.toInt ≤ 99) ∧ (0 ≤ a5.toInt ∧ a5.toInt ≤ 7)) ∧ 12 ≤ (f 25 0 4).toInt ∧ v = -3 ∧ g = f) ∨ (((0 ≤ a1.toInt ∧ a1.toInt ≤ 5) ∧ (0 ≤ a2.toInt ∧ a2.toInt ≤ 5) ∧ ¬ a1.toInt = a2.toInt ∧ (0 ≤ a3.toInt ∧ a3.toInt ≤ 31) ∧ (0 ≤ a4.toInt ∧ a4.toInt ≤ 99) ∧ (0 ≤ a5.toInt ∧ a5.toInt ≤ 7)) ∧ (f 25 0 4).toInt < 12 ∧ v = f 25 0 4 ∧ g 25 0 4 = f 25 0 4 + 1 ∧ (∀ j, j < 8 → g 28 0 (8 * (f 25 0 4).toInt.toNat + j) = zc8 2 a1 a2 1 0 a3 a4 a5 j) ∧ (∀ q, (q < 8 * (f 25 0 4).toInt.toNat ∨ 8 * (f 25 0 4).toInt.toNat + 8 ≤ q) → g 28 0 q = f 28 0 q)))) := by
  refine ZM.intro (by decide +kernel) (Nat.le_of_ble_eq_true rfl) ?_
  intro X C hr hn
  have hF : zFr [(25, some 4), (28, none)] f f := zFr.rf _ _
  show Z X 0 [some (zr 25 0), some (zi a1), some (zi a2), some (zi a3), some (zi a4), some (zi a5)] [] f
  refine z_iload_n (pc := 0) C dX10_custom_0 rfl ?_
  refine z_iload_n (pc := 1) C dX10_custom_1 rfl ?_
  refine z_iload_n (pc := 2) C dX10_custom_2 rfl ?_
  refine z_iload (pc := 3) C dX10_custom_3 rfl ?_
  refine z_iload (pc := 5) C dX10_custom_5 rfl ?_
  refine z_callSb (pc := 7) C zk_X10_101 (m_X10_mayBe _ _ _ _ _ _ _) rfl rfl (Nat.le_of_ble_eq_true rfl) dX10_custom_7 (fun h7_0 => ?_) (fun h7_0 => ?_)
  · skip
    have b2x : zB a1 0 5 := h7_0.1
    have b3x : zB a2 0 5 := h7_0.2.1
    have b4x : zB a3 0 31 := h7_0.2.2.2.1
    have b5x : zB a4 0 99 := h7_0.2.2.2.2.1
    have b6x : zB a5 0 7 := h7_0.2.2.2.2.2
    refine z_if_eq (pc := 10) 30 C dX10_custom_10 (by decide) (fun h => absurd h (by decide)) (fun _ => ?_)
    refine z_aload_n (pc := 13) C dX10_custom_13 rfl ?_
    refine z_iconst (pc := 14) (v := 2) C dX10_custom_14 (by decide) ?_
    refine z_iload_n (pc := 15) C dX10_custom_15 rfl ?_
    refine z_iload_n (pc := 16) C dX10_custom_16 rfl ?_
    refine z_iconst (pc := 17) (v := 1) C dX10_custom_17 (by decide) ?_
    refine z_iconst (pc := 18) (v := 0) C dX10_custom_18 (by decide) ?_
    refine z_iload_n (pc := 19) C dX10_custom_19 rfl ?_
    refine z_iload (pc := 20) C dX10_custom_20 rfl ?_
    refine z_iload (pc := 22) C dX10_custom_22 rfl ?_
    refine z_callV (pc := 24) C zk_X10_105 (x_X10_addPaper _ _ 2 (zB.wk (a' := 0) (b' := 2) (zB.of (x := 2) 2 (by decide)) (by decide) (by decide)) a1 b2x a2 b3x 1 (zB.wk (a' := 0) (b' := 40) (zB.of (x := 1) 1 (by decide)) (by decide) (by decide)) 0 (zB.wk (a' := (-2147483648)) (b' := 2147483647) (zB.of (x := 0) 0 (by decide)) (by decide) (by decide)) a3 b4x a4 b5x a5 b6x hI) rfl rfl (by decide) rfl rfl (Nat.le_of_ble_eq_true rfl) dX10_custom_24 (fun r7 g7 q7 => ?_)
    have qa7_0 : (0 : Int32).toInt = 0 := by decide
    have qa7_1 : (1 : Int32).toInt = 1 := by decide
    have qa7_2 : (2 : Int32).toInt = 2 := by decide
    obtain ⟨⟨v7, rfl, b7x⟩, hI7, hF7q, hp7_0⟩ := q7
    have hp7_0 := hp7_0 _ rfl
    have hF7 := zFr.tr hF hF7q (by decide)
    simp only [Option.toList, List.cons_append, List.nil_append]
    refine z_goto (pc := 27) 31 C dX10_custom_27 (by decide) ?_
    exact z_iret (pc := 31) C hr dX10_custom_31 ⟨⟨_, rfl, b7x⟩, hI7, hF7, (by
                                                                                          intro v hv; cases hv
                                                                                          rcases hp7_0 with ⟨h1, h2, h3⟩ | ⟨h1, h2, h3, h4, h5⟩
                                                                                          · exact Or.inr (Or.inl ⟨by assumption, h1, h2, h3⟩)
                                                                                          · exact Or.inr (Or.inr ⟨by assumption, h1, h2, h3, h4, h5⟩))⟩
  · skip
    refine z_if_eq (pc := 10) 30 C dX10_custom_10 (by decide) (fun _ => ?_) (fun h => absurd (by decide) h)
    refine z_iconst (pc := 30) (v := -1) C dX10_custom_30 (by decide) ?_
    exact z_iret (pc := 31) C hr dX10_custom_31 ⟨⟨_, rfl, (zB.wk (a' := (-3)) (b' := 11) (zB.of (x := (-1)) (-1) (by decide)) (by decide) (by decide))⟩, hI, hF, (by
                                                                                          intro v hv; cases hv
                                                                                          exact Or.inl ⟨by assumption, rfl, rfl⟩)⟩

set_option maxRecDepth 100000 in
set_option maxHeartbeats 4000000 in
theorem x_X9_bars (d : Nat) (f : zM) (a1 : Int32) (b1 : zB a1 (-2147483648) 2147483647) (a2 : Int32) (b2 : zB a2 (-2147483648) 2147483647) (hI : zInv f) : ZM (d + 1) yX9_bars cX9_bars 4 (some .int) [zr 0 0, zi a1, zi a2] f (fun r g => (∃ v, r = some (zi v) ∧ zB v (-1) 31) ∧ zInv g ∧ zFr [(11, some 5)] f g ∧ (∀ v : Int32, r = some (zi v) → (¬ ((0 ≤ a1.toInt ∧ a1.toInt < (f 1 0 7).toInt) ∧ (0 ≤ a2.toInt ∧ a2.toInt ≤ 31)) ∧ v = -1 ∧ g = f) ∨ (((0 ≤ a1.toInt ∧ a1.toInt < (f 1 0 7).toInt) ∧ (0 ≤ a2.toInt ∧ a2.toInt ≤ 31)) ∧ v = f 11 a1.toInt.toNat 5 ∧ g = zup f 11 a1.toInt.toNat 5 a2))) := by
  refine ZM.intro (by decide +kernel) (Nat.le_of_ble_eq_true rfl) ?_
  intro X C hr hn
  have hF : zFr [(11, some 5)] f f := zFr.rf _ _
  show Z X 0 [some (zr 0 0), some (zi a1), some (zi a2), none] [] f
  refine z_aload_n (pc := 0) C dX9_bars_0 rfl ?_
  refine z_iload_n (pc := 1) C dX9_bars_1 rfl ?_
  refine z_callVb (pc := 2) C zk_X9_153 (m_X9_isPaper _ _ _) rfl rfl (by decide) rfl rfl (Nat.le_of_ble_eq_true rfl) dX9_bars_2 (fun h2_0 => ?_) (fun h2_0 => ?_)
  · skip
    have b2x : zB a1 0 11 := (zltc h2_0 (hI 1 0 7).2)
    refine z_if_eq (pc := 5) 18 C dX9_bars_5 (by decide) (fun h => absurd h (by decide)) (fun _ => ?_)
    refine z_iload_n (pc := 8) C dX9_bars_8 rfl ?_
    refine z_if_lt (pc := 9) 18 C dX9_bars_9 (by decide) (fun h9_2 => ?_) (fun h9_2 => ?_)
    · skip
      have b4x : zB a2 (-2147483648) (-1) := by have q1 := b2; have q2 := (zB.of (x := 0) 0 (by decide)); simp only [z32lt, z32le, z32eq, Int32.reduceToInt, Int32.toInt_zero] at h9_2; constructor <;> omega
      refine z_iconst (pc := 18) (v := -1) C dX9_bars_18 (by decide) ?_
      exact z_iret (pc := 19) C hr dX9_bars_19 ⟨⟨_, rfl, (zB.wk (a' := (-1)) (b' := 31) (zB.of (x := (-1)) (-1) (by decide)) (by decide) (by decide))⟩, hI, hF, (by intro v hv; cases hv; exact Or.inl ⟨by omega, rfl, rfl⟩)⟩
    · skip
      have b5x : zB a2 0 2147483647 := by have q1 := b2; have q2 := (zB.of (x := 0) 0 (by decide)); simp only [z32lt, z32le, z32eq, Int32.reduceToInt, Int32.toInt_zero] at h9_2; constructor <;> omega
      refine z_iload_n (pc := 12) C dX9_bars_12 rfl ?_
      refine z_bipush (pc := 13) (v := 31) C dX9_bars_13 (by decide) ?_
      refine z_icmp_le (pc := 15) 20 C dX9_bars_15 (by decide) (fun h15_5 => ?_) (fun h15_5 => ?_)
      · skip
        have b7x : zB a2 0 31 := by have q1 := b5x; have q2 := (zB.of (x := 31) 31 (by decide)); simp only [z32lt, z32le, z32eq, Int32.reduceToInt, Int32.toInt_zero] at h15_5; constructor <;> omega
        refine z_aload_n (pc := 20) C dX9_bars_20 rfl ?_
        refine z_getR (pc := 21) C zf_X9_10 rfl rfl (by decide) dX9_bars_21 ?_
        refine z_getR (pc := 24) C zf_X9_90 rfl rfl (by decide) dX9_bars_24 ?_
        refine z_iload_n (pc := 27) C dX9_bars_27 rfl ?_
        refine z_aald (pc := 28) C rfl ⟨rfl, by decide⟩ (by decide) (zIx b2x (by decide) (by decide)) dX9_bars_28 ?_
        refine w_grx (by have hq := zN b2x (by decide); show 12 * 0 + a1.toNatClampNeg < 36; omega) (fun m8 q8r h8x => ?_)
        have q8r : m8 = 12 * 0 + a1.toNatClampNeg := q8r
        have k8r : a1.toNatClampNeg = a1.toInt.toNat := rfl
        refine z_getI (pc := 29) C zf_X9_170 rfl rfl h8x dX9_bars_29 ?_
        refine w_gp (fun v => v = f 11 m8 5) rfl (fun v10 q10 => ?_)
        have b10x : zB v10 0 31 := by rw [q10]; exact (hI 11 m8 5)
        refine z_istore_n (pc := 32) C dX9_bars_32 (by rw [hn]; decide) rfl ?_
        refine z_aload_n (pc := 33) C dX9_bars_33 rfl ?_
        refine z_getR (pc := 34) C zf_X9_10 rfl rfl (by decide) dX9_bars_34 ?_
        refine z_getR (pc := 37) C zf_X9_90 rfl rfl (by decide) dX9_bars_37 ?_
        refine z_iload_n (pc := 40) C dX9_bars_40 rfl ?_
        refine z_aald (pc := 41) C rfl ⟨rfl, by decide⟩ (by decide) (zIx b2x (by decide) (by decide)) dX9_bars_41 ?_
        refine w_grx (by have hq := zN b2x (by decide); show 12 * 0 + a1.toNatClampNeg < 36; omega) (fun m11 q11r h11x => ?_)
        have q11r : m11 = 12 * 0 + a1.toNatClampNeg := q11r
        have k11r : a1.toNatClampNeg = a1.toInt.toNat := rfl
        refine z_iload_n (pc := 42) C dX9_bars_42 rfl ?_
        refine z_putI (pc := 43) C zf_X9_170 zp_4_5 rfl rfl h11x dX9_bars_43 ?_
        refine w_memy hI hF b7x rfl (fun g12 qm12 hI12 hF12 => ?_)
        refine z_iload_n (pc := 46) C dX9_bars_46 rfl ?_
        exact z_iret (pc := 47) C hr dX9_bars_47 ⟨⟨_, rfl, (zB.wk (a' := (-1)) (b' := 31) b10x (by decide) (by decide))⟩, hI12, hF12, (by
                                                                                          intro v hv; cases hv
                                                                                          have hn : m8 = a1.toInt.toNat := by omega
                                                                                          have hq := q10
                                                                                          rw [hn] at hq
                                                                                          have hn2 : m11 = a1.toInt.toNat := by omega
                                                                                          refine Or.inr ⟨⟨by assumption, by omega⟩, hq, ?_⟩
                                                                                          rw [← hn2]; subst qm12; rfl)⟩
      · skip
        have b13x : zB a2 32 2147483647 := by have q1 := b5x; have q2 := (zB.of (x := 31) 31 (by decide)); simp only [z32lt, z32le, z32eq, Int32.reduceToInt, Int32.toInt_zero] at h15_5; constructor <;> omega
        refine z_iconst (pc := 18) (v := -1) C dX9_bars_18 (by decide) ?_
        exact z_iret (pc := 19) C hr dX9_bars_19 ⟨⟨_, rfl, (zB.wk (a' := (-1)) (b' := 31) (zB.of (x := (-1)) (-1) (by decide)) (by decide) (by decide))⟩, hI, hF, (by intro v hv; cases hv; exact Or.inl ⟨by omega, rfl, rfl⟩)⟩
  · skip
    refine z_if_eq (pc := 5) 18 C dX9_bars_5 (by decide) (fun _ => ?_) (fun h => absurd (by decide) h)
    refine z_iconst (pc := 18) (v := -1) C dX9_bars_18 (by decide) ?_
    exact z_iret (pc := 19) C hr dX9_bars_19 ⟨⟨_, rfl, (zB.wk (a' := (-1)) (b' := 31) (zB.of (x := (-1)) (-1) (by decide)) (by decide) (by decide))⟩, hI, hF, (by intro v hv; cases hv; exact Or.inl ⟨by omega, rfl, rfl⟩)⟩

set_option maxRecDepth 100000 in
set_option maxHeartbeats 4000000 in
theorem x_X10_bars (d : Nat) (f : zM) (a1 : Int32) (b1 : zB a1 (-2147483648) 2147483647) (a2 : Int32) (b2 : zB a2 (-2147483648) 2147483647) (hI : zInv f) : ZM (d + 2) yX10_bars cX10_bars 4 (some .int) [zr 25 0, zi a1, zi a2] f (fun r g => (∃ v, r = some (zi v) ∧ zB v (-1) 31) ∧ zInv g ∧ zFr [(28, none)] f g ∧ (∀ v : Int32, r = some (zi v) → (¬ ((0 ≤ a1.toInt ∧ a1.toInt < (f 25 0 4).toInt) ∧ (0 ≤ a2.toInt ∧ a2.toInt ≤ 31)) ∧ v = -1 ∧ g = f) ∨ (((0 ≤ a1.toInt ∧ a1.toInt < (f 25 0 4).toInt) ∧ (0 ≤ a2.toInt ∧ a2.toInt ≤ 31)) ∧ v = f 28 0 (8 * a1.toInt.toNat + 5) ∧ g = zup f 28 0 (8 * a1.toInt.toNat + 5) a2))) := by
  refine ZM.intro (by decide +kernel) (Nat.le_of_ble_eq_true rfl) ?_
  intro X C hr hn
  have hF : zFr [(28, none)] f f := zFr.rf _ _
  show Z X 0 [some (zr 25 0), some (zi a1), some (zi a2), none] [] f
  refine z_aload_n (pc := 0) C dX10_bars_0 rfl ?_
  refine z_iload_n (pc := 1) C dX10_bars_1 rfl ?_
  refine z_callVb (pc := 2) C zk_X10_109 (m_X10_isPaper _ _ _ hI) rfl rfl (by decide) rfl rfl (Nat.le_of_ble_eq_true rfl) dX10_bars_2 (fun h2_0 => ?_) (fun h2_0 => ?_)
  · skip
    have b2x : zB a1 0 11 := (zltc h2_0 (hI 25 0 4).2)
    refine z_if_eq (pc := 5) 20 C dX10_bars_5 (by decide) (fun h => absurd h (by decide)) (fun _ => ?_)
    refine z_iload_n (pc := 8) C dX10_bars_8 rfl ?_
    refine z_i2l (pc := 9) C dX10_bars_9 ?_
    refine z_lconst (pc := 10) (v := 0) C dX10_bars_10 (by decide) ?_
    refine z_ldc2 (pc := 11) C zw_1145 dX10_bars_11 ?_
    refine z_callSb (pc := 14) C zk_X10_69 (m_X10_in _ _ _ _ _) rfl rfl (Nat.le_of_ble_eq_true rfl) dX10_bars_14 (fun h14_2 => ?_) (fun h14_2 => ?_)
    · skip
      have hc14_1 : (0 ≤ a2.toInt ∧ a2.toInt ≤ 31) := by have q9 := h14_2; simp only [z64] at q9; exact q9
      have b4x : zB a2 0 31 := zin64 h14_2 rfl rfl
      refine z_if_ne (pc := 17) 22 C dX10_bars_17 (by decide) (fun _ => ?_) (fun h => absurd h (by decide))
      refine z_aload_n (pc := 22) C dX10_bars_22 rfl ?_
      refine z_getR (pc := 23) C zf_X10_16 rfl rfl (by decide) dX10_bars_23 ?_
      refine z_bipush (pc := 26) (v := 8) C dX10_bars_26 (by decide) ?_
      refine z_iload_n (pc := 28) C dX10_bars_28 rfl ?_
      refine z_imul (pc := 29) C dX10_bars_29 ?_
      refine w_gp (fun v => v = (8 : Int32) * a1) rfl (fun v5 q5 => ?_)
      have e5 : v5.toInt = 8 * a1.toInt := by rw [q5]; exact (zmul_kb 8 (by decide) (by decide) b2x (by decide) (by decide))
      have b5x : zB v5 0 88 := zmul_bb e5 (by decide) b2x
      refine z_iconst (pc := 30) (v := 5) C dX10_bars_30 (by decide) ?_
      refine z_iadd (pc := 31) C dX10_bars_31 ?_
      refine w_gp (fun v => v = v5 + (5 : Int32)) rfl (fun v6 q6 => ?_)
      have e6 : v6.toInt = v5.toInt + 5 := by rw [q6]; exact (zadd_eb b5x (zB.of (x := 5) 5 (by decide)) (by decide) (by decide))
      have b6x : zB v6 5 93 := by have q1 := b5x; have q2 := (zB.of (x := 5) 5 (by decide)); constructor <;> omega
      refine z_iald (pc := 32) C rfl (by decide) (zIx b6x (by decide) (by decide)) dX10_bars_32 ?_
      have kq32_6 : v6.toNatClampNeg = v6.toInt.toNat := rfl
      refine w_gp (fun v => v = f 28 0 v6.toNatClampNeg) rfl (fun v7 q7 => ?_)
      have b7x : zB v7 0 31 := by rw [q7]; exact (by have hq9 := hI 28 0 v6.toNatClampNeg; rw [zrg28 (r := 5) (by have hq : v6.toNatClampNeg = v6.toInt.toNat := rfl; have hq2 := b6x; omega)] at hq9; exact hq9)
      refine z_istore_n (pc := 33) C dX10_bars_33 (by rw [hn]; decide) rfl ?_
      refine z_aload_n (pc := 34) C dX10_bars_34 rfl ?_
      refine z_getR (pc := 35) C zf_X10_16 rfl rfl (by decide) dX10_bars_35 ?_
      refine z_bipush (pc := 38) (v := 8) C dX10_bars_38 (by decide) ?_
      refine z_iload_n (pc := 40) C dX10_bars_40 rfl ?_
      refine z_imul (pc := 41) C dX10_bars_41 ?_
      refine w_gp (fun v => v = (8 : Int32) * a1) rfl (fun v8 q8 => ?_)
      have e8 : v8.toInt = 8 * a1.toInt := by rw [q8]; exact (zmul_kb 8 (by decide) (by decide) b2x (by decide) (by decide))
      have b8x : zB v8 0 88 := zmul_bb e8 (by decide) b2x
      refine z_iconst (pc := 42) (v := 5) C dX10_bars_42 (by decide) ?_
      refine z_iadd (pc := 43) C dX10_bars_43 ?_
      refine w_gp (fun v => v = v8 + (5 : Int32)) rfl (fun v9 q9 => ?_)
      have e9 : v9.toInt = v8.toInt + 5 := by rw [q9]; exact (zadd_eb b8x (zB.of (x := 5) 5 (by decide)) (by decide) (by decide))
      have b9x : zB v9 5 93 := by have q1 := b8x; have q2 := (zB.of (x := 5) 5 (by decide)); constructor <;> omega
      refine z_iload_n (pc := 44) C dX10_bars_44 rfl ?_
      have kw45_9 : v9.toNatClampNeg = v9.toInt.toNat := rfl
      refine z_iast (pc := 45) C rfl (by decide) (zIx b9x (by decide) (by decide)) dX10_bars_45 ?_
      refine w_memy hI hF (by rw [zrg28 (r := 5) (by have hq : v9.toNatClampNeg = v9.toInt.toNat := rfl; have hq2 := b9x; omega)]; exact b4x) rfl (fun g10 qm10 hI10 hF10 => ?_)
      refine z_iload_n (pc := 46) C dX10_bars_46 rfl ?_
      exact z_iret (pc := 47) C hr dX10_bars_47 ⟨⟨_, rfl, (zB.wk (a' := (-1)) (b' := 31) b7x (by decide) (by decide))⟩, hI10, hF10, (by
                                                                                          intro v hv; cases hv
                                                                                          have hn : (v6).toNatClampNeg = 8 * a1.toInt.toNat + 5 := by omega
                                                                                          have hn2 : (v9).toNatClampNeg = 8 * a1.toInt.toNat + 5 := by omega
                                                                                          have hq := q7
                                                                                          rw [hn] at hq
                                                                                          refine Or.inr ⟨⟨by assumption, by omega⟩, hq, ?_⟩
                                                                                          subst qm10
                                                                                          rw [hn2])⟩
    · skip
      have hc14_0 : ¬ (0 ≤ a2.toInt ∧ a2.toInt ≤ 31) := by have q9 := h14_2; simp only [z64] at q9; exact q9
      refine z_if_ne (pc := 17) 22 C dX10_bars_17 (by decide) (fun h => absurd (by decide) h) (fun _ => ?_)
      refine z_iconst (pc := 20) (v := -1) C dX10_bars_20 (by decide) ?_
      exact z_iret (pc := 21) C hr dX10_bars_21 ⟨⟨_, rfl, (zB.wk (a' := (-1)) (b' := 31) (zB.of (x := (-1)) (-1) (by decide)) (by decide) (by decide))⟩, hI, hF, (by intro v hv; cases hv; exact Or.inl ⟨by omega, rfl, rfl⟩)⟩
  · skip
    refine z_if_eq (pc := 5) 20 C dX10_bars_5 (by decide) (fun _ => ?_) (fun h => absurd (by decide) h)
    refine z_iconst (pc := 20) (v := -1) C dX10_bars_20 (by decide) ?_
    exact z_iret (pc := 21) C hr dX10_bars_21 ⟨⟨_, rfl, (zB.wk (a' := (-1)) (b' := 31) (zB.of (x := (-1)) (-1) (by decide)) (by decide) (by decide))⟩, hI, hF, (by intro v hv; cases hv; exact Or.inl ⟨by omega, rfl, rfl⟩)⟩

set_option maxRecDepth 100000 in
set_option maxHeartbeats 4000000 in
theorem x_X9_crimeOf (d : Nat) (f : zM) (a1 : Int32) (b1 : zB a1 (-2147483648) 2147483647) (a2 : Int32) (b2 : zB a2 (-2147483648) 2147483647) (hI : zInv f) : ZM d yX9_crimeOf cX9_crimeOf 4 (some .int) [zr 0 0, zi a1, zi a2] f (fun r g => (∃ v, r = some (zi v) ∧ zB v (-1) 63) ∧ zInv g ∧ zFr [] f g ∧ (∀ v : Int32, r = some (zi v) → (¬ ((0 ≤ a1.toInt ∧ a1.toInt < (f 1 0 5).toInt) ∧ (0 ≤ a2.toInt ∧ a2.toInt ≤ 5)) ∧ v = -1) ∨ (((0 ≤ a1.toInt ∧ a1.toInt < (f 1 0 5).toInt) ∧ (0 ≤ a2.toInt ∧ a2.toInt ≤ 5)) ∧ v = f 7 a1.toInt.toNat a2.toInt.toNat))) := by
  refine ZM.intro (by decide +kernel) (Nat.le_of_ble_eq_true rfl) ?_
  intro X C hr hn
  have hF : zFr [] f f := zFr.rf _ _
  have ct1_0_5 : zB (f 1 0 5) 0 24 := hI 1 0 5
  show Z X 0 [some (zr 0 0), some (zi a1), some (zi a2), none] [] f
  refine z_iload_n (pc := 0) C dX9_crimeOf_0 rfl ?_
  refine z_if_lt (pc := 1) 15 C dX9_crimeOf_1 (by decide) (fun h1_0 => ?_) (fun h1_0 => ?_)
  · skip
    have b2x : zB a1 (-2147483648) (-1) := by have q1 := b1; have q2 := (zB.of (x := 0) 0 (by decide)); simp only [z32lt, z32le, z32eq, Int32.reduceToInt, Int32.toInt_zero] at h1_0; constructor <;> omega
    refine z_iconst (pc := 15) (v := -1) C dX9_crimeOf_15 (by decide) ?_
    exact z_iret (pc := 16) C hr dX9_crimeOf_16 ⟨⟨_, rfl, (zB.wk (a' := (-1)) (b' := 63) (zB.of (x := (-1)) (-1) (by decide)) (by decide) (by decide))⟩, hI, hF, (by intro v hv; cases hv; exact Or.inl ⟨by omega, rfl⟩)⟩
  · skip
    have b3x : zB a1 0 2147483647 := by have q1 := b1; have q2 := (zB.of (x := 0) 0 (by decide)); simp only [z32lt, z32le, z32eq, Int32.reduceToInt, Int32.toInt_zero] at h1_0; constructor <;> omega
    refine z_iload_n (pc := 4) C dX9_crimeOf_4 rfl ?_
    refine z_aload_n (pc := 5) C dX9_crimeOf_5 rfl ?_
    refine z_getR (pc := 6) C zf_X9_10 rfl rfl (by decide) dX9_crimeOf_6 ?_
    refine z_getI (pc := 9) C zf_X9_50 rfl rfl (by decide) dX9_crimeOf_9 ?_
    refine w_gp (fun v => v = f 1 0 5) rfl (fun v4 q4 => ?_)
    have e4 : v4.toInt = (f 1 0 5).toInt := by rw [q4]
    have b4x : zB v4 0 24 := by first | exact zB.eqv e4 ct1_0_5 | (have q9 := ct1_0_5; constructor <;> omega)
    refine z_icmp_lt (pc := 12) 17 C dX9_crimeOf_12 (by decide) (fun h12_4 => ?_) (fun h12_4 => ?_)
    · skip
      have rr6 : a1.toInt < v4.toInt := by simp only [z32lt, z32le, z32eq] at h12_4; omega
      have b7x : zB a1 0 23 := by have q1 := b3x; have q2 := b4x; simp only [z32lt, z32le, z32eq, Int32.reduceToInt, Int32.toInt_zero] at h12_4; constructor <;> omega
      have b8x : zB v4 1 24 := by have q1 := b3x; have q2 := b4x; simp only [z32lt, z32le, z32eq, Int32.reduceToInt, Int32.toInt_zero] at h12_4; constructor <;> omega
      have c9x : zB (f 1 0 5) 1 24 := by first | assumption | (constructor <;> omega)
      refine z_aload_n (pc := 17) C dX9_crimeOf_17 rfl ?_
      refine z_getR (pc := 18) C zf_X9_10 rfl rfl (by decide) dX9_crimeOf_18 ?_
      refine z_getR (pc := 21) C zf_X9_54 rfl rfl (by decide) dX9_crimeOf_21 ?_
      refine z_iload_n (pc := 24) C dX9_crimeOf_24 rfl ?_
      refine z_aald (pc := 25) C rfl ⟨rfl, by decide⟩ (by decide) (zIx b7x (by decide) (by decide)) dX9_crimeOf_25 ?_
      refine w_grx (by have hq := zN b7x (by decide); show 24 * 0 + a1.toNatClampNeg < 60; omega) (fun m10 q10r h10x => ?_)
      have q10r : m10 = 24 * 0 + a1.toNatClampNeg := q10r
      have k10r : a1.toNatClampNeg = a1.toInt.toNat := rfl
      refine z_astore_n (pc := 26) C dX9_crimeOf_26 (by rw [hn]; decide) rfl ?_
      refine z_iload_n (pc := 27) C dX9_crimeOf_27 rfl ?_
      by_cases hsw0 : a2 = 0
      · skip
        refine z_tabE (pc := 28) hsw0 68 C dX9_crimeOf_28 (by decide) (by decide) rfl (by decide) ?_
        refine z_aload_n (pc := 68) C dX9_crimeOf_68 rfl ?_
        refine z_getI (pc := 69) C zf_X9_135 rfl rfl h10x dX9_crimeOf_69 ?_
        refine w_gp (fun v => v = f 7 m10 0) rfl (fun v12 q12 => ?_)
        have b12x : zB v12 0 5 := by rw [q12]; exact (hI 7 m10 0)
        exact z_iret (pc := 72) C hr dX9_crimeOf_72 ⟨⟨_, rfl, (zB.wk (a' := (-1)) (b' := 63) b12x (by decide) (by decide))⟩, hI, hF, (by
                                                                                          intro v hv; cases hv
                                                                                          have hn : m10 = a1.toInt.toNat := by omega
                                                                                          have hq := q12
                                                                                          rw [hn] at hq
                                                                                          have e2 : a2.toInt = 0 := by subst_vars; decide
                                                                                          rw [show a2.toInt.toNat = 0 by omega]
                                                                                          refine Or.inr ⟨⟨by omega, by omega⟩, ?_⟩
                                                                                          exact hq)⟩
      · skip
        by_cases hsw1 : a2 = 1
        · skip
          refine z_tabE (pc := 28) hsw1 73 C dX9_crimeOf_28 (by decide) (by decide) rfl (by decide) ?_
          refine z_aload_n (pc := 73) C dX9_crimeOf_73 rfl ?_
          refine z_getI (pc := 74) C zf_X9_138 rfl rfl h10x dX9_crimeOf_74 ?_
          refine w_gp (fun v => v = f 7 m10 1) rfl (fun v14 q14 => ?_)
          have b14x : zB v14 0 63 := by rw [q14]; exact (hI 7 m10 1)
          exact z_iret (pc := 77) C hr dX9_crimeOf_77 ⟨⟨_, rfl, (zB.wk (a' := (-1)) (b' := 63) b14x (by decide) (by decide))⟩, hI, hF, (by
                                                                                          intro v hv; cases hv
                                                                                          have hn : m10 = a1.toInt.toNat := by omega
                                                                                          have hq := q14
                                                                                          rw [hn] at hq
                                                                                          have e2 : a2.toInt = 1 := by subst_vars; decide
                                                                                          rw [show a2.toInt.toNat = 1 by omega]
                                                                                          refine Or.inr ⟨⟨by omega, by omega⟩, ?_⟩
                                                                                          exact hq)⟩
        · skip
          by_cases hsw2 : a2 = 2
          · skip
            refine z_tabE (pc := 28) hsw2 78 C dX9_crimeOf_28 (by decide) (by decide) rfl (by decide) ?_
            refine z_aload_n (pc := 78) C dX9_crimeOf_78 rfl ?_
            refine z_getI (pc := 79) C zf_X9_141 rfl rfl h10x dX9_crimeOf_79 ?_
            refine w_gp (fun v => v = f 7 m10 2) rfl (fun v16 q16 => ?_)
            have b16x : zB v16 0 63 := by rw [q16]; exact (hI 7 m10 2)
            exact z_iret (pc := 82) C hr dX9_crimeOf_82 ⟨⟨_, rfl, (zB.wk (a' := (-1)) (b' := 63) b16x (by decide) (by decide))⟩, hI, hF, (by
                                                                                          intro v hv; cases hv
                                                                                          have hn : m10 = a1.toInt.toNat := by omega
                                                                                          have hq := q16
                                                                                          rw [hn] at hq
                                                                                          have e2 : a2.toInt = 2 := by subst_vars; decide
                                                                                          rw [show a2.toInt.toNat = 2 by omega]
                                                                                          refine Or.inr ⟨⟨by omega, by omega⟩, ?_⟩
                                                                                          exact hq)⟩
          · skip
            by_cases hsw3 : a2 = 3
            · skip
              refine z_tabE (pc := 28) hsw3 83 C dX9_crimeOf_28 (by decide) (by decide) rfl (by decide) ?_
              refine z_aload_n (pc := 83) C dX9_crimeOf_83 rfl ?_
              refine z_getI (pc := 84) C zf_X9_144 rfl rfl h10x dX9_crimeOf_84 ?_
              refine w_gp (fun v => v = f 7 m10 3) rfl (fun v18 q18 => ?_)
              have b18x : zB v18 0 40 := by rw [q18]; exact (hI 7 m10 3)
              exact z_iret (pc := 87) C hr dX9_crimeOf_87 ⟨⟨_, rfl, (zB.wk (a' := (-1)) (b' := 63) b18x (by decide) (by decide))⟩, hI, hF, (by
                                                                                          intro v hv; cases hv
                                                                                          have hn : m10 = a1.toInt.toNat := by omega
                                                                                          have hq := q18
                                                                                          rw [hn] at hq
                                                                                          have e2 : a2.toInt = 3 := by subst_vars; decide
                                                                                          rw [show a2.toInt.toNat = 3 by omega]
                                                                                          refine Or.inr ⟨⟨by omega, by omega⟩, ?_⟩
                                                                                          exact hq)⟩
            · skip
              by_cases hsw4 : a2 = 4
              · skip
                refine z_tabE (pc := 28) hsw4 88 C dX9_crimeOf_28 (by decide) (by decide) rfl (by decide) ?_
                refine z_aload_n (pc := 88) C dX9_crimeOf_88 rfl ?_
                refine z_getI (pc := 89) C zf_X9_147 rfl rfl h10x dX9_crimeOf_89 ?_
                refine w_gp (fun v => v = f 7 m10 4) rfl (fun v20 q20 => ?_)
                have b20x : zB v20 0 40 := by rw [q20]; exact (hI 7 m10 4)
                exact z_iret (pc := 92) C hr dX9_crimeOf_92 ⟨⟨_, rfl, (zB.wk (a' := (-1)) (b' := 63) b20x (by decide) (by decide))⟩, hI, hF, (by
                                                                                          intro v hv; cases hv
                                                                                          have hn : m10 = a1.toInt.toNat := by omega
                                                                                          have hq := q20
                                                                                          rw [hn] at hq
                                                                                          have e2 : a2.toInt = 4 := by subst_vars; decide
                                                                                          rw [show a2.toInt.toNat = 4 by omega]
                                                                                          refine Or.inr ⟨⟨by omega, by omega⟩, ?_⟩
                                                                                          exact hq)⟩
              · skip
                by_cases hsw5 : a2 = 5
                · skip
                  refine z_tabE (pc := 28) hsw5 93 C dX9_crimeOf_28 (by decide) (by decide) rfl (by decide) ?_
                  refine z_aload_n (pc := 93) C dX9_crimeOf_93 rfl ?_
                  refine z_getI (pc := 94) C zf_X9_150 rfl rfl h10x dX9_crimeOf_94 ?_
                  refine w_gp (fun v => v = f 7 m10 5) rfl (fun v22 q22 => ?_)
                  have b22x : zB v22 0 1 := by rw [q22]; exact (hI 7 m10 5)
                  refine z_if_eq (pc := 97) 104 C dX9_crimeOf_97 (by decide) (fun h97_22 => ?_) (fun h97_22 => ?_)
                  · skip
                    have b24x : zB v22 0 0 := by have q1 := b22x; have q2 := (zB.of (x := 0) 0 (by decide)); simp only [z32lt, z32le, z32eq, Int32.reduceToInt, Int32.toInt_zero] at h97_22; constructor <;> omega
                    refine z_iconst (pc := 104) (v := 0) C dX9_crimeOf_104 (by decide) ?_
                    exact z_iret (pc := 105) C hr dX9_crimeOf_105 ⟨⟨_, rfl, (zB.wk (a' := (-1)) (b' := 63) (zB.of (x := 0) 0 (by decide)) (by decide) (by decide))⟩, hI, hF, (by
                                                                                          intro v hv; cases hv
                                                                                          have hn : m10 = a1.toInt.toNat := by omega
                                                                                          have hq := q22
                                                                                          rw [hn] at hq
                                                                                          have e2 : a2.toInt = 5 := by subst_vars; decide
                                                                                          rw [show a2.toInt.toNat = 5 by omega]
                                                                                          refine Or.inr ⟨⟨by omega, by omega⟩, ?_⟩
                                                                                          rw [← hq, z32eq]
                                                                                          have c0 : (0 : Int32).toInt = 0 := by decide
                                                                                          have c1 : (1 : Int32).toInt = 1 := by decide
                                                                                          omega)⟩
                  · skip
                    have b25x : zB v22 1 1 := by have q1 := b22x; have q2 := (zB.of (x := 0) 0 (by decide)); simp only [z32lt, z32le, z32eq, Int32.reduceToInt, Int32.toInt_zero] at h97_22; constructor <;> omega
                    refine z_iconst (pc := 100) (v := 1) C dX9_crimeOf_100 (by decide) ?_
                    refine z_goto (pc := 101) 105 C dX9_crimeOf_101 (by decide) ?_
                    exact z_iret (pc := 105) C hr dX9_crimeOf_105 ⟨⟨_, rfl, (zB.wk (a' := (-1)) (b' := 63) (zB.of (x := 1) 1 (by decide)) (by decide) (by decide))⟩, hI, hF, (by
                                                                                          intro v hv; cases hv
                                                                                          have hn : m10 = a1.toInt.toNat := by omega
                                                                                          have hq := q22
                                                                                          rw [hn] at hq
                                                                                          have e2 : a2.toInt = 5 := by subst_vars; decide
                                                                                          rw [show a2.toInt.toNat = 5 by omega]
                                                                                          refine Or.inr ⟨⟨by omega, by omega⟩, ?_⟩
                                                                                          rw [← hq, z32eq]
                                                                                          have c0 : (0 : Int32).toInt = 0 := by decide
                                                                                          have c1 : (1 : Int32).toInt = 1 := by decide
                                                                                          omega)⟩
                · skip
                  refine z_tabOut (pc := 28) 106 C dX9_crimeOf_28 (by simp only [z32eq, Int32.reduceToInt, Int32.toInt_zero, Int32.toInt_one] at *; omega) (by decide) ?_
                  refine z_iconst (pc := 106) (v := -1) C dX9_crimeOf_106 (by decide) ?_
                  exact z_iret (pc := 107) C hr dX9_crimeOf_107 ⟨⟨_, rfl, (zB.wk (a' := (-1)) (b' := 63) (zB.of (x := (-1)) (-1) (by decide)) (by decide) (by decide))⟩, hI, hF, (by
                                                                                          intro v hv; cases hv
                                                                                          refine Or.inl ⟨fun hG => ?_, rfl⟩
                                                                                          simp only [z32eq, Int32.reduceToInt, Int32.toInt_zero, Int32.toInt_one] at *
                                                                                          omega)⟩
    · skip
      have rr26 : a1.toInt ≥ v4.toInt := by simp only [z32lt, z32le, z32eq] at h12_4; omega
      refine z_iconst (pc := 15) (v := -1) C dX9_crimeOf_15 (by decide) ?_
      exact z_iret (pc := 16) C hr dX9_crimeOf_16 ⟨⟨_, rfl, (zB.wk (a' := (-1)) (b' := 63) (zB.of (x := (-1)) (-1) (by decide)) (by decide) (by decide))⟩, hI, hF, (by intro v hv; cases hv; exact Or.inl ⟨by omega, rfl⟩)⟩

set_option maxRecDepth 100000 in
set_option maxHeartbeats 4000000 in
theorem x_X10_crimeOf (d : Nat) (f : zM) (a1 : Int32) (b1 : zB a1 (-2147483648) 2147483647) (a2 : Int32) (b2 : zB a2 (-2147483648) 2147483647) (hI : zInv f) : ZM (d + 1) yX10_crimeOf cX10_crimeOf 3 (some .int) [zr 25 0, zi a1, zi a2] f (fun r g => (∃ v, r = some (zi v) ∧ zB v (-2147483648) 2147483647) ∧ zInv g ∧ zFr [] f g ∧ (∀ v : Int32, r = some (zi v) → (¬ ((0 ≤ a1.toInt ∧ a1.toInt < (f 25 0 0).toInt) ∧ (0 ≤ a2.toInt ∧ a2.toInt ≤ 5)) ∧ v = -1) ∨ (((0 ≤ a1.toInt ∧ a1.toInt < (f 25 0 0).toInt) ∧ (0 ≤ a2.toInt ∧ a2.toInt ≤ 5)) ∧ v = f 26 0 (6 * a1.toInt.toNat + a2.toInt.toNat)))) := by
  refine ZM.intro (by decide +kernel) (Nat.le_of_ble_eq_true rfl) ?_
  intro X C hr hn
  have hF : zFr [] f f := zFr.rf _ _
  have ct25_0_0 : zB (f 25 0 0) 0 24 := hI 25 0 0
  show Z X 0 [some (zr 25 0), some (zi a1), some (zi a2)] [] f
  refine z_iload_n (pc := 0) C dX10_crimeOf_0 rfl ?_
  refine z_i2l (pc := 1) C dX10_crimeOf_1 ?_
  refine z_lconst (pc := 2) (v := 0) C dX10_crimeOf_2 (by decide) ?_
  refine z_aload_n (pc := 3) C dX10_crimeOf_3 rfl ?_
  refine z_getI (pc := 4) C zf_X10_80 rfl rfl (by decide) dX10_crimeOf_4 ?_
  refine w_gp (fun v => v = f 25 0 0) rfl (fun v1 q1 => ?_)
  have e1 : v1.toInt = (f 25 0 0).toInt := by rw [q1]
  have b1x : zB v1 0 24 := by first | exact zB.eqv e1 ct25_0_0 | (have q9 := ct25_0_0; constructor <;> omega)
  refine z_iconst (pc := 7) (v := 1) C dX10_crimeOf_7 (by decide) ?_
  refine z_isub (pc := 8) C dX10_crimeOf_8 ?_
  refine w_gp (fun v => v = v1 - (1 : Int32)) rfl (fun v2 q2 => ?_)
  have e2 : v2.toInt = v1.toInt - 1 := by rw [q2]; exact (zsub_eb b1x (zB.of (x := 1) 1 (by decide)) (by decide) (by decide))
  have b2x : zB v2 (-1) 23 := by have q1 := b1x; have q2 := (zB.of (x := 1) 1 (by decide)); constructor <;> omega
  refine z_i2l (pc := 9) C dX10_crimeOf_9 ?_
  refine z_callSb (pc := 10) C zk_X10_69 (m_X10_in _ _ _ _ _) rfl rfl (Nat.le_of_ble_eq_true rfl) dX10_crimeOf_10 (fun h10_2 => ?_) (fun h10_2 => ?_)
  · skip
    have hc10_1 : (0 ≤ a1.toInt ∧ a1.toInt ≤ v2.toInt) := by have q9 := h10_2; simp only [z64] at q9; exact q9
    have b4x : zB a1 0 23 := zin64v h10_2 rfl b2x
    have b4xr := zin64r h10_2
    refine z_if_eq (pc := 13) 42 C dX10_crimeOf_13 (by decide) (fun h => absurd h (by decide)) (fun _ => ?_)
    refine z_iload_n (pc := 16) C dX10_crimeOf_16 rfl ?_
    refine z_i2l (pc := 17) C dX10_crimeOf_17 ?_
    refine z_lconst (pc := 18) (v := 0) C dX10_crimeOf_18 (by decide) ?_
    refine z_ldc2 (pc := 19) C zw_1123 dX10_crimeOf_19 ?_
    refine z_callSb (pc := 22) C zk_X10_69 (m_X10_in _ _ _ _ _) rfl rfl (Nat.le_of_ble_eq_true rfl) dX10_crimeOf_22 (fun h22_4 => ?_) (fun h22_4 => ?_)
    · skip
      have hc22_1 : (0 ≤ a2.toInt ∧ a2.toInt ≤ 5) := by have q9 := h22_4; simp only [z64] at q9; exact q9
      have b6x : zB a2 0 5 := zin64 h22_4 rfl rfl
      refine z_if_eq (pc := 25) 42 C dX10_crimeOf_25 (by decide) (fun h => absurd h (by decide)) (fun _ => ?_)
      refine z_aload_n (pc := 28) C dX10_crimeOf_28 rfl ?_
      refine z_getR (pc := 29) C zf_X10_7 rfl rfl (by decide) dX10_crimeOf_29 ?_
      refine z_bipush (pc := 32) (v := 6) C dX10_crimeOf_32 (by decide) ?_
      refine z_iload_n (pc := 34) C dX10_crimeOf_34 rfl ?_
      refine z_imul (pc := 35) C dX10_crimeOf_35 ?_
      refine w_gp (fun v => v = (6 : Int32) * a1) rfl (fun v7 q7 => ?_)
      have e7 : v7.toInt = 6 * a1.toInt := by rw [q7]; exact (zmul_kb 6 (by decide) (by decide) b4x (by decide) (by decide))
      have b7x : zB v7 0 138 := zmul_bb e7 (by decide) b4x
      refine z_iload_n (pc := 36) C dX10_crimeOf_36 rfl ?_
      refine z_iadd (pc := 37) C dX10_crimeOf_37 ?_
      refine w_gp (fun v => v = v7 + a2) rfl (fun v8 q8 => ?_)
      have e8 : v8.toInt = v7.toInt + a2.toInt := by rw [q8]; exact (zadd_eb b7x b6x (by decide) (by decide))
      have b8x : zB v8 0 143 := by have q1 := b7x; have q2 := b6x; constructor <;> omega
      refine z_iald (pc := 38) C rfl (by decide) (zIx b8x (by decide) (by decide)) dX10_crimeOf_38 ?_
      have kq38_8 : v8.toNatClampNeg = v8.toInt.toNat := rfl
      refine w_gp (fun v => v = f 26 0 v8.toNatClampNeg) rfl (fun v9 q9 => ?_)
      refine z_goto (pc := 39) 43 C dX10_crimeOf_39 (by decide) ?_
      exact z_iret (pc := 43) C hr dX10_crimeOf_43 ⟨⟨_, rfl, (zB_any v9)⟩, hI, hF, (by
                                                                                          intro v hv; cases hv
                                                                                          have hx : (v8).toNatClampNeg = 6 * a1.toInt.toNat + a2.toInt.toNat := by omega
                                                                                          have hq := q9
                                                                                          rw [hx] at hq
                                                                                          exact Or.inr ⟨⟨by omega, by omega⟩, hq⟩)⟩
    · skip
      have hc22_0 : ¬ (0 ≤ a2.toInt ∧ a2.toInt ≤ 5) := by have q9 := h22_4; simp only [z64] at q9; exact q9
      refine z_if_eq (pc := 25) 42 C dX10_crimeOf_25 (by decide) (fun _ => ?_) (fun h => absurd (by decide) h)
      refine z_iconst (pc := 42) (v := -1) C dX10_crimeOf_42 (by decide) ?_
      exact z_iret (pc := 43) C hr dX10_crimeOf_43 ⟨⟨_, rfl, (zB.wk (a' := (-2147483648)) (b' := 2147483647) (zB.of (x := (-1)) (-1) (by decide)) (by decide) (by decide))⟩, hI, hF, (by intro v hv; cases hv; exact Or.inl ⟨by omega, rfl⟩)⟩
  · skip
    have hc10_0 : ¬ (0 ≤ a1.toInt ∧ a1.toInt ≤ v2.toInt) := by have q9 := h10_2; simp only [z64] at q9; exact q9
    refine z_if_eq (pc := 13) 42 C dX10_crimeOf_13 (by decide) (fun _ => ?_) (fun h => absurd (by decide) h)
    refine z_iconst (pc := 42) (v := -1) C dX10_crimeOf_42 (by decide) ?_
    exact z_iret (pc := 43) C hr dX10_crimeOf_43 ⟨⟨_, rfl, (zB.wk (a' := (-2147483648)) (b' := 2147483647) (zB.of (x := (-1)) (-1) (by decide)) (by decide) (by decide))⟩, hI, hF, (by intro v hv; cases hv; exact Or.inl ⟨by omega, rfl⟩)⟩
