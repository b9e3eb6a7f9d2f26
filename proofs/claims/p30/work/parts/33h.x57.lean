set_option maxRecDepth 100000 in
set_option maxHeartbeats 4000000 in
theorem e_X7_readClause (d : Nat) (f : zM) (pf18_0_4 : zB (f 18 0 4) 0 11) (pf18_0_5 : zB (f 18 0 5) 0 11) (T : Nat → Int32) (n p : Nat) (hN : n ≤ 120) (h18 : f 18 0 3 = nI n) (hTp : ∀ i, i < n → f 19 0 i = T i) (hp : f 18 0 6 = nI p) (hb : p ≤ n) (ft : f 18 0 7 = -1) (hI : zInv f) : ZMs (d + 7) yX7_readClause cX7_readClause 2 none [zr 18 0] f (fun r g => r = none ∧ zInv g ∧ zFr [(7, some 0), (7, some 1), (7, some 2), (7, some 3), (7, some 4), (7, some 5), (11, some 0), (11, some 1), (11, some 2), (11, some 3), (11, some 4), (11, some 5), (11, some 6), (11, some 7), (18, some 4), (18, some 5), (18, some 6), (18, some 7)] f g ∧ ((∃ e, zclC T n p = .inl e ∧ e ≤ n ∧ g 18 0 7 = nI e ∧ (∀ x j, g 7 x j = f 7 x j) ∧ (∀ x j, g 11 x j = f 11 x j)) ∨ (∃ q c, zclC T n p = .inr ((false, c), q) ∧ g 18 0 6 = nI q ∧ q ≤ n ∧ g 18 0 7 = -1 ∧ g 18 0 4 = f 18 0 4 + 1 ∧ (∀ j, j < 6 → g 7 (48 + (f 18 0 4).toInt.toNat) j = c j) ∧ (∀ x j, j < 6 → x ≠ 48 + (f 18 0 4).toInt.toNat → g 7 x j = f 7 x j) ∧ g 18 0 5 = f 18 0 5 ∧ (∀ x j, j < 8 → g 11 x j = f 11 x j)) ∨ (∃ q c, zclC T n p = .inr ((true, c), q) ∧ g 18 0 6 = nI q ∧ q ≤ n ∧ g 18 0 7 = -1 ∧ g 18 0 5 = f 18 0 5 + 1 ∧ (∀ j, j < 8 → g 11 (24 + (f 18 0 5).toInt.toNat) j = c j) ∧ (∀ x j, j < 8 → x ≠ 24 + (f 18 0 5).toInt.toNat → g 11 x j = f 11 x j) ∧ g 18 0 4 = f 18 0 4 ∧ (∀ x j, j < 6 → g 7 x j = f 7 x j)))) := by
  refine ZMs.intro (by decide +kernel) (Nat.le_of_ble_eq_true rfl) ?_
  intro X C hr hn hT
  have hF : zFr [(7, some 0), (7, some 1), (7, some 2), (7, some 3), (7, some 4), (7, some 5), (11, some 0), (11, some 1), (11, some 2), (11, some 3), (11, some 4), (11, some 5), (11, some 6), (11, some 7), (18, some 4), (18, some 5), (18, some 6), (18, some 7)] f f := zFr.rf _ _
  have ct18_0_6 : zB (f 18 0 6) 0 120 := hI 18 0 6
  have ct18_0_7 : zB (f 18 0 7) (-1) 120 := hI 18 0 7
  show Z X 0 [some (zr 18 0), none] [] f
  refine z_aload_n (pc := 0) C dX7_readClause_0 rfl ?_
  refine z_bipush (pc := 1) (v := -4) C dX7_readClause_1 (by decide) ?_
  refine z_callV (pc := 3) C zk_X7_60 (e_X7_readLand _ _ (-4) (zB.wk (a' := (-4)) (b' := 5) (zB.of (x := (-4)) (-4) (by decide)) (by decide) (by decide))  T n (p) hN h18 hTp hp hb ft hI) rfl rfl (by decide) rfl rfl (Nat.le_of_ble_eq_true rfl) dX7_readClause_3 (fun r1 g1 q1 => ?_)
  obtain ⟨⟨v1, rfl, b1x⟩, hI1, hF1q, hp1⟩ := q1
  have hp1 := hp1 _ rfl
  have hF1 := zFr.tr hF hF1q (by decide)
  simp only [Option.toList, List.cons_append, List.nil_append]
  have cr1_18_0_6 : zB (g1 18 0 6) 0 120 := hI1 18 0 6
  have cr1_18_0_7 : zB (g1 18 0 7) (-1) 120 := hI1 18 0 7
  have ek1_18_0_4 : (g1 18 0 4).toInt = (f 18 0 4).toInt := by rw [hF1q 18 0 4 rfl]
  have c1_18_0_4x : zB (g1 18 0 4) 0 11 := by first | exact zB.eqv ek1_18_0_4 pf18_0_4 | (have q9 := pf18_0_4; constructor <;> omega)
  have ek1_18_0_5 : (g1 18 0 5).toInt = (f 18 0 5).toInt := by rw [hF1q 18 0 5 rfl]
  have c1_18_0_5x : zB (g1 18 0 5) 0 11 := by first | exact zB.eqv ek1_18_0_5 pf18_0_5 | (have q9 := pf18_0_5; constructor <;> omega)
  rcases hp1 with ⟨u1, hc1, hb1, hz1⟩ | ⟨u1, hc1, hq1, hb1, ft1⟩
  · skip
    have kk7_1 : ∀ x j, g1 7 x j = f 7 x j := fun x j => (hF1q 7 x j rfl).trans ((fun _ _ => rfl) x j)
    have kk11_1 : ∀ x j, g1 11 x j = f 11 x j := fun x j => (hF1q 11 x j rfl).trans ((fun _ _ => rfl) x j)
    have hzi1 : (g1 18 0 7).toInt = (u1 : Int) := by rw [hz1]; exact nI_toInt (by omega)
    have c2x : zB (g1 18 0 7) 0 120 := by first | assumption | (constructor <;> omega)
    refine z_istore_n (pc := 6) C dX7_readClause_6 (by rw [hn]; decide) rfl ?_
    refine z_aload_n (pc := 7) C dX7_readClause_7 rfl ?_
    refine z_bipush (pc := 8) (v := 58) C dX7_readClause_8 (by decide) ?_
    refine z_callV (pc := 10) C zk_X7_48 (w_X7_takes _ _ 58 (zB.wk (a' := 1) (b' := 126) (zB.of (x := 58) 58 (by decide)) (by decide) (by decide)) hI1) rfl rfl (by decide) rfl rfl (Nat.le_of_ble_eq_true rfl) dX7_readClause_10 (fun r3 g3 q3 => ?_)
    obtain ⟨⟨v3, rfl, b3x⟩, hI3, hF3q⟩ := q3
    have hF3 := zFr.tr hF1 hF3q (by decide)
    simp only [Option.toList, List.cons_append, List.nil_append]
    have cr3_18_0_6 : zB (g3 18 0 6) 0 120 := hI3 18 0 6
    have ek3_18_0_7 : (g3 18 0 7).toInt = (g1 18 0 7).toInt := by rw [hF3q 18 0 7 rfl]
    have c3_18_0_7x : zB (g3 18 0 7) 0 120 := by first | exact zB.eqv ek3_18_0_7 c2x | (have q9 := c2x; constructor <;> omega)
    have ek3_18_0_4 : (g3 18 0 4).toInt = (g1 18 0 4).toInt := by rw [hF3q 18 0 4 rfl]
    have c3_18_0_4x : zB (g3 18 0 4) 0 11 := by first | exact zB.eqv ek3_18_0_4 c1_18_0_4x | (have q9 := c1_18_0_4x; constructor <;> omega)
    have ek3_18_0_5 : (g3 18 0 5).toInt = (g1 18 0 5).toInt := by rw [hF3q 18 0 5 rfl]
    have c3_18_0_5x : zB (g3 18 0 5) 0 11 := by first | exact zB.eqv ek3_18_0_5 c1_18_0_5x | (have q9 := c1_18_0_5x; constructor <;> omega)
    have c4x : zB (g3 18 0 7) 0 120 := by first | assumption | (constructor <;> omega)
    have kk7_3 : ∀ x j, g3 7 x j = f 7 x j := fun x j => (hF3q 7 x j rfl).trans (kk7_1 x j)
    have kk11_3 : ∀ x j, g3 11 x j = f 11 x j := fun x j => (hF3q 11 x j rfl).trans (kk11_1 x j)
    refine z_if_eq (pc := 13) 24 C dX7_readClause_13 (by decide) (fun h13_4 => ?_) (fun h13_4 => ?_)
    · skip
      have b6x : zB v3 0 0 := by have q1 := b3x; have q2 := (zB.of (x := 0) 0 (by decide)); simp only [z32lt, z32le, z32eq, Int32.reduceToInt, Int32.toInt_zero] at h13_4; constructor <;> omega
      refine z_aload_n (pc := 24) C dX7_readClause_24 rfl ?_
      refine z_bipush (pc := 25) (v := 62) C dX7_readClause_25 (by decide) ?_
      refine z_callV (pc := 27) C zk_X7_48 (w_X7_takes _ _ 62 (zB.wk (a' := 1) (b' := 126) (zB.of (x := 62) 62 (by decide)) (by decide) (by decide)) hI3) rfl rfl (by decide) rfl rfl (Nat.le_of_ble_eq_true rfl) dX7_readClause_27 (fun r7 g7 q7 => ?_)
      obtain ⟨⟨v7, rfl, b7x⟩, hI7, hF7q⟩ := q7
      have hF7 := zFr.tr hF3 hF7q (by decide)
      simp only [Option.toList, List.cons_append, List.nil_append]
      have cr7_18_0_6 : zB (g7 18 0 6) 0 120 := hI7 18 0 6
      have ek7_18_0_7 : (g7 18 0 7).toInt = (g3 18 0 7).toInt := by rw [hF7q 18 0 7 rfl]
      have c7_18_0_7x : zB (g7 18 0 7) 0 120 := by first | exact zB.eqv ek7_18_0_7 c4x | (have q9 := c4x; constructor <;> omega)
      have ek7_18_0_4 : (g7 18 0 4).toInt = (g3 18 0 4).toInt := by rw [hF7q 18 0 4 rfl]
      have c7_18_0_4x : zB (g7 18 0 4) 0 11 := by first | exact zB.eqv ek7_18_0_4 c3_18_0_4x | (have q9 := c3_18_0_4x; constructor <;> omega)
      have ek7_18_0_5 : (g7 18 0 5).toInt = (g3 18 0 5).toInt := by rw [hF7q 18 0 5 rfl]
      have c7_18_0_5x : zB (g7 18 0 5) 0 11 := by first | exact zB.eqv ek7_18_0_5 c3_18_0_5x | (have q9 := c3_18_0_5x; constructor <;> omega)
      have c8x : zB (g7 18 0 7) 0 120 := by first | assumption | (constructor <;> omega)
      have kk7_7 : ∀ x j, g7 7 x j = f 7 x j := fun x j => (hF7q 7 x j rfl).trans (kk7_3 x j)
      have kk11_7 : ∀ x j, g7 11 x j = f 11 x j := fun x j => (hF7q 11 x j rfl).trans (kk11_3 x j)
      refine z_if_eq (pc := 30) 41 C dX7_readClause_30 (by decide) (fun h30_8 => ?_) (fun h30_8 => ?_)
      · skip
        have b10x : zB v7 0 0 := by have q1 := b7x; have q2 := (zB.of (x := 0) 0 (by decide)); simp only [z32lt, z32le, z32eq, Int32.reduceToInt, Int32.toInt_zero] at h30_8; constructor <;> omega
        refine z_aload_n (pc := 41) C dX7_readClause_41 rfl ?_
        refine z_aload_n (pc := 42) C dX7_readClause_42 rfl ?_
        refine z_getI (pc := 43) C zf_X7_33 rfl rfl (by decide) dX7_readClause_43 ?_
        refine w_gp (fun v => v = g7 18 0 6) rfl (fun v11 q11 => ?_)
        have e11 : v11.toInt = (g7 18 0 6).toInt := by rw [q11]
        have b11x : zB v11 0 120 := by first | exact zB.eqv e11 cr7_18_0_6 | (have q9 := cr7_18_0_6; constructor <;> omega)
        refine z_callV (pc := 46) C zk_X7_56 (x_X7_fail _ _ v11 b11x hI7) rfl rfl (by decide) rfl rfl (Nat.le_of_ble_eq_true rfl) dX7_readClause_46 (fun r12 g12 q12 => ?_)
        obtain ⟨rfl, hI12, hF12q, hp12_0, hp12_1, hp12_2⟩ := q12
        have hF12 := zFr.tr hF7 hF12q (by decide)
        simp only [Option.toList, List.cons_append, List.nil_append]
        have ek12_18_0_6 : (g12 18 0 6).toInt = (g7 18 0 6).toInt := by rw [hF12q 18 0 6 rfl]
        have c12_18_0_6x : zB (g12 18 0 6) 0 120 := by first | exact zB.eqv ek12_18_0_6 cr7_18_0_6 | (have q9 := cr7_18_0_6; constructor <;> omega)
        have cr12_18_0_7 : zB (g12 18 0 7) (-1) 120 := hI12 18 0 7
        have ek12_18_0_4 : (g12 18 0 4).toInt = (g7 18 0 4).toInt := by rw [hF12q 18 0 4 rfl]
        have c12_18_0_4x : zB (g12 18 0 4) 0 11 := by first | exact zB.eqv ek12_18_0_4 c7_18_0_4x | (have q9 := c7_18_0_4x; constructor <;> omega)
        have ek12_18_0_5 : (g12 18 0 5).toInt = (g7 18 0 5).toInt := by rw [hF12q 18 0 5 rfl]
        have c12_18_0_5x : zB (g12 18 0 5) 0 11 := by first | exact zB.eqv ek12_18_0_5 c7_18_0_5x | (have q9 := c7_18_0_5x; constructor <;> omega)
        exact z_vret (pc := 49) C hr dX7_readClause_49 ⟨rfl, hI12, hF12, (by
                                                                                          refine Or.inl ⟨u1, ?_, hb1, ?_, (fun x j => (hF12q 7 x j rfl).trans (kk7_7 x j)), (fun x j => (hF12q 11 x j rfl).trans (kk11_7 x j))⟩
                                                                                          · unfold zclC zCl; simp only [zbd, hc1]
                                                                                          · rw [z32eq, nI_toInt (by omega)]
                                                                                            omega)⟩
      · skip
        have b13x : zB v7 1 1 := by have q1 := b7x; have q2 := (zB.of (x := 0) 0 (by decide)); simp only [z32lt, z32le, z32eq, Int32.reduceToInt, Int32.toInt_zero] at h30_8; constructor <;> omega
        refine z_aload_n (pc := 33) C dX7_readClause_33 rfl ?_
        refine z_iload_n (pc := 34) C dX7_readClause_34 rfl ?_
        refine z_callVS (pc := 35) C hT zk_X7_67 (b_X7_readPaper _ _ v1 b1x c8x hI7) rfl rfl (by decide) rfl rfl (Nat.le_of_ble_eq_true rfl) dX7_readClause_35 (fun r14 g14 q14 => ?_)
        obtain ⟨rfl, hI14, hF14q, hp14_0⟩ := q14
        have hF14 := zFr.tr hF7 hF14q (by decide)
        simp only [Option.toList, List.cons_append, List.nil_append]
        have cr14_18_0_6 : zB (g14 18 0 6) 0 120 := hI14 18 0 6
        have cr14_18_0_7 : zB (g14 18 0 7) (-1) 120 := hI14 18 0 7
        have ek14_18_0_4 : (g14 18 0 4).toInt = (g7 18 0 4).toInt := by rw [hF14q 18 0 4 rfl]
        have c14_18_0_4x : zB (g14 18 0 4) 0 11 := by first | exact zB.eqv ek14_18_0_4 c7_18_0_4x | (have q9 := c7_18_0_4x; constructor <;> omega)
        have ek14_18_0_5 : (g14 18 0 5).toInt = (g7 18 0 5).toInt := by rw [hF14q 18 0 5 rfl]
        have c14_18_0_5x : zB (g14 18 0 5) 0 11 := by first | exact zB.eqv ek14_18_0_5 c7_18_0_5x | (have q9 := c7_18_0_5x; constructor <;> omega)
        have c15x : zB (g14 18 0 7) 0 120 := by first | assumption | (constructor <;> omega)
        have kk7_14 : ∀ x j, g14 7 x j = f 7 x j := fun x j => (hF14q 7 x j rfl).trans (kk7_7 x j)
        have kk11_14 : ∀ x j, g14 11 x j = f 11 x j := fun x j => (hF14q 11 x j rfl).trans (kk11_7 x j)
        refine z_goto (pc := 38) 49 C dX7_readClause_38 (by decide) ?_
        exact z_vret (pc := 49) C hr dX7_readClause_49 ⟨rfl, hI14, hF14, (by
                                                                                          refine Or.inl ⟨u1, ?_, hb1, ?_, (fun x j => kk7_14 x j), (fun x j => kk11_14 x j)⟩
                                                                                          · unfold zclC zCl; simp only [zbd, hc1]
                                                                                          · rw [z32eq, nI_toInt (by omega)]
                                                                                            omega)⟩
    · skip
      have b16x : zB v3 1 1 := by have q1 := b3x; have q2 := (zB.of (x := 0) 0 (by decide)); simp only [z32lt, z32le, z32eq, Int32.reduceToInt, Int32.toInt_zero] at h13_4; constructor <;> omega
      refine z_aload_n (pc := 16) C dX7_readClause_16 rfl ?_
      refine z_iload_n (pc := 17) C dX7_readClause_17 rfl ?_
      refine z_callV (pc := 18) C zk_X7_64 (b_X7_readCrime _ _ v1 b1x c4x hI3) rfl rfl (by decide) rfl rfl (Nat.le_of_ble_eq_true rfl) dX7_readClause_18 (fun r17 g17 q17 => ?_)
      obtain ⟨rfl, hI17, hF17q, hp17_0⟩ := q17
      have hF17 := zFr.tr hF3 hF17q (by decide)
      simp only [Option.toList, List.cons_append, List.nil_append]
      have cr17_18_0_6 : zB (g17 18 0 6) 0 120 := hI17 18 0 6
      have cr17_18_0_7 : zB (g17 18 0 7) (-1) 120 := hI17 18 0 7
      have ek17_18_0_4 : (g17 18 0 4).toInt = (g3 18 0 4).toInt := by rw [hF17q 18 0 4 rfl]
      have c17_18_0_4x : zB (g17 18 0 4) 0 11 := by first | exact zB.eqv ek17_18_0_4 c3_18_0_4x | (have q9 := c3_18_0_4x; constructor <;> omega)
      have ek17_18_0_5 : (g17 18 0 5).toInt = (g3 18 0 5).toInt := by rw [hF17q 18 0 5 rfl]
      have c17_18_0_5x : zB (g17 18 0 5) 0 11 := by first | exact zB.eqv ek17_18_0_5 c3_18_0_5x | (have q9 := c3_18_0_5x; constructor <;> omega)
      have c18x : zB (g17 18 0 7) 0 120 := by first | assumption | (constructor <;> omega)
      have kk7_17 : ∀ x j, g17 7 x j = f 7 x j := fun x j => (hF17q 7 x j rfl).trans (kk7_3 x j)
      have kk11_17 : ∀ x j, g17 11 x j = f 11 x j := fun x j => (hF17q 11 x j rfl).trans (kk11_3 x j)
      refine z_goto (pc := 21) 49 C dX7_readClause_21 (by decide) ?_
      exact z_vret (pc := 49) C hr dX7_readClause_49 ⟨rfl, hI17, hF17, (by
                                                                                          refine Or.inl ⟨u1, ?_, hb1, ?_, (fun x j => kk7_17 x j), (fun x j => kk11_17 x j)⟩
                                                                                          · unfold zclC zCl; simp only [zbd, hc1]
                                                                                          · rw [z32eq, nI_toInt (by omega)]
                                                                                            omega)⟩
  · skip
    have h181 : g1 18 0 3 = nI n := (hF1q 18 0 3 rfl).trans h18
    have hTp1 : ∀ i, i < n → g1 19 0 i = T i := fun i hi => (hF1q 19 0 i rfl).trans (hTp i hi)
    have kk7_1 : ∀ x j, g1 7 x j = f 7 x j := fun x j => (hF1q 7 x j rfl).trans ((fun _ _ => rfl) x j)
    have kk11_1 : ∀ x j, g1 11 x j = f 11 x j := fun x j => (hF1q 11 x j rfl).trans ((fun _ _ => rfl) x j)
    have fti1 : (g1 18 0 7).toInt = -1 := by rw [ft1]; decide
    have c19x : zB (g1 18 0 7) (-1) (-1) := by first | assumption | (constructor <;> omega)
    refine z_istore_n (pc := 6) C dX7_readClause_6 (by rw [hn]; decide) rfl ?_
    refine z_aload_n (pc := 7) C dX7_readClause_7 rfl ?_
    refine z_bipush (pc := 8) (v := 58) C dX7_readClause_8 (by decide) ?_
    refine z_callV (pc := 10) C zk_X7_48 (e_X7_takes _ _ 58 (zB.wk (a' := 1) (b' := 126) (zB.of (x := 58) 58 (by decide)) (by decide) (by decide)) T n (u1) hN h181 hTp1 hq1 hb1 hI1) rfl rfl (by decide) rfl rfl (Nat.le_of_ble_eq_true rfl) dX7_readClause_10 (fun r20 g20 q20 => ?_)
    obtain ⟨⟨v20, rfl, b20x⟩, hI20, hF20q, hp20⟩ := q20
    have hp20 := hp20 _ rfl
    have hF20 := zFr.tr hF1 hF20q (by decide)
    simp only [Option.toList, List.cons_append, List.nil_append]
    have cr20_18_0_6 : zB (g20 18 0 6) 0 120 := hI20 18 0 6
    have ek20_18_0_7 : (g20 18 0 7).toInt = (g1 18 0 7).toInt := by rw [hF20q 18 0 7 rfl]
    have c20_18_0_7x : zB (g20 18 0 7) (-1) (-1) := by first | exact zB.eqv ek20_18_0_7 c19x | (have q9 := c19x; constructor <;> omega)
    have ek20_18_0_4 : (g20 18 0 4).toInt = (g1 18 0 4).toInt := by rw [hF20q 18 0 4 rfl]
    have c20_18_0_4x : zB (g20 18 0 4) 0 11 := by first | exact zB.eqv ek20_18_0_4 c1_18_0_4x | (have q9 := c1_18_0_4x; constructor <;> omega)
    have ek20_18_0_5 : (g20 18 0 5).toInt = (g1 18 0 5).toInt := by rw [hF20q 18 0 5 rfl]
    have c20_18_0_5x : zB (g20 18 0 5) 0 11 := by first | exact zB.eqv ek20_18_0_5 c1_18_0_5x | (have q9 := c1_18_0_5x; constructor <;> omega)
    have h1820 : g20 18 0 3 = nI n := (hF20q 18 0 3 rfl).trans h181
    have hTp20 : ∀ i, i < n → g20 19 0 i = T i := fun i hi => (hF20q 19 0 i rfl).trans (hTp1 i hi)
    have ft20 : g20 18 0 7 = -1 := (hF20q 18 0 7 rfl).trans ft1
    have kk7_20 : ∀ x j, g20 7 x j = f 7 x j := fun x j => (hF20q 7 x j rfl).trans (kk7_1 x j)
    have kk11_20 : ∀ x j, g20 11 x j = f 11 x j := fun x j => (hF20q 11 x j rfl).trans (kk11_1 x j)
    rcases hp20 with ⟨hc20, rfl, hq20, hb20⟩ | ⟨hc20, rfl, hq20⟩
    · skip
      refine z_if_eq (pc := 13) 24 C dX7_readClause_13 (by decide) (fun h => absurd h (by decide)) (fun _ => ?_)
      refine z_aload_n (pc := 16) C dX7_readClause_16 rfl ?_
      refine z_iload_n (pc := 17) C dX7_readClause_17 rfl ?_
      refine z_callV (pc := 18) C zk_X7_64 (e_X7_readCrime _ _ v1 b1x c20_18_0_4x T n (zsp T n (u1) + 1) hN h1820 hTp20 hq20 hb20 ft20 hI20) rfl rfl (by decide) rfl rfl (Nat.le_of_ble_eq_true rfl) dX7_readClause_18 (fun r21 g21 q21 => ?_)
      obtain ⟨rfl, hI21, hF21q, hp21⟩ := q21
      have hF21 := zFr.tr hF20 hF21q (by decide)
      simp only [Option.toList, List.cons_append, List.nil_append]
      have cr21_18_0_6 : zB (g21 18 0 6) 0 120 := hI21 18 0 6
      have cr21_18_0_7 : zB (g21 18 0 7) (-1) 120 := hI21 18 0 7
      have cr21_18_0_4 : zB (g21 18 0 4) 0 12 := hI21 18 0 4
      have ek21_18_0_5 : (g21 18 0 5).toInt = (g20 18 0 5).toInt := by rw [hF21q 18 0 5 rfl]
      have c21_18_0_5x : zB (g21 18 0 5) 0 11 := by first | exact zB.eqv ek21_18_0_5 c20_18_0_5x | (have q9 := c20_18_0_5x; constructor <;> omega)
      rcases hp21 with ⟨u21, hc21, hb21, hz21, hkr21⟩ | ⟨u21, c21w, hc21, hq21, hb21, ft21, hn21w, hcl21, hot21⟩
      · skip
        have kk11_21 : ∀ x j, g21 11 x j = f 11 x j := fun x j => (hF21q 11 x j rfl).trans (kk11_20 x j)
        have kk7_21 : ∀ x j, g21 7 x j = f 7 x j := fun x j => (hkr21 x j).trans (kk7_20 x j)
        have hzi21 : (g21 18 0 7).toInt = (u21 : Int) := by rw [hz21]; exact nI_toInt (by omega)
        have c22x : zB (g21 18 0 7) 0 120 := by first | assumption | (constructor <;> omega)
        refine z_goto (pc := 21) 49 C dX7_readClause_21 (by decide) ?_
        exact z_vret (pc := 49) C hr dX7_readClause_49 ⟨rfl, hI21, hF21, (by
                                                                                          refine Or.inl ⟨u21, ?_, hb21, ?_, (fun x j => kk7_21 x j), (fun x j => kk11_21 x j)⟩
                                                                                          · unfold zclC zCl; simp only [zbd, hc1, if_pos hc20, hc21]
                                                                                          · rw [z32eq, nI_toInt (by omega)]
                                                                                            omega)⟩
      · skip
        have fti21 : (g21 18 0 7).toInt = -1 := by rw [ft21]; decide
        have c23x : zB (g21 18 0 7) (-1) (-1) := by first | assumption | (constructor <;> omega)
        refine z_goto (pc := 21) 49 C dX7_readClause_21 (by decide) ?_
        exact z_vret (pc := 49) C hr dX7_readClause_49 ⟨rfl, hI21, hF21, (by
                                                                                          have ec : g20 18 0 4 = f 18 0 4 := by rw [z32eq]; omega
                                                                                          have eo : g21 18 0 5 = f 18 0 5 := by rw [z32eq]; omega
                                                                                          rw [ec] at hn21w hcl21 hot21
                                                                                          refine Or.inr (Or.inl ⟨u21, c21w, ?_, hq21, hb21, ft21, hn21w, hcl21, ?_, eo, ?_⟩)
                                                                                          · unfold zclC zCl; simp only [zbd, hc1, if_pos hc20, hc21]
                                                                                          · intro x j hj hx; exact (hot21 x j hj hx).trans (kk7_20 x j)
                                                                                          · intro x j hj; exact (hF21q 11 x j rfl).trans (kk11_20 x j))⟩
    · skip
      have hb20 : zsp T n (u1) ≤ n := zsp_len hb1
      refine z_if_eq (pc := 13) 24 C dX7_readClause_13 (by decide) (fun _ => ?_) (fun h => absurd (by decide) h)
      refine z_aload_n (pc := 24) C dX7_readClause_24 rfl ?_
      refine z_bipush (pc := 25) (v := 62) C dX7_readClause_25 (by decide) ?_
      refine z_callV (pc := 27) C zk_X7_48 (e_X7_takes _ _ 62 (zB.wk (a' := 1) (b' := 126) (zB.of (x := 62) 62 (by decide)) (by decide) (by decide)) T n (zsp T n (u1)) hN h1820 hTp20 hq20 hb20 hI20) rfl rfl (by decide) rfl rfl (Nat.le_of_ble_eq_true rfl) dX7_readClause_27 (fun r24 g24 q24 => ?_)
      obtain ⟨⟨v24, rfl, b24x⟩, hI24, hF24q, hp24⟩ := q24
      have hp24 := hp24 _ rfl
      have hF24 := zFr.tr hF20 hF24q (by decide)
      simp only [Option.toList, List.cons_append, List.nil_append]
      have cr24_18_0_6 : zB (g24 18 0 6) 0 120 := hI24 18 0 6
      have ek24_18_0_7 : (g24 18 0 7).toInt = (g20 18 0 7).toInt := by rw [hF24q 18 0 7 rfl]
      have c24_18_0_7x : zB (g24 18 0 7) (-1) (-1) := by first | exact zB.eqv ek24_18_0_7 c20_18_0_7x | (have q9 := c20_18_0_7x; constructor <;> omega)
      have ek24_18_0_4 : (g24 18 0 4).toInt = (g20 18 0 4).toInt := by rw [hF24q 18 0 4 rfl]
      have c24_18_0_4x : zB (g24 18 0 4) 0 11 := by first | exact zB.eqv ek24_18_0_4 c20_18_0_4x | (have q9 := c20_18_0_4x; constructor <;> omega)
      have ek24_18_0_5 : (g24 18 0 5).toInt = (g20 18 0 5).toInt := by rw [hF24q 18 0 5 rfl]
      have c24_18_0_5x : zB (g24 18 0 5) 0 11 := by first | exact zB.eqv ek24_18_0_5 c20_18_0_5x | (have q9 := c20_18_0_5x; constructor <;> omega)
      have h1824 : g24 18 0 3 = nI n := (hF24q 18 0 3 rfl).trans h1820
      have hTp24 : ∀ i, i < n → g24 19 0 i = T i := fun i hi => (hF24q 19 0 i rfl).trans (hTp20 i hi)
      have ft24 : g24 18 0 7 = -1 := (hF24q 18 0 7 rfl).trans ft20
      have kk7_24 : ∀ x j, g24 7 x j = f 7 x j := fun x j => (hF24q 7 x j rfl).trans (kk7_20 x j)
      have kk11_24 : ∀ x j, g24 11 x j = f 11 x j := fun x j => (hF24q 11 x j rfl).trans (kk11_20 x j)
      rcases hp24 with ⟨hc24, rfl, hq24, hb24⟩ | ⟨hc24, rfl, hq24⟩
      · skip
        refine z_if_eq (pc := 30) 41 C dX7_readClause_30 (by decide) (fun h => absurd h (by decide)) (fun _ => ?_)
        refine z_aload_n (pc := 33) C dX7_readClause_33 rfl ?_
        refine z_iload_n (pc := 34) C dX7_readClause_34 rfl ?_
        refine z_callVS (pc := 35) C hT zk_X7_67 (e_X7_readPaper _ _ v1 b1x c24_18_0_5x T n (zsp T n (zsp T n (u1)) + 1) hN h1824 hTp24 hq24 hb24 ft24 hI24) rfl rfl (by decide) rfl rfl (Nat.le_of_ble_eq_true rfl) dX7_readClause_35 (fun r25 g25 q25 => ?_)
        obtain ⟨rfl, hI25, hF25q, hp25⟩ := q25
        have hF25 := zFr.tr hF24 hF25q (by decide)
        simp only [Option.toList, List.cons_append, List.nil_append]
        have cr25_18_0_6 : zB (g25 18 0 6) 0 120 := hI25 18 0 6
        have cr25_18_0_7 : zB (g25 18 0 7) (-1) 120 := hI25 18 0 7
        have ek25_18_0_4 : (g25 18 0 4).toInt = (g24 18 0 4).toInt := by rw [hF25q 18 0 4 rfl]
        have c25_18_0_4x : zB (g25 18 0 4) 0 11 := by first | exact zB.eqv ek25_18_0_4 c24_18_0_4x | (have q9 := c24_18_0_4x; constructor <;> omega)
        have cr25_18_0_5 : zB (g25 18 0 5) 0 12 := hI25 18 0 5
        rcases hp25 with ⟨u25, hc25, hb25, hz25, hkr25⟩ | ⟨u25, c25w, hc25, hq25, hb25, ft25, hn25w, hcl25, hot25⟩
        · skip
          have kk7_25 : ∀ x j, g25 7 x j = f 7 x j := fun x j => (hF25q 7 x j rfl).trans (kk7_24 x j)
          have kk11_25 : ∀ x j, g25 11 x j = f 11 x j := fun x j => (hkr25 x j).trans (kk11_24 x j)
          have hzi25 : (g25 18 0 7).toInt = (u25 : Int) := by rw [hz25]; exact nI_toInt (by omega)
          have c26x : zB (g25 18 0 7) 0 120 := by first | assumption | (constructor <;> omega)
          refine z_goto (pc := 38) 49 C dX7_readClause_38 (by decide) ?_
          exact z_vret (pc := 49) C hr dX7_readClause_49 ⟨rfl, hI25, hF25, (by
                                                                                          refine Or.inl ⟨u25, ?_, hb25, ?_, (fun x j => kk7_25 x j), (fun x j => kk11_25 x j)⟩
                                                                                          · unfold zclC zCl; simp only [zbd, hc1, if_neg hc20, if_pos hc24, hc25]
                                                                                          · rw [z32eq, nI_toInt (by omega)]
                                                                                            omega)⟩
        · skip
          have fti25 : (g25 18 0 7).toInt = -1 := by rw [ft25]; decide
          have c27x : zB (g25 18 0 7) (-1) (-1) := by first | assumption | (constructor <;> omega)
          refine z_goto (pc := 38) 49 C dX7_readClause_38 (by decide) ?_
          exact z_vret (pc := 49) C hr dX7_readClause_49 ⟨rfl, hI25, hF25, (by
                                                                                          have ec : g24 18 0 5 = f 18 0 5 := by rw [z32eq]; omega
                                                                                          have eo : g25 18 0 4 = f 18 0 4 := by rw [z32eq]; omega
                                                                                          rw [ec] at hn25w hcl25 hot25
                                                                                          refine Or.inr (Or.inr ⟨u25, c25w, ?_, hq25, hb25, ft25, hn25w, hcl25, ?_, eo, ?_⟩)
                                                                                          · unfold zclC zCl; simp only [zbd, hc1, if_neg hc20, if_pos hc24, hc25]
                                                                                          · intro x j hj hx; exact (hot25 x j hj hx).trans (kk11_24 x j)
                                                                                          · intro x j hj; exact (hF25q 7 x j rfl).trans (kk7_24 x j))⟩
      · skip
        have hb24 : zsp T n (zsp T n (u1)) ≤ n := zsp_len hb20
        refine z_if_eq (pc := 30) 41 C dX7_readClause_30 (by decide) (fun _ => ?_) (fun h => absurd (by decide) h)
        refine z_aload_n (pc := 41) C dX7_readClause_41 rfl ?_
        refine z_aload_n (pc := 42) C dX7_readClause_42 rfl ?_
        refine z_getI (pc := 43) C zf_X7_33 rfl rfl (by decide) dX7_readClause_43 ?_
        refine w_gp (fun v => v = g24 18 0 6) rfl (fun v28 q28 => ?_)
        have e28 : v28.toInt = (g24 18 0 6).toInt := by rw [q28]
        have b28x : zB v28 0 120 := by first | exact zB.eqv e28 cr24_18_0_6 | (have q9 := cr24_18_0_6; constructor <;> omega)
        refine z_callV (pc := 46) C zk_X7_56 (x_X7_fail _ _ v28 b28x hI24) rfl rfl (by decide) rfl rfl (Nat.le_of_ble_eq_true rfl) dX7_readClause_46 (fun r29 g29 q29 => ?_)
        obtain ⟨rfl, hI29, hF29q, hp29_0, hp29_1, hp29_2⟩ := q29
        have hF29 := zFr.tr hF24 hF29q (by decide)
        simp only [Option.toList, List.cons_append, List.nil_append]
        have ek29_18_0_6 : (g29 18 0 6).toInt = (g24 18 0 6).toInt := by rw [hF29q 18 0 6 rfl]
        have c29_18_0_6x : zB (g29 18 0 6) 0 120 := by first | exact zB.eqv ek29_18_0_6 cr24_18_0_6 | (have q9 := cr24_18_0_6; constructor <;> omega)
        have cr29_18_0_7 : zB (g29 18 0 7) (-1) 120 := hI29 18 0 7
        have ek29_18_0_4 : (g29 18 0 4).toInt = (g24 18 0 4).toInt := by rw [hF29q 18 0 4 rfl]
        have c29_18_0_4x : zB (g29 18 0 4) 0 11 := by first | exact zB.eqv ek29_18_0_4 c24_18_0_4x | (have q9 := c24_18_0_4x; constructor <;> omega)
        have ek29_18_0_5 : (g29 18 0 5).toInt = (g24 18 0 5).toInt := by rw [hF29q 18 0 5 rfl]
        have c29_18_0_5x : zB (g29 18 0 5) 0 11 := by first | exact zB.eqv ek29_18_0_5 c24_18_0_5x | (have q9 := c24_18_0_5x; constructor <;> omega)
        exact z_vret (pc := 49) C hr dX7_readClause_49 ⟨rfl, hI29, hF29, (by
                                                                                          refine Or.inl ⟨zsp T n (zsp T n (u1)), ?_, hb24, ?_, fun x j => (hF29q 7 x j rfl).trans (kk7_24 x j), fun x j => (hF29q 11 x j rfl).trans (kk11_24 x j)⟩
                                                                                          · unfold zclC zCl; simp only [zbd, hc1, if_neg hc20, if_neg hc24]
                                                                                          · rw [hp29_2 (by rw [ft24]; decide), q28]; exact hq24)⟩
