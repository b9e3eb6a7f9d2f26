/-! ===== the sheets, exactly ===== -/
set_option maxRecDepth 100000 in
set_option maxHeartbeats 4000000 in
theorem m_X9_drop (d : Nat) (f : zM) (a1 : Int32) : ZM (d + 1) yX9_drop cX9_drop 3 (some .int) [zr 0 0, zi a1] f (fun r g => (¬ (0 ≤ a1.toInt ∧ a1.toInt ≤ 3) ∧ r = some (zi (-1)) ∧ g = f) ∨ ((0 ≤ a1.toInt ∧ a1.toInt ≤ 3) ∧ f 23 a1.toNatClampNeg 1 = -1 ∧ r = some (zi (-11)) ∧ g = f) ∨ ((0 ≤ a1.toInt ∧ a1.toInt ≤ 3) ∧ ¬ f 23 a1.toNatClampNeg 1 = -1 ∧ r = some (zi (f 23 a1.toNatClampNeg 2)) ∧ g = zup f 23 a1.toNatClampNeg 1 (-1))) := by
  refine ZM.intro (by decide +kernel) (Nat.le_of_ble_eq_true rfl) ?_
  intro X C hr hn
  show Z X 0 [some (zr 0 0), some (zi a1), none] [] f
  refine z_iload_n (pc := 0) C dX9_drop_0 rfl ?_
  refine z_callSb (pc := 1) C zk_X9_195 (m_X9_isSheet _ _ _) rfl rfl (Nat.le_of_ble_eq_true rfl) dX9_drop_1 (fun h1 => ?_) (fun h1 => ?_)
  · skip
    refine z_if_ne (pc := 4) 9 C dX9_drop_4 (by decide) (fun h4 => ?_) (fun h4 => absurd h4 (by decide))
    refine z_aload_n (pc := 9) C dX9_drop_9 rfl ?_
    refine z_getR (pc := 10) C zf_X9_37 rfl rfl (by decide) dX9_drop_10 ?_
    refine z_iload_n (pc := 13) C dX9_drop_13 rfl ?_
    refine z_aald (pc := 14) C rfl ⟨rfl, by decide⟩ (by decide) (zidx (n := 4) h1.1 (by have := h1.2; omega)).1 dX9_drop_14 ?_
    refine z_astore_n (pc := 15) C dX9_drop_15 (by rw [hn]; decide) rfl ?_
    refine z_aload_n (pc := 16) C dX9_drop_16 rfl ?_
    refine z_getI (pc := 17) C zf_X9_336 rfl rfl (zidx (n := 4) h1.1 (by have := h1.2; omega)).2 dX9_drop_17 ?_
    refine z_iconst (pc := 20) (v := -1) C dX9_drop_20 (by decide) ?_
    refine z_icmp_ne (pc := 21) 27 C dX9_drop_21 (by decide) (fun h21 => ?_) (fun h21 => ?_)
    · skip
      refine z_aload_n (pc := 27) C dX9_drop_27 rfl ?_
      refine z_iconst (pc := 28) (v := -1) C dX9_drop_28 (by decide) ?_
      refine z_putI (pc := 29) C zf_X9_336 zp_6_1 rfl rfl (zidx (n := 4) h1.1 (by have := h1.2; omega)).2 dX9_drop_29 ?_
      refine z_aload_n (pc := 32) C dX9_drop_32 rfl ?_
      refine z_getI (pc := 33) C zf_X9_204 rfl rfl (zidx (n := 4) h1.1 (by have := h1.2; omega)).2 dX9_drop_33 ?_
      exact z_iret (pc := 36) C hr dX9_drop_36 (Or.inr (Or.inr ⟨h1, h21, congrArg (fun x => some (zi x)) (zup_ne f (-1) (by omega)), rfl⟩))
    · skip
      refine z_bipush (pc := 24) (v := -11) C dX9_drop_24 (by decide) ?_
      exact z_iret (pc := 26) C hr dX9_drop_26 (Or.inr (Or.inl ⟨h1, h21, rfl, rfl⟩))
  · skip
    refine z_if_ne (pc := 4) 9 C dX9_drop_4 (by decide) (fun h4 => absurd (by decide) h4) (fun h4 => ?_)
    refine z_iconst (pc := 7) (v := -1) C dX9_drop_7 (by decide) ?_
    exact z_iret (pc := 8) C hr dX9_drop_8 (Or.inl ⟨h1, rfl, rfl⟩)

set_option maxRecDepth 100000 in
set_option maxHeartbeats 4000000 in
theorem m_X10_drop (d : Nat) (f : zM) (a1 : Int32) : ZM (d + 1) yX10_drop cX10_drop 2 (some .int) [zr 25 0, zi a1] f (fun r g => (¬ (0 ≤ a1.toInt ∧ a1.toInt ≤ 3) ∧ r = some (zi (-1)) ∧ g = f) ∨ ((0 ≤ a1.toInt ∧ a1.toInt ≤ 3) ∧ f 41 0 a1.toNatClampNeg < 0 ∧ r = some (zi (-11)) ∧ g = f) ∨ ((0 ≤ a1.toInt ∧ a1.toInt ≤ 3) ∧ ¬ f 41 0 a1.toNatClampNeg < 0 ∧ r = some (zi (f 42 0 a1.toNatClampNeg)) ∧ g = zup f 41 0 a1.toNatClampNeg (-1))) := by
  refine ZM.intro (by decide +kernel) (Nat.le_of_ble_eq_true rfl) ?_
  intro X C hr hn
  show Z X 0 [some (zr 25 0), some (zi a1)] [] f
  refine z_iload_n (pc := 0) C dX10_drop_0 rfl ?_
  refine z_i2l (pc := 1) C dX10_drop_1 ?_
  refine z_lconst (pc := 2) (v := 0) C dX10_drop_2 (by decide) ?_
  refine z_ldc2 (pc := 3) C zw_1415 dX10_drop_3 ?_
  refine z_callSb (pc := 6) C zk_X10_69 (m_X10_in _ _ _ _ _) rfl rfl (Nat.le_of_ble_eq_true rfl) dX10_drop_6 (fun h6 => ?_) (fun h6 => ?_)
  · skip
    refine z_if_ne (pc := 9) 14 C dX10_drop_9 (by decide) (fun h9 => ?_) (fun h9 => absurd h9 (by decide))
    refine z_aload_n (pc := 14) C dX10_drop_14 rfl ?_
    refine z_getR (pc := 15) C zf_X10_55 rfl rfl (by decide) dX10_drop_15 ?_
    refine z_iload_n (pc := 18) C dX10_drop_18 rfl ?_
    refine z_iald (pc := 19) C rfl (by decide) (zIx (zin64 h6 rfl rfl : zB a1 0 3) (by decide) (by decide)) dX10_drop_19 ?_
    refine z_if_ge (pc := 20) 26 C dX10_drop_20 (by decide) (fun h20 => ?_) (fun h20 => ?_)
    · skip
      refine z_aload_n (pc := 26) C dX10_drop_26 rfl ?_
      refine z_getR (pc := 27) C zf_X10_55 rfl rfl (by decide) dX10_drop_27 ?_
      refine z_iload_n (pc := 30) C dX10_drop_30 rfl ?_
      refine z_iconst (pc := 31) (v := -1) C dX10_drop_31 (by decide) ?_
      refine z_iast (pc := 32) C rfl (by decide) (zIx (zin64 h6 rfl rfl : zB a1 0 3) (by decide) (by decide)) dX10_drop_32 ?_
      refine z_aload_n (pc := 33) C dX10_drop_33 rfl ?_
      refine z_getR (pc := 34) C zf_X10_58 rfl rfl (by decide) dX10_drop_34 ?_
      refine z_iload_n (pc := 37) C dX10_drop_37 rfl ?_
      refine z_iald (pc := 38) C rfl (by decide) (zIx (zin64 h6 rfl rfl : zB a1 0 3) (by decide) (by decide)) dX10_drop_38 ?_
      exact z_iret (pc := 39) C hr dX10_drop_39 (Or.inr (Or.inr ⟨(zin64 h6 rfl rfl : zB a1 0 3), Int32.not_lt.mpr h20, congrArg (fun x => some (zi x)) (zup_ne f (-1) (by omega)), rfl⟩))
    · skip
      refine z_bipush (pc := 23) (v := -11) C dX10_drop_23 (by decide) ?_
      exact z_iret (pc := 25) C hr dX10_drop_25 (Or.inr (Or.inl ⟨(zin64 h6 rfl rfl : zB a1 0 3), Int32.not_le.mp h20, rfl, rfl⟩))
  · skip
    refine z_if_ne (pc := 9) 14 C dX10_drop_9 (by decide) (fun h9 => absurd (by decide) h9) (fun h9 => ?_)
    refine z_iconst (pc := 12) (v := -1) C dX10_drop_12 (by decide) ?_
    exact z_iret (pc := 13) C hr dX10_drop_13 (Or.inl ⟨fun q => h6 (by rw [z64]; exact q), rfl, rfl⟩)

set_option maxRecDepth 100000 in
set_option maxHeartbeats 4000000 in
theorem m_X9_sheet (d : Nat) (f : zM) (a1 a2 a3 : Int32) : ZM (d + 2) yX9_sheet cX9_sheet 4 (some .int) [zr 0 0, zi a1, zi a2, zi a3] f (fun r g => (((0 ≤ a1.toInt ∧ a1.toInt ≤ 3) ∧ (0 ≤ a2.toInt ∧ a2.toInt ≤ 2) ∧ a3.toInt ≤ 16) ∧ 0 ≤ a3.toInt ∧ r = some (zi a3) ∧ g = zfill (zup (zup f 23 a1.toNatClampNeg 1 a2) 23 a1.toNatClampNeg 2 a3) 24 a1.toNatClampNeg 16 0) ∨ (((0 ≤ a1.toInt ∧ a1.toInt ≤ 3) ∧ (0 ≤ a2.toInt ∧ a2.toInt ≤ 2) ∧ a3.toInt ≤ 16) ∧ a3.toInt < 0 ∧ r = some (zi (-14)) ∧ g = f) ∨ (¬ ((0 ≤ a1.toInt ∧ a1.toInt ≤ 3) ∧ (0 ≤ a2.toInt ∧ a2.toInt ≤ 2) ∧ a3.toInt ≤ 16) ∧ r = some (zi (-1)) ∧ g = f)) := by
  refine ZM.intro (by decide +kernel) (Nat.le_of_ble_eq_true rfl) ?_
  intro X C hr hn
  show Z X 0 [some (zr 0 0), some (zi a1), some (zi a2), some (zi a3)] [] f
  refine z_iload_n (pc := 0) C dX9_sheet_0 rfl ?_
  refine z_callSb (pc := 1) C zk_X9_195 (m_X9_isSheet _ _ _) rfl rfl (Nat.le_of_ble_eq_true rfl) dX9_sheet_1 (fun h1 => ?_) (fun h1 => ?_)
  · skip
    refine z_if_eq (pc := 4) 20 C dX9_sheet_4 (by decide) (fun h4 => absurd h4 (by decide)) (fun h4 => ?_)
    refine z_iload_n (pc := 7) C dX9_sheet_7 rfl ?_
    refine z_callSb (pc := 8) C zk_X9_198 (m_X9_isLane _ _ _) rfl rfl (Nat.le_of_ble_eq_true rfl) dX9_sheet_8 (fun h8 => ?_) (fun h8 => ?_)
    · skip
      refine z_if_eq (pc := 11) 20 C dX9_sheet_11 (by decide) (fun h11 => absurd h11 (by decide)) (fun h11 => ?_)
      refine z_iload_n (pc := 14) C dX9_sheet_14 rfl ?_
      refine z_bipush (pc := 15) (v := 16) C dX9_sheet_15 (by decide) ?_
      refine z_icmp_le (pc := 17) 22 C dX9_sheet_17 (by decide) (fun h17 => ?_) (fun h17 => ?_)
      · skip
        refine z_iload_n (pc := 22) C dX9_sheet_22 rfl ?_
        refine z_if_ge (pc := 23) 29 C dX9_sheet_23 (by decide) (fun h23 => ?_) (fun h23 => ?_)
        · skip
          refine z_aload_n (pc := 29) C dX9_sheet_29 rfl ?_
          refine z_getR (pc := 30) C zf_X9_37 rfl rfl (by decide) dX9_sheet_30 ?_
          refine z_iload_n (pc := 33) C dX9_sheet_33 rfl ?_
          refine z_aald (pc := 34) C rfl ⟨rfl, by decide⟩ (by decide) (zidx (n := 4) h1.1 (by have := h1.2; omega)).1 dX9_sheet_34 ?_
          refine z_iload_n (pc := 35) C dX9_sheet_35 rfl ?_
          refine z_iload_n (pc := 36) C dX9_sheet_36 rfl ?_
          refine z_callVx (pc := 37) C zk_X9_332 (m_X6_begin _ _ _ (zidx (n := 4) h1.1 (by have := h1.2; omega)).2 _ _) rfl rfl (zidx (n := 4) h1.1 (by have := h1.2; omega)).2 rfl rfl (Nat.le_of_ble_eq_true rfl) dX9_sheet_37 ?_
          simp only [Option.toList, List.cons_append, List.nil_append]
          refine z_iload_n (pc := 40) C dX9_sheet_40 rfl ?_
          exact z_iret (pc := 41) C hr dX9_sheet_41 (Or.inl ⟨⟨h1, h8, (by simp only [z32lt, z32le, z32eq, z64, Int32.reduceToInt, Int32.toInt_zero, Int32.toInt_one, Int32.toInt_neg] at *; omega)⟩, (by simp only [z32lt, z32le, z32eq, z64, Int32.reduceToInt, Int32.toInt_zero, Int32.toInt_one, Int32.toInt_neg] at *; omega), rfl, rfl⟩)
        · skip
          refine z_bipush (pc := 26) (v := -14) C dX9_sheet_26 (by decide) ?_
          exact z_iret (pc := 28) C hr dX9_sheet_28 (Or.inr (Or.inl ⟨⟨h1, h8, (by simp only [z32lt, z32le, z32eq, z64, Int32.reduceToInt, Int32.toInt_zero, Int32.toInt_one, Int32.toInt_neg] at *; omega)⟩, (by simp only [z32lt, z32le, z32eq, z64, Int32.reduceToInt, Int32.toInt_zero, Int32.toInt_one, Int32.toInt_neg] at *; omega), rfl, rfl⟩))
      · skip
        refine z_iconst (pc := 20) (v := -1) C dX9_sheet_20 (by decide) ?_
        exact z_iret (pc := 21) C hr dX9_sheet_21 (Or.inr (Or.inr ⟨(by simp only [z32lt, z32le, z32eq, z64, Int32.reduceToInt, Int32.toInt_zero, Int32.toInt_one, Int32.toInt_neg] at *; omega), rfl, rfl⟩))
    · skip
      refine z_if_eq (pc := 11) 20 C dX9_sheet_11 (by decide) (fun h11 => ?_) (fun h11 => absurd (by decide) h11)
      refine z_iconst (pc := 20) (v := -1) C dX9_sheet_20 (by decide) ?_
      exact z_iret (pc := 21) C hr dX9_sheet_21 (Or.inr (Or.inr ⟨(by simp only [z32lt, z32le, z32eq, z64, Int32.reduceToInt, Int32.toInt_zero, Int32.toInt_one, Int32.toInt_neg] at *; omega), rfl, rfl⟩))
  · skip
    refine z_if_eq (pc := 4) 20 C dX9_sheet_4 (by decide) (fun h4 => ?_) (fun h4 => absurd (by decide) h4)
    refine z_iconst (pc := 20) (v := -1) C dX9_sheet_20 (by decide) ?_
    exact z_iret (pc := 21) C hr dX9_sheet_21 (Or.inr (Or.inr ⟨(by simp only [z32lt, z32le, z32eq, z64, Int32.reduceToInt, Int32.toInt_zero, Int32.toInt_one, Int32.toInt_neg] at *; omega), rfl, rfl⟩))

set_option maxRecDepth 100000 in
set_option maxHeartbeats 4000000 in
theorem m_X10_sheet (d : Nat) (f : zM) (a1 a2 a3 : Int32) : ZM (d + 2) yX10_sheet cX10_sheet 5 (some .int) [zr 25 0, zi a1, zi a2, zi a3] f (fun r g => (((0 ≤ a1.toInt ∧ a1.toInt ≤ 3) ∧ (0 ≤ a2.toInt ∧ a2.toInt ≤ 2) ∧ a3.toInt ≤ 16) ∧ 0 ≤ a3.toInt ∧ r = some (zi a3) ∧ g = zfo (zup (zup f 41 0 a1.toNatClampNeg a2) 42 0 a1.toNatClampNeg a3) 43 0 (16 * a1.toNatClampNeg) 16 0) ∨ (((0 ≤ a1.toInt ∧ a1.toInt ≤ 3) ∧ (0 ≤ a2.toInt ∧ a2.toInt ≤ 2) ∧ a3.toInt ≤ 16) ∧ a3.toInt < 0 ∧ r = some (zi (-14)) ∧ g = f) ∨ (¬ ((0 ≤ a1.toInt ∧ a1.toInt ≤ 3) ∧ (0 ≤ a2.toInt ∧ a2.toInt ≤ 2) ∧ a3.toInt ≤ 16) ∧ r = some (zi (-1)) ∧ g = f)) := by
  refine ZM.intro (by decide +kernel) (Nat.le_of_ble_eq_true rfl) ?_
  intro X C hr hn
  show Z X 0 [some (zr 25 0), some (zi a1), some (zi a2), some (zi a3), none] [] f
  refine z_iload_n (pc := 0) C dX10_sheet_0 rfl ?_
  refine z_iload_n (pc := 1) C dX10_sheet_1 rfl ?_
  refine z_callSb (pc := 2) C zk_X10_268 (m_X10_isSheet _ _ _ _) rfl rfl (Nat.le_of_ble_eq_true rfl) dX10_sheet_2 (fun h2 => ?_) (fun h2 => ?_)
  · skip
    refine z_if_eq (pc := 5) 14 C dX10_sheet_5 (by decide) (fun h5 => absurd h5 (by decide)) (fun h5 => ?_)
    refine z_iload_n (pc := 8) C dX10_sheet_8 rfl ?_
    refine z_bipush (pc := 9) (v := 16) C dX10_sheet_9 (by decide) ?_
    refine z_icmp_le (pc := 11) 16 C dX10_sheet_11 (by decide) (fun h11 => ?_) (fun h11 => ?_)
    · skip
      refine z_iload_n (pc := 16) C dX10_sheet_16 rfl ?_
      refine z_if_ge (pc := 17) 23 C dX10_sheet_17 (by decide) (fun h17 => ?_) (fun h17 => ?_)
      · skip
        refine z_aload_n (pc := 23) C dX10_sheet_23 rfl ?_
        refine z_getR (pc := 24) C zf_X10_55 rfl rfl (by decide) dX10_sheet_24 ?_
        refine z_iload_n (pc := 27) C dX10_sheet_27 rfl ?_
        refine z_iload_n (pc := 28) C dX10_sheet_28 rfl ?_
        refine z_iast (pc := 29) C rfl (by decide) (zidx h2.1.1 (by omega)).1 dX10_sheet_29 ?_
        refine z_aload_n (pc := 30) C dX10_sheet_30 rfl ?_
        refine z_getR (pc := 31) C zf_X10_58 rfl rfl (by decide) dX10_sheet_31 ?_
        refine z_iload_n (pc := 34) C dX10_sheet_34 rfl ?_
        refine z_iload_n (pc := 35) C dX10_sheet_35 rfl ?_
        refine z_iast (pc := 36) C rfl (by decide) (zidx h2.1.1 (by omega)).1 dX10_sheet_36 ?_
        refine z_iconst (pc := 37) (v := 0) C dX10_sheet_37 (by decide) ?_
        refine z_istore (pc := 38) C dX10_sheet_38 (by rw [hn]; decide) rfl ?_
        obtain ⟨s1, s2⟩ := nI_ofI (x := a1) h2.1.1
        have s3 : a1.toNatClampNeg = a1.toInt.toNat := rfl
        have s4 : a1.toInt.toNat < 4 := by have := h2.1.1; have := h2.1.2; omega
        generalize a1.toInt.toNat = sn at s1 s2 s3 s4
        have hr2 := hr
        rw [s3] at hr2
        subst s1
        rw [nI_clamp (by omega)]
        rw [← zfo_0 (zup (zup f 41 0 sn a2) 42 0 sn a3) 43 0 (16 * sn) 0]
        refine sheetm_loop s4 C hn ?_ 16 0 rfl
        refine z_iload_n (pc := 66) C dX10_sheet_66 rfl ?_
        exact z_iret (pc := 67) C hr2 dX10_sheet_67 (Or.inl ⟨⟨h2.1, h2.2, (by simp only [z32lt, z32le, z32eq, z64, Int32.reduceToInt, Int32.toInt_zero, Int32.toInt_one, Int32.toInt_neg] at *; omega)⟩, (by simp only [z32lt, z32le, z32eq, z64, Int32.reduceToInt, Int32.toInt_zero, Int32.toInt_one, Int32.toInt_neg] at *; omega), rfl, rfl⟩)
      · skip
        refine z_bipush (pc := 20) (v := -14) C dX10_sheet_20 (by decide) ?_
        exact z_iret (pc := 22) C hr dX10_sheet_22 (Or.inr (Or.inl ⟨⟨h2.1, h2.2, (by simp only [z32lt, z32le, z32eq, z64, Int32.reduceToInt, Int32.toInt_zero, Int32.toInt_one, Int32.toInt_neg] at *; omega)⟩, (by simp only [z32lt, z32le, z32eq, z64, Int32.reduceToInt, Int32.toInt_zero, Int32.toInt_one, Int32.toInt_neg] at *; omega), rfl, rfl⟩))
    · skip
      refine z_iconst (pc := 14) (v := -1) C dX10_sheet_14 (by decide) ?_
      exact z_iret (pc := 15) C hr dX10_sheet_15 (Or.inr (Or.inr ⟨(by simp only [z32lt, z32le, z32eq, z64, Int32.reduceToInt, Int32.toInt_zero, Int32.toInt_one, Int32.toInt_neg] at *; omega), rfl, rfl⟩))
  · skip
    refine z_if_eq (pc := 5) 14 C dX10_sheet_5 (by decide) (fun h5 => ?_) (fun h5 => absurd (by decide) h5)
    refine z_iconst (pc := 14) (v := -1) C dX10_sheet_14 (by decide) ?_
    exact z_iret (pc := 15) C hr dX10_sheet_15 (Or.inr (Or.inr ⟨(by simp only [z32lt, z32le, z32eq, z64, Int32.reduceToInt, Int32.toInt_zero, Int32.toInt_one, Int32.toInt_neg] at *; omega), rfl, rfl⟩))
