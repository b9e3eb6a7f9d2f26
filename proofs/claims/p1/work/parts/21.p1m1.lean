/-! ===== p1: the reference's side ===== -/
def zmix (f : zM) : zM := fun k n j => if k < 25 then f k n j else z0 k n j
theorem zKeep.mix {f : zM} (h : zKeep f) : f = zmix f := by
  funext k n j
  unfold zmix
  by_cases hk : k < 25
  · rw [if_pos hk]
  · rw [if_neg hk, h k n j (by omega)]
theorem zvp {i : Int32} {n : Nat} (h : decide (¬ (i < 0 ∨ n ≤ i.toNatClampNeg)) = true) : vp_in i n := show ¬ (i < 0 ∨ n ≤ i.toNatClampNeg) from of_decide_eq_true h
theorem z64 (x : Int32) : x.toInt64.toInt = x.toInt := Int32.toInt_toInt64 x
theorem lg_lt (x y : Int64) : (lg_cmp x y < 0) ↔ x.toInt < y.toInt := by
  unfold lg_cmp
  simp only [gt_iff_lt, Int64.lt_iff_toInt_lt, ← Int64.toInt_inj]
  split
  · simp; omega
  · split
    · simp; omega
    · constructor
      · intro _; omega
      · intro _; decide
theorem lg_gt (x y : Int64) : (0 < lg_cmp x y) ↔ y.toInt < x.toInt := by
  unfold lg_cmp
  simp only [gt_iff_lt, Int64.lt_iff_toInt_lt, ← Int64.toInt_inj]
  split
  · simp; omega
  · split
    · simp; omega
    · constructor
      · intro h; exact absurd h (by decide)
      · intro _; omega

set_option maxRecDepth 100000 in
set_option maxHeartbeats 4000000 in
theorem m_X10_in (d : Nat) (f : zM) (v a b : Int64) : ZM d yX10_in cX10_in 6 (some .boolean) [zl v, zl a, zl b] f (fun r g => r = some (zi (if a.toInt ≤ v.toInt ∧ v.toInt ≤ b.toInt then 1 else 0)) ∧ g = f) := by
  refine ZM.intro (by decide +kernel) (Nat.le_of_ble_eq_true rfl) ?_
  intro X C hr hn
  show Z X 0 [some (zl v), none, some (zl a), none, some (zl b), none] [] f
  refine z_lload_n (pc := 0) C dX10_in_0 rfl ?_
  refine z_lload_n (pc := 1) C dX10_in_1 rfl ?_
  refine z_lcmp (pc := 2) C dX10_in_2 ?_
  refine z_if_lt (pc := 3) 17 C dX10_in_3 (by decide) (fun h3 => ?_) (fun h3 => ?_)
  · skip
    refine z_iconst (pc := 17) (v := 0) C dX10_in_17 (by decide) ?_
    exact z_zret (pc := 18) C hr (by decide) dX10_in_18 (⟨by congr 2; rw [eq_comm]; simp only [lg_lt, lg_gt] at *; first | (rw [if_pos (by omega)]; done) | (rw [if_neg (by omega)]; done), rfl⟩)
  · skip
    refine z_lload_n (pc := 6) C dX10_in_6 rfl ?_
    refine z_lload (pc := 7) C dX10_in_7 rfl ?_
    refine z_lcmp (pc := 9) C dX10_in_9 ?_
    refine z_if_gt (pc := 10) 17 C dX10_in_10 (by decide) (fun h10 => ?_) (fun h10 => ?_)
    · skip
      refine z_iconst (pc := 17) (v := 0) C dX10_in_17 (by decide) ?_
      exact z_zret (pc := 18) C hr (by decide) dX10_in_18 (⟨by congr 2; rw [eq_comm]; simp only [lg_lt, lg_gt] at *; first | (rw [if_pos (by omega)]; done) | (rw [if_neg (by omega)]; done), rfl⟩)
    · skip
      refine z_iconst (pc := 13) (v := 1) C dX10_in_13 (by decide) ?_
      refine z_goto (pc := 14) 18 C dX10_in_14 (by decide) ?_
      exact z_zret (pc := 18) C hr (by decide) dX10_in_18 (⟨by congr 2; rw [eq_comm]; simp only [lg_lt, lg_gt] at *; first | (rw [if_pos (by omega)]; done) | (rw [if_neg (by omega)]; done), rfl⟩)

set_option maxRecDepth 100000 in
set_option maxHeartbeats 4000000 in
theorem m_X10_isLand (d : Nat) (f : zM) (x : Int32) : ZM (d + 1) yX10_isLand cX10_isLand 1 (some .boolean) [zi x] f (fun r g => r = some (zi (if 0 ≤ x.toInt ∧ x.toInt ≤ 5 then 1 else 0)) ∧ g = f) := by
  refine ZM.intro (by decide +kernel) (Nat.le_of_ble_eq_true rfl) ?_
  intro X C hr hn
  show Z X 0 [some (zi x)] [] f
  refine z_iload_n (pc := 0) C dX10_isLand_0 rfl ?_
  refine z_i2l (pc := 1) C dX10_isLand_1 ?_
  refine z_lconst (pc := 2) (v := 0) C dX10_isLand_2 (by decide) ?_
  refine z_ldc2 (pc := 3) C zw_1123 dX10_isLand_3 ?_
  refine z_callSb (pc := 6) C zk_X10_69 (m_X10_in _ _ _ _ _) rfl rfl (Nat.le_of_ble_eq_true rfl) dX10_isLand_6 (fun h6 => ?_) (fun h6 => ?_)
  · skip
    exact z_zret (pc := 9) C hr (by decide) dX10_isLand_9 (⟨by first | rfl | (congr 2; rw [eq_comm]; first | (rw [if_neg (by (try simp only [z32lt, z32le, z32eq, z64, Int32.reduceToInt, Int32.toInt_zero, Int32.toInt_one, Int64.reduceToInt, Int64.toInt_zero, Int64.toInt_one, true_and, and_true, false_and, and_false, or_false, false_or, true_or, or_true] at *) <;> omega)]; done) | (rw [if_pos (by (try simp only [z32lt, z32le, z32eq, z64, Int32.reduceToInt, Int32.toInt_zero, Int32.toInt_one, Int64.reduceToInt, Int64.toInt_zero, Int64.toInt_one, true_and, and_true, false_and, and_false, or_false, false_or, true_or, or_true] at *) <;> omega)] <;> simp [zup, zmix, z0])), rfl⟩)
  · skip
    exact z_zret (pc := 9) C hr (by decide) dX10_isLand_9 (⟨by first | rfl | (congr 2; rw [eq_comm]; first | (rw [if_neg (by (try simp only [z32lt, z32le, z32eq, z64, Int32.reduceToInt, Int32.toInt_zero, Int32.toInt_one, Int64.reduceToInt, Int64.toInt_zero, Int64.toInt_one, true_and, and_true, false_and, and_false, or_false, false_or, true_or, or_true] at *) <;> omega)]; done) | (rw [if_pos (by (try simp only [z32lt, z32le, z32eq, z64, Int32.reduceToInt, Int32.toInt_zero, Int32.toInt_one, Int64.reduceToInt, Int64.toInt_zero, Int64.toInt_one, true_and, and_true, false_and, and_false, or_false, false_or, true_or, or_true] at *) <;> omega)] <;> simp [zup, zmix, z0])), rfl⟩)

set_option maxRecDepth 100000 in
set_option maxHeartbeats 4000000 in
theorem m_X10_isSheet (d : Nat) (f : zM) (a1 a2 : Int32) : ZM (d + 1) yX10_isSheet cX10_isSheet 2 (some .boolean) [zi a1, zi a2] f (fun r g => r = some (zi (if (0 ≤ a1.toInt ∧ a1.toInt ≤ 3) ∧ (0 ≤ a2.toInt ∧ a2.toInt ≤ 2) then 1 else 0)) ∧ g = f) := by
  refine ZM.intro (by decide +kernel) (Nat.le_of_ble_eq_true rfl) ?_
  intro X C hr hn
  show Z X 0 [some (zi a1), some (zi a2)] [] f
  refine z_iload_n (pc := 0) C dX10_isSheet_0 rfl ?_
  refine z_i2l (pc := 1) C dX10_isSheet_1 ?_
  refine z_lconst (pc := 2) (v := 0) C dX10_isSheet_2 (by decide) ?_
  refine z_ldc2 (pc := 3) C zw_1415 dX10_isSheet_3 ?_
  refine z_callSb (pc := 6) C zk_X10_69 (m_X10_in _ _ _ _ _) rfl rfl (Nat.le_of_ble_eq_true rfl) dX10_isSheet_6 (fun h6 => ?_) (fun h6 => ?_)
  · skip
    refine z_if_eq (pc := 9) 28 C dX10_isSheet_9 (by decide) (fun h9 => absurd h9 (by decide)) (fun h9 => ?_)
    refine z_iload_n (pc := 12) C dX10_isSheet_12 rfl ?_
    refine z_i2l (pc := 13) C dX10_isSheet_13 ?_
    refine z_lconst (pc := 14) (v := 0) C dX10_isSheet_14 (by decide) ?_
    refine z_ldc2 (pc := 15) C zw_1207 dX10_isSheet_15 ?_
    refine z_callSb (pc := 18) C zk_X10_69 (m_X10_in _ _ _ _ _) rfl rfl (Nat.le_of_ble_eq_true rfl) dX10_isSheet_18 (fun h18 => ?_) (fun h18 => ?_)
    · skip
      refine z_if_eq (pc := 21) 28 C dX10_isSheet_21 (by decide) (fun h21 => absurd h21 (by decide)) (fun h21 => ?_)
      refine z_iconst (pc := 24) (v := 1) C dX10_isSheet_24 (by decide) ?_
      refine z_goto (pc := 25) 29 C dX10_isSheet_25 (by decide) ?_
      exact z_zret (pc := 29) C hr (by decide) dX10_isSheet_29 (⟨by first | rfl | (congr 2; rw [eq_comm]; first | (rw [if_neg (by (try simp only [z32lt, z32le, z32eq, z64, Int32.reduceToInt, Int32.toInt_zero, Int32.toInt_one, Int64.reduceToInt, Int64.toInt_zero, Int64.toInt_one, true_and, and_true, false_and, and_false, or_false, false_or, true_or, or_true] at *) <;> omega)]; done) | (rw [if_pos (by (try simp only [z32lt, z32le, z32eq, z64, Int32.reduceToInt, Int32.toInt_zero, Int32.toInt_one, Int64.reduceToInt, Int64.toInt_zero, Int64.toInt_one, true_and, and_true, false_and, and_false, or_false, false_or, true_or, or_true] at *) <;> omega)] <;> simp [zup, zmix, z0])), rfl⟩)
    · skip
      refine z_if_eq (pc := 21) 28 C dX10_isSheet_21 (by decide) (fun h21 => ?_) (fun h21 => absurd (by decide) h21)
      refine z_iconst (pc := 28) (v := 0) C dX10_isSheet_28 (by decide) ?_
      exact z_zret (pc := 29) C hr (by decide) dX10_isSheet_29 (⟨by first | rfl | (congr 2; rw [eq_comm]; first | (rw [if_neg (by (try simp only [z32lt, z32le, z32eq, z64, Int32.reduceToInt, Int32.toInt_zero, Int32.toInt_one, Int64.reduceToInt, Int64.toInt_zero, Int64.toInt_one, true_and, and_true, false_and, and_false, or_false, false_or, true_or, or_true] at *) <;> omega)]; done) | (rw [if_pos (by (try simp only [z32lt, z32le, z32eq, z64, Int32.reduceToInt, Int32.toInt_zero, Int32.toInt_one, Int64.reduceToInt, Int64.toInt_zero, Int64.toInt_one, true_and, and_true, false_and, and_false, or_false, false_or, true_or, or_true] at *) <;> omega)] <;> simp [zup, zmix, z0])), rfl⟩)
  · skip
    refine z_if_eq (pc := 9) 28 C dX10_isSheet_9 (by decide) (fun h9 => ?_) (fun h9 => absurd (by decide) h9)
    refine z_iconst (pc := 28) (v := 0) C dX10_isSheet_28 (by decide) ?_
    exact z_zret (pc := 29) C hr (by decide) dX10_isSheet_29 (⟨by first | rfl | (congr 2; rw [eq_comm]; first | (rw [if_neg (by (try simp only [z32lt, z32le, z32eq, z64, Int32.reduceToInt, Int32.toInt_zero, Int32.toInt_one, Int64.reduceToInt, Int64.toInt_zero, Int64.toInt_one, true_and, and_true, false_and, and_false, or_false, false_or, true_or, or_true] at *) <;> omega)]; done) | (rw [if_pos (by (try simp only [z32lt, z32le, z32eq, z64, Int32.reduceToInt, Int32.toInt_zero, Int32.toInt_one, Int64.reduceToInt, Int64.toInt_zero, Int64.toInt_one, true_and, and_true, false_and, and_false, or_false, false_or, true_or, or_true] at *) <;> omega)] <;> simp [zup, zmix, z0])), rfl⟩)

set_option maxRecDepth 100000 in
set_option maxHeartbeats 4000000 in
theorem m_X10_mayBe (d : Nat) (f : zM) (a1 a2 a3 a4 a5 : Int32) : ZM (d + 2) yX10_mayBe cX10_mayBe 5 (some .boolean) [zi a1, zi a2, zi a3, zi a4, zi a5] f (fun r g => r = some (zi (if (0 ≤ a1.toInt ∧ a1.toInt ≤ 5) ∧ (0 ≤ a2.toInt ∧ a2.toInt ≤ 5) ∧ ¬ a1.toInt = a2.toInt ∧ (0 ≤ a3.toInt ∧ a3.toInt ≤ 31) ∧ (0 ≤ a4.toInt ∧ a4.toInt ≤ 99) ∧ (0 ≤ a5.toInt ∧ a5.toInt ≤ 7) then 1 else 0)) ∧ g = f) := by
  refine ZM.intro (by decide +kernel) (Nat.le_of_ble_eq_true rfl) ?_
  intro X C hr hn
  show Z X 0 [some (zi a1), some (zi a2), some (zi a3), some (zi a4), some (zi a5)] [] f
  refine z_iload_n (pc := 0) C dX10_mayBe_0 rfl ?_
  refine z_callSb (pc := 1) C zk_X10_83 (m_X10_isLand _ _ _) rfl rfl (Nat.le_of_ble_eq_true rfl) dX10_mayBe_1 (fun h1 => ?_) (fun h1 => ?_)
  · skip
    refine z_if_eq (pc := 4) 60 C dX10_mayBe_4 (by decide) (fun h4 => absurd h4 (by decide)) (fun h4 => ?_)
    refine z_iload_n (pc := 7) C dX10_mayBe_7 rfl ?_
    refine z_callSb (pc := 8) C zk_X10_83 (m_X10_isLand _ _ _) rfl rfl (Nat.le_of_ble_eq_true rfl) dX10_mayBe_8 (fun h8 => ?_) (fun h8 => ?_)
    · skip
      refine z_if_eq (pc := 11) 60 C dX10_mayBe_11 (by decide) (fun h11 => absurd h11 (by decide)) (fun h11 => ?_)
      refine z_iload_n (pc := 14) C dX10_mayBe_14 rfl ?_
      refine z_iload_n (pc := 15) C dX10_mayBe_15 rfl ?_
      refine z_icmp_eq (pc := 16) 60 C dX10_mayBe_16 (by decide) (fun h16 => ?_) (fun h16 => ?_)
      · skip
        refine z_iconst (pc := 60) (v := 0) C dX10_mayBe_60 (by decide) ?_
        exact z_zret (pc := 61) C hr (by decide) dX10_mayBe_61 (⟨by first | rfl | (congr 2; rw [eq_comm]; first | (rw [if_neg (by (try simp only [z32lt, z32le, z32eq, z64, Int32.reduceToInt, Int32.toInt_zero, Int32.toInt_one, Int64.reduceToInt, Int64.toInt_zero, Int64.toInt_one, true_and, and_true, false_and, and_false, or_false, false_or, true_or, or_true] at *) <;> omega)]; done) | (rw [if_pos (by (try simp only [z32lt, z32le, z32eq, z64, Int32.reduceToInt, Int32.toInt_zero, Int32.toInt_one, Int64.reduceToInt, Int64.toInt_zero, Int64.toInt_one, true_and, and_true, false_and, and_false, or_false, false_or, true_or, or_true] at *) <;> omega)] <;> simp [zup, zmix, z0])), rfl⟩)
      · skip
        refine z_iload_n (pc := 19) C dX10_mayBe_19 rfl ?_
        refine z_i2l (pc := 20) C dX10_mayBe_20 ?_
        refine z_lconst (pc := 21) (v := 0) C dX10_mayBe_21 (by decide) ?_
        refine z_ldc2 (pc := 22) C zw_1145 dX10_mayBe_22 ?_
        refine z_callSb (pc := 25) C zk_X10_69 (m_X10_in _ _ _ _ _) rfl rfl (Nat.le_of_ble_eq_true rfl) dX10_mayBe_25 (fun h25 => ?_) (fun h25 => ?_)
        · skip
          refine z_if_eq (pc := 28) 60 C dX10_mayBe_28 (by decide) (fun h28 => absurd h28 (by decide)) (fun h28 => ?_)
          refine z_iload_n (pc := 31) C dX10_mayBe_31 rfl ?_
          refine z_i2l (pc := 32) C dX10_mayBe_32 ?_
          refine z_lconst (pc := 33) (v := 0) C dX10_mayBe_33 (by decide) ?_
          refine z_ldc2 (pc := 34) C zw_1137 dX10_mayBe_34 ?_
          refine z_callSb (pc := 37) C zk_X10_69 (m_X10_in _ _ _ _ _) rfl rfl (Nat.le_of_ble_eq_true rfl) dX10_mayBe_37 (fun h37 => ?_) (fun h37 => ?_)
          · skip
            refine z_if_eq (pc := 40) 60 C dX10_mayBe_40 (by decide) (fun h40 => absurd h40 (by decide)) (fun h40 => ?_)
            refine z_iload (pc := 43) C dX10_mayBe_43 rfl ?_
            refine z_i2l (pc := 45) C dX10_mayBe_45 ?_
            refine z_lconst (pc := 46) (v := 0) C dX10_mayBe_46 (by decide) ?_
            refine z_ldc2 (pc := 47) C zw_1146 dX10_mayBe_47 ?_
            refine z_callSb (pc := 50) C zk_X10_69 (m_X10_in _ _ _ _ _) rfl rfl (Nat.le_of_ble_eq_true rfl) dX10_mayBe_50 (fun h50 => ?_) (fun h50 => ?_)
            · skip
              refine z_if_eq (pc := 53) 60 C dX10_mayBe_53 (by decide) (fun h53 => absurd h53 (by decide)) (fun h53 => ?_)
              refine z_iconst (pc := 56) (v := 1) C dX10_mayBe_56 (by decide) ?_
              refine z_goto (pc := 57) 61 C dX10_mayBe_57 (by decide) ?_
              exact z_zret (pc := 61) C hr (by decide) dX10_mayBe_61 (⟨by first | rfl | (congr 2; rw [eq_comm]; first | (rw [if_neg (by (try simp only [z32lt, z32le, z32eq, z64, Int32.reduceToInt, Int32.toInt_zero, Int32.toInt_one, Int64.reduceToInt, Int64.toInt_zero, Int64.toInt_one, true_and, and_true, false_and, and_false, or_false, false_or, true_or, or_true] at *) <;> omega)]; done) | (rw [if_pos (by (try simp only [z32lt, z32le, z32eq, z64, Int32.reduceToInt, Int32.toInt_zero, Int32.toInt_one, Int64.reduceToInt, Int64.toInt_zero, Int64.toInt_one, true_and, and_true, false_and, and_false, or_false, false_or, true_or, or_true] at *) <;> omega)] <;> simp [zup, zmix, z0])), rfl⟩)
            · skip
              refine z_if_eq (pc := 53) 60 C dX10_mayBe_53 (by decide) (fun h53 => ?_) (fun h53 => absurd (by decide) h53)
              refine z_iconst (pc := 60) (v := 0) C dX10_mayBe_60 (by decide) ?_
              exact z_zret (pc := 61) C hr (by decide) dX10_mayBe_61 (⟨by first | rfl | (congr 2; rw [eq_comm]; first | (rw [if_neg (by (try simp only [z32lt, z32le, z32eq, z64, Int32.reduceToInt, Int32.toInt_zero, Int32.toInt_one, Int64.reduceToInt, Int64.toInt_zero, Int64.toInt_one, true_and, and_true, false_and, and_false, or_false, false_or, true_or, or_true] at *) <;> omega)]; done) | (rw [if_pos (by (try simp only [z32lt, z32le, z32eq, z64, Int32.reduceToInt, Int32.toInt_zero, Int32.toInt_one, Int64.reduceToInt, Int64.toInt_zero, Int64.toInt_one, true_and, and_true, false_and, and_false, or_false, false_or, true_or, or_true] at *) <;> omega)] <;> simp [zup, zmix, z0])), rfl⟩)
          · skip
            refine z_if_eq (pc := 40) 60 C dX10_mayBe_40 (by decide) (fun h40 => ?_) (fun h40 => absurd (by decide) h40)
            refine z_iconst (pc := 60) (v := 0) C dX10_mayBe_60 (by decide) ?_
            exact z_zret (pc := 61) C hr (by decide) dX10_mayBe_61 (⟨by first | rfl | (congr 2; rw [eq_comm]; first | (rw [if_neg (by (try simp only [z32lt, z32le, z32eq, z64, Int32.reduceToInt, Int32.toInt_zero, Int32.toInt_one, Int64.reduceToInt, Int64.toInt_zero, Int64.toInt_one, true_and, and_true, false_and, and_false, or_false, false_or, true_or, or_true] at *) <;> omega)]; done) | (rw [if_pos (by (try simp only [z32lt, z32le, z32eq, z64, Int32.reduceToInt, Int32.toInt_zero, Int32.toInt_one, Int64.reduceToInt, Int64.toInt_zero, Int64.toInt_one, true_and, and_true, false_and, and_false, or_false, false_or, true_or, or_true] at *) <;> omega)] <;> simp [zup, zmix, z0])), rfl⟩)
        · skip
          refine z_if_eq (pc := 28) 60 C dX10_mayBe_28 (by decide) (fun h28 => ?_) (fun h28 => absurd (by decide) h28)
          refine z_iconst (pc := 60) (v := 0) C dX10_mayBe_60 (by decide) ?_
          exact z_zret (pc := 61) C hr (by decide) dX10_mayBe_61 (⟨by first | rfl | (congr 2; rw [eq_comm]; first | (rw [if_neg (by (try simp only [z32lt, z32le, z32eq, z64, Int32.reduceToInt, Int32.toInt_zero, Int32.toInt_one, Int64.reduceToInt, Int64.toInt_zero, Int64.toInt_one, true_and, and_true, false_and, and_false, or_false, false_or, true_or, or_true] at *) <;> omega)]; done) | (rw [if_pos (by (try simp only [z32lt, z32le, z32eq, z64, Int32.reduceToInt, Int32.toInt_zero, Int32.toInt_one, Int64.reduceToInt, Int64.toInt_zero, Int64.toInt_one, true_and, and_true, false_and, and_false, or_false, false_or, true_or, or_true] at *) <;> omega)] <;> simp [zup, zmix, z0])), rfl⟩)
    · skip
      refine z_if_eq (pc := 11) 60 C dX10_mayBe_11 (by decide) (fun h11 => ?_) (fun h11 => absurd (by decide) h11)
      refine z_iconst (pc := 60) (v := 0) C dX10_mayBe_60 (by decide) ?_
      exact z_zret (pc := 61) C hr (by decide) dX10_mayBe_61 (⟨by first | rfl | (congr 2; rw [eq_comm]; first | (rw [if_neg (by (try simp only [z32lt, z32le, z32eq, z64, Int32.reduceToInt, Int32.toInt_zero, Int32.toInt_one, Int64.reduceToInt, Int64.toInt_zero, Int64.toInt_one, true_and, and_true, false_and, and_false, or_false, false_or, true_or, or_true] at *) <;> omega)]; done) | (rw [if_pos (by (try simp only [z32lt, z32le, z32eq, z64, Int32.reduceToInt, Int32.toInt_zero, Int32.toInt_one, Int64.reduceToInt, Int64.toInt_zero, Int64.toInt_one, true_and, and_true, false_and, and_false, or_false, false_or, true_or, or_true] at *) <;> omega)] <;> simp [zup, zmix, z0])), rfl⟩)
  · skip
    refine z_if_eq (pc := 4) 60 C dX10_mayBe_4 (by decide) (fun h4 => ?_) (fun h4 => absurd (by decide) h4)
    refine z_iconst (pc := 60) (v := 0) C dX10_mayBe_60 (by decide) ?_
    exact z_zret (pc := 61) C hr (by decide) dX10_mayBe_61 (⟨by first | rfl | (congr 2; rw [eq_comm]; first | (rw [if_neg (by (try simp only [z32lt, z32le, z32eq, z64, Int32.reduceToInt, Int32.toInt_zero, Int32.toInt_one, Int64.reduceToInt, Int64.toInt_zero, Int64.toInt_one, true_and, and_true, false_and, and_false, or_false, false_or, true_or, or_true] at *) <;> omega)]; done) | (rw [if_pos (by (try simp only [z32lt, z32le, z32eq, z64, Int32.reduceToInt, Int32.toInt_zero, Int32.toInt_one, Int64.reduceToInt, Int64.toInt_zero, Int64.toInt_one, true_and, and_true, false_and, and_false, or_false, false_or, true_or, or_true] at *) <;> omega)] <;> simp [zup, zmix, z0])), rfl⟩)

set_option maxRecDepth 100000 in
set_option maxHeartbeats 4000000 in
theorem p_X10_isDeed (d : Nat) (f : zM) (x : Int32) : ZM (d + 1) yX10_isDeed cX10_isDeed 2 (some .boolean) [zr 25 0, zi x] (zmix f) (fun r g => r = some (zi 0) ∧ g = zmix f) := by
  refine ZM.intro (by decide +kernel) (Nat.le_of_ble_eq_true rfl) ?_
  intro X C hr hn
  show Z X 0 [some (zr 25 0), some (zi x)] [] (zmix f)
  refine z_iload_n (pc := 0) C dX10_isDeed_0 rfl ?_
  refine z_i2l (pc := 1) C dX10_isDeed_1 ?_
  refine z_lconst (pc := 2) (v := 0) C dX10_isDeed_2 (by decide) ?_
  refine z_aload_n (pc := 3) C dX10_isDeed_3 rfl ?_
  refine z_getI (pc := 4) C zf_X10_73 rfl rfl (by decide) dX10_isDeed_4 ?_
  refine z_iconst (pc := 7) (v := 1) C dX10_isDeed_7 (by decide) ?_
  refine z_isub (pc := 8) C dX10_isDeed_8 ?_
  refine z_i2l (pc := 9) C dX10_isDeed_9 ?_
  refine z_callSx (pc := 10) C zk_X10_69 (m_X10_in _ _ _ _ _) rfl rfl (Nat.le_of_ble_eq_true rfl) dX10_isDeed_10 ?_
  simp only [Option.toList, List.cons_append, List.nil_append]
  exact z_zret (pc := 13) C hr (by split <;> simp) dX10_isDeed_13 (⟨by congr 2; rw [if_neg (by rw [show (zmix f 25 0 2 - 1 : Int32).toInt64.toInt = -1 from rfl]; simp only [Int64.toInt_zero]; omega)], rfl⟩)

set_option maxRecDepth 100000 in
set_option maxHeartbeats 4000000 in
theorem p_X10_isPaper (d : Nat) (f : zM) (x : Int32) : ZM (d + 1) yX10_isPaper cX10_isPaper 2 (some .boolean) [zr 25 0, zi x] (zmix f) (fun r g => r = some (zi 0) ∧ g = zmix f) := by
  refine ZM.intro (by decide +kernel) (Nat.le_of_ble_eq_true rfl) ?_
  intro X C hr hn
  show Z X 0 [some (zr 25 0), some (zi x)] [] (zmix f)
  refine z_iload_n (pc := 0) C dX10_isPaper_0 rfl ?_
  refine z_i2l (pc := 1) C dX10_isPaper_1 ?_
  refine z_lconst (pc := 2) (v := 0) C dX10_isPaper_2 (by decide) ?_
  refine z_aload_n (pc := 3) C dX10_isPaper_3 rfl ?_
  refine z_getI (pc := 4) C zf_X10_77 rfl rfl (by decide) dX10_isPaper_4 ?_
  refine z_iconst (pc := 7) (v := 1) C dX10_isPaper_7 (by decide) ?_
  refine z_isub (pc := 8) C dX10_isPaper_8 ?_
  refine z_i2l (pc := 9) C dX10_isPaper_9 ?_
  refine z_callSx (pc := 10) C zk_X10_69 (m_X10_in _ _ _ _ _) rfl rfl (Nat.le_of_ble_eq_true rfl) dX10_isPaper_10 ?_
  simp only [Option.toList, List.cons_append, List.nil_append]
  exact z_zret (pc := 13) C hr (by split <;> simp) dX10_isPaper_13 (⟨by congr 2; rw [if_neg (by rw [show (zmix f 25 0 4 - 1 : Int32).toInt64.toInt = -1 from rfl]; simp only [Int64.toInt_zero]; omega)], rfl⟩)

set_option maxRecDepth 100000 in
set_option maxHeartbeats 4000000 in
theorem p_X10_addCrime (d : Nat) (f : zM) (a1 a2 a3 a4 a5 a6 : Int32) : ZM d yX10_addCrime cX10_addCrime 8 none [zr 25 0, zi a1, zi a2, zi a3, zi a4, zi a5, zi a6] (zmix f) (fun r g => r = none ∧ g 25 0 0 = 1) := by
  refine ZM.intro (by decide +kernel) (Nat.le_of_ble_eq_true rfl) ?_
  intro X C hr hn
  show Z X 0 [some (zr 25 0), some (zi a1), some (zi a2), some (zi a3), some (zi a4), some (zi a5), some (zi a6), none] [] (zmix f)
  refine z_bipush (pc := 0) (v := 6) C dX10_addCrime_0 (by decide) ?_
  refine z_aload_n (pc := 2) C dX10_addCrime_2 rfl ?_
  refine z_getI (pc := 3) C zf_X10_80 rfl rfl (by decide) dX10_addCrime_3 ?_
  refine z_imul (pc := 6) C dX10_addCrime_6 ?_
  refine z_istore (pc := 7) C dX10_addCrime_7 (by rw [hn]; decide) rfl ?_
  refine z_aload_n (pc := 9) C dX10_addCrime_9 rfl ?_
  refine z_getR (pc := 10) C zf_X10_7 rfl rfl (by decide) dX10_addCrime_10 ?_
  refine z_iload (pc := 13) C dX10_addCrime_13 rfl ?_
  refine z_iload_n (pc := 15) C dX10_addCrime_15 rfl ?_
  refine z_iast (pc := 16) C rfl (by decide) (zvp rfl) dX10_addCrime_16 ?_
  refine z_aload_n (pc := 17) C dX10_addCrime_17 rfl ?_
  refine z_getR (pc := 18) C zf_X10_7 rfl rfl (by decide) dX10_addCrime_18 ?_
  refine z_iload (pc := 21) C dX10_addCrime_21 rfl ?_
  refine z_iconst (pc := 23) (v := 1) C dX10_addCrime_23 (by decide) ?_
  refine z_iadd (pc := 24) C dX10_addCrime_24 ?_
  refine z_iload_n (pc := 25) C dX10_addCrime_25 rfl ?_
  refine z_iast (pc := 26) C rfl (by decide) (zvp rfl) dX10_addCrime_26 ?_
  refine z_aload_n (pc := 27) C dX10_addCrime_27 rfl ?_
  refine z_getR (pc := 28) C zf_X10_7 rfl rfl (by decide) dX10_addCrime_28 ?_
  refine z_iload (pc := 31) C dX10_addCrime_31 rfl ?_
  refine z_iconst (pc := 33) (v := 2) C dX10_addCrime_33 (by decide) ?_
  refine z_iadd (pc := 34) C dX10_addCrime_34 ?_
  refine z_iload_n (pc := 35) C dX10_addCrime_35 rfl ?_
  refine z_iast (pc := 36) C rfl (by decide) (zvp rfl) dX10_addCrime_36 ?_
  refine z_aload_n (pc := 37) C dX10_addCrime_37 rfl ?_
  refine z_getR (pc := 38) C zf_X10_7 rfl rfl (by decide) dX10_addCrime_38 ?_
  refine z_iload (pc := 41) C dX10_addCrime_41 rfl ?_
  refine z_iconst (pc := 43) (v := 3) C dX10_addCrime_43 (by decide) ?_
  refine z_iadd (pc := 44) C dX10_addCrime_44 ?_
  refine z_iload (pc := 45) C dX10_addCrime_45 rfl ?_
  refine z_iast (pc := 47) C rfl (by decide) (zvp rfl) dX10_addCrime_47 ?_
  refine z_aload_n (pc := 48) C dX10_addCrime_48 rfl ?_
  refine z_getR (pc := 49) C zf_X10_7 rfl rfl (by decide) dX10_addCrime_49 ?_
  refine z_iload (pc := 52) C dX10_addCrime_52 rfl ?_
  refine z_iconst (pc := 54) (v := 4) C dX10_addCrime_54 (by decide) ?_
  refine z_iadd (pc := 55) C dX10_addCrime_55 ?_
  refine z_iload (pc := 56) C dX10_addCrime_56 rfl ?_
  refine z_iast (pc := 58) C rfl (by decide) (zvp rfl) dX10_addCrime_58 ?_
  refine z_aload_n (pc := 59) C dX10_addCrime_59 rfl ?_
  refine z_getR (pc := 60) C zf_X10_7 rfl rfl (by decide) dX10_addCrime_60 ?_
  refine z_iload (pc := 63) C dX10_addCrime_63 rfl ?_
  refine z_iconst (pc := 65) (v := 5) C dX10_addCrime_65 (by decide) ?_
  refine z_iadd (pc := 66) C dX10_addCrime_66 ?_
  refine z_iload (pc := 67) C dX10_addCrime_67 rfl ?_
  refine z_iast (pc := 69) C rfl (by decide) (zvp rfl) dX10_addCrime_69 ?_
  refine z_aload_n (pc := 70) C dX10_addCrime_70 rfl ?_
  first | refine z_dupr (pc := 71) C dX10_addCrime_71 ?_ | refine z_dupi (pc := 71) C dX10_addCrime_71 ?_
  refine z_getI (pc := 72) C zf_X10_80 rfl rfl (by decide) dX10_addCrime_72 ?_
  refine z_iconst (pc := 75) (v := 1) C dX10_addCrime_75 (by decide) ?_
  refine z_iadd (pc := 76) C dX10_addCrime_76 ?_
  refine z_putI (pc := 77) C zf_X10_80 zp_10_0 rfl rfl (by decide) dX10_addCrime_77 ?_
  exact z_vret (pc := 80) C hr dX10_addCrime_80 (⟨rfl, rfl⟩)

set_option maxRecDepth 100000 in
set_option maxHeartbeats 4000000 in
theorem p_X10_crime (d : Nat) (f : zM) (a1 a2 a3 a4 a5 a6 : Int32) : ZM (d + 2) yX10_crime cX10_crime 7 (some .int) [zr 25 0, zi a1, zi a2, zi a3, zi a4, zi a5, zi a6] (zmix f) (fun r _ => r = some (zi (if (0 ≤ a1.toInt ∧ a1.toInt ≤ 5) ∧ (1 ≤ a2.toInt ∧ a2.toInt ≤ 63) ∧ (0 ≤ a3.toInt ∧ a3.toInt ≤ 63) ∧ a2 &&& a3 = 0 ∧ (1 ≤ a5.toInt ∧ a5.toInt ≤ 40) ∧ (0 ≤ a4.toInt ∧ a4.toInt ≤ a5.toInt) then 0 else -1))) := by
  refine ZM.intro (by decide +kernel) (Nat.le_of_ble_eq_true rfl) ?_
  intro X C hr hn
  show Z X 0 [some (zr 25 0), some (zi a1), some (zi a2), some (zi a3), some (zi a4), some (zi a5), some (zi a6)] [] (zmix f)
  refine z_iload_n (pc := 0) C dX10_crime_0 rfl ?_
  refine z_callSb (pc := 1) C zk_X10_83 (m_X10_isLand _ _ _) rfl rfl (Nat.le_of_ble_eq_true rfl) dX10_crime_1 (fun h1 => ?_) (fun h1 => ?_)
  · skip
    refine z_if_eq (pc := 4) 63 C dX10_crime_4 (by decide) (fun h4 => absurd h4 (of_decide_eq_true rfl)) (fun h4 => ?_)
    refine z_iload_n (pc := 7) C dX10_crime_7 rfl ?_
    refine z_i2l (pc := 8) C dX10_crime_8 ?_
    refine z_lconst (pc := 9) (v := 1) C dX10_crime_9 (by decide) ?_
    refine z_ldc2 (pc := 10) C zw_1127 dX10_crime_10 ?_
    refine z_callSb (pc := 13) C zk_X10_69 (m_X10_in _ _ _ _ _) rfl rfl (Nat.le_of_ble_eq_true rfl) dX10_crime_13 (fun h13 => ?_) (fun h13 => ?_)
    · skip
      refine z_if_eq (pc := 16) 63 C dX10_crime_16 (by decide) (fun h16 => absurd h16 (of_decide_eq_true rfl)) (fun h16 => ?_)
      refine z_iload_n (pc := 19) C dX10_crime_19 rfl ?_
      refine z_i2l (pc := 20) C dX10_crime_20 ?_
      refine z_lconst (pc := 21) (v := 0) C dX10_crime_21 (by decide) ?_
      refine z_ldc2 (pc := 22) C zw_1127 dX10_crime_22 ?_
      refine z_callSb (pc := 25) C zk_X10_69 (m_X10_in _ _ _ _ _) rfl rfl (Nat.le_of_ble_eq_true rfl) dX10_crime_25 (fun h25 => ?_) (fun h25 => ?_)
      · skip
        refine z_if_eq (pc := 28) 63 C dX10_crime_28 (by decide) (fun h28 => absurd h28 (of_decide_eq_true rfl)) (fun h28 => ?_)
        refine z_iload_n (pc := 31) C dX10_crime_31 rfl ?_
        refine z_iload_n (pc := 32) C dX10_crime_32 rfl ?_
        refine z_iand (pc := 33) C dX10_crime_33 ?_
        refine z_if_ne (pc := 34) 63 C dX10_crime_34 (by decide) (fun h34 => ?_) (fun h34 => ?_)
        · skip
          refine z_iconst (pc := 63) (v := -1) C dX10_crime_63 (by decide) ?_
          exact z_iret (pc := 64) C hr dX10_crime_64 (by first | rfl | (congr 2; rw [eq_comm]; first | (rw [if_neg (by (try simp only [z32lt, z32le, z32eq, z64, Int32.reduceToInt, Int32.toInt_zero, Int32.toInt_one, Int64.reduceToInt, Int64.toInt_zero, Int64.toInt_one, true_and, and_true, false_and, and_false, or_false, false_or, true_or, or_true] at *) <;> omega)]; done) | (rw [if_pos (by (try simp only [z32lt, z32le, z32eq, z64, Int32.reduceToInt, Int32.toInt_zero, Int32.toInt_one, Int64.reduceToInt, Int64.toInt_zero, Int64.toInt_one, true_and, and_true, false_and, and_false, or_false, false_or, true_or, or_true] at *) <;> omega)] <;> simp [zup, zmix, z0])))
        · skip
          refine z_iload (pc := 37) C dX10_crime_37 rfl ?_
          refine z_i2l (pc := 39) C dX10_crime_39 ?_
          refine z_lconst (pc := 40) (v := 1) C dX10_crime_40 (by decide) ?_
          refine z_ldc2 (pc := 41) C zw_1128 dX10_crime_41 ?_
          refine z_callSb (pc := 44) C zk_X10_69 (m_X10_in _ _ _ _ _) rfl rfl (Nat.le_of_ble_eq_true rfl) dX10_crime_44 (fun h44 => ?_) (fun h44 => ?_)
          · skip
            refine z_if_eq (pc := 47) 63 C dX10_crime_47 (by decide) (fun h47 => absurd h47 (of_decide_eq_true rfl)) (fun h47 => ?_)
            refine z_iload (pc := 50) C dX10_crime_50 rfl ?_
            refine z_i2l (pc := 52) C dX10_crime_52 ?_
            refine z_lconst (pc := 53) (v := 0) C dX10_crime_53 (by decide) ?_
            refine z_iload (pc := 54) C dX10_crime_54 rfl ?_
            refine z_i2l (pc := 56) C dX10_crime_56 ?_
            refine z_callSb (pc := 57) C zk_X10_69 (m_X10_in _ _ _ _ _) rfl rfl (Nat.le_of_ble_eq_true rfl) dX10_crime_57 (fun h57 => ?_) (fun h57 => ?_)
            · skip
              refine z_if_ne (pc := 60) 65 C dX10_crime_60 (by decide) (fun h60 => ?_) (fun h60 => absurd h60 (of_decide_eq_true rfl))
              refine z_aload_n (pc := 65) C dX10_crime_65 rfl ?_
              refine z_getI (pc := 66) C zf_X10_80 rfl rfl (by decide) dX10_crime_66 ?_
              refine z_bipush (pc := 69) (v := 24) C dX10_crime_69 (by decide) ?_
              refine z_icmp_ne (pc := 71) 77 C dX10_crime_71 (by decide) (fun h71 => ?_) (fun h71 => absurd h71 (of_decide_eq_true rfl))
              refine z_aload_n (pc := 77) C dX10_crime_77 rfl ?_
              refine z_iload_n (pc := 78) C dX10_crime_78 rfl ?_
              refine z_iload_n (pc := 79) C dX10_crime_79 rfl ?_
              refine z_iload_n (pc := 80) C dX10_crime_80 rfl ?_
              refine z_iload (pc := 81) C dX10_crime_81 rfl ?_
              refine z_iload (pc := 83) C dX10_crime_83 rfl ?_
              refine z_iload (pc := 85) C dX10_crime_85 rfl ?_
              refine z_if_eq (pc := 87) 94 C dX10_crime_87 (by decide) (fun h87 => ?_) (fun h87 => ?_)
              · skip
                refine z_iconst (pc := 94) (v := 0) C dX10_crime_94 (by decide) ?_
                refine z_callV (pc := 95) C zk_X10_91 (p_X10_addCrime _ _ _ _ _ _ _ _) rfl rfl (by decide) rfl rfl (Nat.le_of_ble_eq_true rfl) dX10_crime_95 (fun r95 g95 q95 => ?_)
                obtain ⟨rfl, hg95⟩ := q95
                simp only [Option.toList, List.cons_append, List.nil_append]
                refine z_aload_n (pc := 98) C dX10_crime_98 rfl ?_
                refine z_getI (pc := 99) C zf_X10_80 rfl rfl (by decide) dX10_crime_99 ?_
                refine z_iconst (pc := 102) (v := 1) C dX10_crime_102 (by decide) ?_
                refine z_isub (pc := 103) C dX10_crime_103 ?_
                exact z_iret (pc := 104) C hr dX10_crime_104 (by congr 2; rw [hg95, eq_comm, if_pos (by clear hg95; (try simp only [z32lt, z32le, z32eq, z64, Int32.reduceToInt, Int32.toInt_zero, Int32.toInt_one, Int64.reduceToInt, Int64.toInt_zero, Int64.toInt_one, true_and, and_true, false_and, and_false, or_false, false_or, true_or, or_true] at *) <;> omega)]; decide)
              · skip
                refine z_iconst (pc := 90) (v := 1) C dX10_crime_90 (by decide) ?_
                refine z_goto (pc := 91) 95 C dX10_crime_91 (by decide) ?_
                refine z_callV (pc := 95) C zk_X10_91 (p_X10_addCrime _ _ _ _ _ _ _ _) rfl rfl (by decide) rfl rfl (Nat.le_of_ble_eq_true rfl) dX10_crime_95 (fun r95 g95 q95 => ?_)
                obtain ⟨rfl, hg95⟩ := q95
                simp only [Option.toList, List.cons_append, List.nil_append]
                refine z_aload_n (pc := 98) C dX10_crime_98 rfl ?_
                refine z_getI (pc := 99) C zf_X10_80 rfl rfl (by decide) dX10_crime_99 ?_
                refine z_iconst (pc := 102) (v := 1) C dX10_crime_102 (by decide) ?_
                refine z_isub (pc := 103) C dX10_crime_103 ?_
                exact z_iret (pc := 104) C hr dX10_crime_104 (by congr 2; rw [hg95, eq_comm, if_pos (by clear hg95; (try simp only [z32lt, z32le, z32eq, z64, Int32.reduceToInt, Int32.toInt_zero, Int32.toInt_one, Int64.reduceToInt, Int64.toInt_zero, Int64.toInt_one, true_and, and_true, false_and, and_false, or_false, false_or, true_or, or_true] at *) <;> omega)]; decide)
            · skip
              refine z_if_ne (pc := 60) 65 C dX10_crime_60 (by decide) (fun h60 => absurd (of_decide_eq_true rfl) h60) (fun h60 => ?_)
              refine z_iconst (pc := 63) (v := -1) C dX10_crime_63 (by decide) ?_
              exact z_iret (pc := 64) C hr dX10_crime_64 (by first | rfl | (congr 2; rw [eq_comm]; first | (rw [if_neg (by (try simp only [z32lt, z32le, z32eq, z64, Int32.reduceToInt, Int32.toInt_zero, Int32.toInt_one, Int64.reduceToInt, Int64.toInt_zero, Int64.toInt_one, true_and, and_true, false_and, and_false, or_false, false_or, true_or, or_true] at *) <;> omega)]; done) | (rw [if_pos (by (try simp only [z32lt, z32le, z32eq, z64, Int32.reduceToInt, Int32.toInt_zero, Int32.toInt_one, Int64.reduceToInt, Int64.toInt_zero, Int64.toInt_one, true_and, and_true, false_and, and_false, or_false, false_or, true_or, or_true] at *) <;> omega)] <;> simp [zup, zmix, z0])))
          · skip
            refine z_if_eq (pc := 47) 63 C dX10_crime_47 (by decide) (fun h47 => ?_) (fun h47 => absurd (of_decide_eq_true rfl) h47)
            refine z_iconst (pc := 63) (v := -1) C dX10_crime_63 (by decide) ?_
            exact z_iret (pc := 64) C hr dX10_crime_64 (by first | rfl | (congr 2; rw [eq_comm]; first | (rw [if_neg (by (try simp only [z32lt, z32le, z32eq, z64, Int32.reduceToInt, Int32.toInt_zero, Int32.toInt_one, Int64.reduceToInt, Int64.toInt_zero, Int64.toInt_one, true_and, and_true, false_and, and_false, or_false, false_or, true_or, or_true] at *) <;> omega)]; done) | (rw [if_pos (by (try simp only [z32lt, z32le, z32eq, z64, Int32.reduceToInt, Int32.toInt_zero, Int32.toInt_one, Int64.reduceToInt, Int64.toInt_zero, Int64.toInt_one, true_and, and_true, false_and, and_false, or_false, false_or, true_or, or_true] at *) <;> omega)] <;> simp [zup, zmix, z0])))
      · skip
        refine z_if_eq (pc := 28) 63 C dX10_crime_28 (by decide) (fun h28 => ?_) (fun h28 => absurd (of_decide_eq_true rfl) h28)
        refine z_iconst (pc := 63) (v := -1) C dX10_crime_63 (by decide) ?_
        exact z_iret (pc := 64) C hr dX10_crime_64 (by first | rfl | (congr 2; rw [eq_comm]; first | (rw [if_neg (by (try simp only [z32lt, z32le, z32eq, z64, Int32.reduceToInt, Int32.toInt_zero, Int32.toInt_one, Int64.reduceToInt, Int64.toInt_zero, Int64.toInt_one, true_and, and_true, false_and, and_false, or_false, false_or, true_or, or_true] at *) <;> omega)]; done) | (rw [if_pos (by (try simp only [z32lt, z32le, z32eq, z64, Int32.reduceToInt, Int32.toInt_zero, Int32.toInt_one, Int64.reduceToInt, Int64.toInt_zero, Int64.toInt_one, true_and, and_true, false_and, and_false, or_false, false_or, true_or, or_true] at *) <;> omega)] <;> simp [zup, zmix, z0])))
    · skip
      refine z_if_eq (pc := 16) 63 C dX10_crime_16 (by decide) (fun h16 => ?_) (fun h16 => absurd (of_decide_eq_true rfl) h16)
      refine z_iconst (pc := 63) (v := -1) C dX10_crime_63 (by decide) ?_
      exact z_iret (pc := 64) C hr dX10_crime_64 (by first | rfl | (congr 2; rw [eq_comm]; first | (rw [if_neg (by (try simp only [z32lt, z32le, z32eq, z64, Int32.reduceToInt, Int32.toInt_zero, Int32.toInt_one, Int64.reduceToInt, Int64.toInt_zero, Int64.toInt_one, true_and, and_true, false_and, and_false, or_false, false_or, true_or, or_true] at *) <;> omega)]; done) | (rw [if_pos (by (try simp only [z32lt, z32le, z32eq, z64, Int32.reduceToInt, Int32.toInt_zero, Int32.toInt_one, Int64.reduceToInt, Int64.toInt_zero, Int64.toInt_one, true_and, and_true, false_and, and_false, or_false, false_or, true_or, or_true] at *) <;> omega)] <;> simp [zup, zmix, z0])))
  · skip
    refine z_if_eq (pc := 4) 63 C dX10_crime_4 (by decide) (fun h4 => ?_) (fun h4 => absurd (of_decide_eq_true rfl) h4)
    refine z_iconst (pc := 63) (v := -1) C dX10_crime_63 (by decide) ?_
    exact z_iret (pc := 64) C hr dX10_crime_64 (by first | rfl | (congr 2; rw [eq_comm]; first | (rw [if_neg (by (try simp only [z32lt, z32le, z32eq, z64, Int32.reduceToInt, Int32.toInt_zero, Int32.toInt_one, Int64.reduceToInt, Int64.toInt_zero, Int64.toInt_one, true_and, and_true, false_and, and_false, or_false, false_or, true_or, or_true] at *) <;> omega)]; done) | (rw [if_pos (by (try simp only [z32lt, z32le, z32eq, z64, Int32.reduceToInt, Int32.toInt_zero, Int32.toInt_one, Int64.reduceToInt, Int64.toInt_zero, Int64.toInt_one, true_and, and_true, false_and, and_false, or_false, false_or, true_or, or_true] at *) <;> omega)] <;> simp [zup, zmix, z0])))

set_option maxRecDepth 100000 in
set_option maxHeartbeats 4000000 in
theorem p_X10_deed (d : Nat) (f : zM) (a1 a2 a3 a4 : Int32) : ZM (d + 2) yX10_deed cX10_deed 5 (some .int) [zr 25 0, zi a1, zi a2, zi a3, zi a4] (zmix f) (fun r _ => r = some (zi (if (1 ≤ a1.toInt ∧ a1.toInt ≤ 63) ∧ (0 ≤ a2.toInt ∧ a2.toInt ≤ 63) ∧ (0 ≤ a3.toInt ∧ a3.toInt ≤ 5) ∧ (0 ≤ a4.toInt ∧ a4.toInt ≤ 99) then 0 else -1))) := by
  refine ZM.intro (by decide +kernel) (Nat.le_of_ble_eq_true rfl) ?_
  intro X C hr hn
  show Z X 0 [some (zr 25 0), some (zi a1), some (zi a2), some (zi a3), some (zi a4)] [] (zmix f)
  refine z_iload_n (pc := 0) C dX10_deed_0 rfl ?_
  refine z_i2l (pc := 1) C dX10_deed_1 ?_
  refine z_lconst (pc := 2) (v := 1) C dX10_deed_2 (by decide) ?_
  refine z_ldc2 (pc := 3) C zw_1127 dX10_deed_3 ?_
  refine z_callSb (pc := 6) C zk_X10_69 (m_X10_in _ _ _ _ _) rfl rfl (Nat.le_of_ble_eq_true rfl) dX10_deed_6 (fun h6 => ?_) (fun h6 => ?_)
  · skip
    refine z_if_eq (pc := 9) 44 C dX10_deed_9 (by decide) (fun h9 => absurd h9 (of_decide_eq_true rfl)) (fun h9 => ?_)
    refine z_iload_n (pc := 12) C dX10_deed_12 rfl ?_
    refine z_i2l (pc := 13) C dX10_deed_13 ?_
    refine z_lconst (pc := 14) (v := 0) C dX10_deed_14 (by decide) ?_
    refine z_ldc2 (pc := 15) C zw_1127 dX10_deed_15 ?_
    refine z_callSb (pc := 18) C zk_X10_69 (m_X10_in _ _ _ _ _) rfl rfl (Nat.le_of_ble_eq_true rfl) dX10_deed_18 (fun h18 => ?_) (fun h18 => ?_)
    · skip
      refine z_if_eq (pc := 21) 44 C dX10_deed_21 (by decide) (fun h21 => absurd h21 (of_decide_eq_true rfl)) (fun h21 => ?_)
      refine z_iload_n (pc := 24) C dX10_deed_24 rfl ?_
      refine z_callSb (pc := 25) C zk_X10_83 (m_X10_isLand _ _ _) rfl rfl (Nat.le_of_ble_eq_true rfl) dX10_deed_25 (fun h25 => ?_) (fun h25 => ?_)
      · skip
        refine z_if_eq (pc := 28) 44 C dX10_deed_28 (by decide) (fun h28 => absurd h28 (of_decide_eq_true rfl)) (fun h28 => ?_)
        refine z_iload (pc := 31) C dX10_deed_31 rfl ?_
        refine z_i2l (pc := 33) C dX10_deed_33 ?_
        refine z_lconst (pc := 34) (v := 0) C dX10_deed_34 (by decide) ?_
        refine z_ldc2 (pc := 35) C zw_1137 dX10_deed_35 ?_
        refine z_callSb (pc := 38) C zk_X10_69 (m_X10_in _ _ _ _ _) rfl rfl (Nat.le_of_ble_eq_true rfl) dX10_deed_38 (fun h38 => ?_) (fun h38 => ?_)
        · skip
          refine z_if_ne (pc := 41) 46 C dX10_deed_41 (by decide) (fun h41 => ?_) (fun h41 => absurd h41 (of_decide_eq_true rfl))
          refine z_aload_n (pc := 46) C dX10_deed_46 rfl ?_
          refine z_getI (pc := 47) C zf_X10_73 rfl rfl (by decide) dX10_deed_47 ?_
          refine z_bipush (pc := 50) (v := 8) C dX10_deed_50 (by decide) ?_
          refine z_icmp_ne (pc := 52) 58 C dX10_deed_52 (by decide) (fun h52 => ?_) (fun h52 => absurd h52 (of_decide_eq_true rfl))
          refine z_aload_n (pc := 58) C dX10_deed_58 rfl ?_
          refine z_getR (pc := 59) C zf_X10_13 rfl rfl (by decide) dX10_deed_59 ?_
          refine z_iconst (pc := 62) (v := 5) C dX10_deed_62 (by decide) ?_
          refine z_aload_n (pc := 63) C dX10_deed_63 rfl ?_
          refine z_getI (pc := 64) C zf_X10_73 rfl rfl (by decide) dX10_deed_64 ?_
          refine z_imul (pc := 67) C dX10_deed_67 ?_
          refine z_iload_n (pc := 68) C dX10_deed_68 rfl ?_
          refine z_iast (pc := 69) C rfl (by decide) (zvp rfl) dX10_deed_69 ?_
          refine z_aload_n (pc := 70) C dX10_deed_70 rfl ?_
          refine z_getR (pc := 71) C zf_X10_13 rfl rfl (by decide) dX10_deed_71 ?_
          refine z_iconst (pc := 74) (v := 5) C dX10_deed_74 (by decide) ?_
          refine z_aload_n (pc := 75) C dX10_deed_75 rfl ?_
          refine z_getI (pc := 76) C zf_X10_73 rfl rfl (by decide) dX10_deed_76 ?_
          refine z_imul (pc := 79) C dX10_deed_79 ?_
          refine z_iconst (pc := 80) (v := 1) C dX10_deed_80 (by decide) ?_
          refine z_iadd (pc := 81) C dX10_deed_81 ?_
          refine z_iload_n (pc := 82) C dX10_deed_82 rfl ?_
          refine z_iast (pc := 83) C rfl (by decide) (zvp rfl) dX10_deed_83 ?_
          refine z_aload_n (pc := 84) C dX10_deed_84 rfl ?_
          refine z_getR (pc := 85) C zf_X10_13 rfl rfl (by decide) dX10_deed_85 ?_
          refine z_iconst (pc := 88) (v := 5) C dX10_deed_88 (by decide) ?_
          refine z_aload_n (pc := 89) C dX10_deed_89 rfl ?_
          refine z_getI (pc := 90) C zf_X10_73 rfl rfl (by decide) dX10_deed_90 ?_
          refine z_imul (pc := 93) C dX10_deed_93 ?_
          refine z_iconst (pc := 94) (v := 2) C dX10_deed_94 (by decide) ?_
          refine z_iadd (pc := 95) C dX10_deed_95 ?_
          refine z_iload_n (pc := 96) C dX10_deed_96 rfl ?_
          refine z_iast (pc := 97) C rfl (by decide) (zvp rfl) dX10_deed_97 ?_
          refine z_aload_n (pc := 98) C dX10_deed_98 rfl ?_
          refine z_getR (pc := 99) C zf_X10_13 rfl rfl (by decide) dX10_deed_99 ?_
          refine z_iconst (pc := 102) (v := 5) C dX10_deed_102 (by decide) ?_
          refine z_aload_n (pc := 103) C dX10_deed_103 rfl ?_
          refine z_getI (pc := 104) C zf_X10_73 rfl rfl (by decide) dX10_deed_104 ?_
          refine z_imul (pc := 107) C dX10_deed_107 ?_
          refine z_iconst (pc := 108) (v := 3) C dX10_deed_108 (by decide) ?_
          refine z_iadd (pc := 109) C dX10_deed_109 ?_
          refine z_iload (pc := 110) C dX10_deed_110 rfl ?_
          refine z_iast (pc := 112) C rfl (by decide) (zvp rfl) dX10_deed_112 ?_
          refine z_aload_n (pc := 113) C dX10_deed_113 rfl ?_
          refine z_getR (pc := 114) C zf_X10_13 rfl rfl (by decide) dX10_deed_114 ?_
          refine z_iconst (pc := 117) (v := 5) C dX10_deed_117 (by decide) ?_
          refine z_aload_n (pc := 118) C dX10_deed_118 rfl ?_
          refine z_getI (pc := 119) C zf_X10_73 rfl rfl (by decide) dX10_deed_119 ?_
          refine z_imul (pc := 122) C dX10_deed_122 ?_
          refine z_iconst (pc := 123) (v := 4) C dX10_deed_123 (by decide) ?_
          refine z_iadd (pc := 124) C dX10_deed_124 ?_
          refine z_iconst (pc := 125) (v := 0) C dX10_deed_125 (by decide) ?_
          refine z_iast (pc := 126) C rfl (by decide) (zvp rfl) dX10_deed_126 ?_
          refine z_aload_n (pc := 127) C dX10_deed_127 rfl ?_
          first | refine z_dupr (pc := 128) C dX10_deed_128 ?_ | refine z_dupi (pc := 128) C dX10_deed_128 ?_
          refine z_getI (pc := 129) C zf_X10_73 rfl rfl (by decide) dX10_deed_129 ?_
          refine z_iconst (pc := 132) (v := 1) C dX10_deed_132 (by decide) ?_
          refine z_iadd (pc := 133) C dX10_deed_133 ?_
          refine z_putI (pc := 134) C zf_X10_73 zp_10_2 rfl rfl (by decide) dX10_deed_134 ?_
          refine z_aload_n (pc := 137) C dX10_deed_137 rfl ?_
          refine z_getI (pc := 138) C zf_X10_73 rfl rfl (by decide) dX10_deed_138 ?_
          refine z_iconst (pc := 141) (v := 1) C dX10_deed_141 (by decide) ?_
          refine z_isub (pc := 142) C dX10_deed_142 ?_
          exact z_iret (pc := 143) C hr dX10_deed_143 (by first | rfl | (congr 2; rw [eq_comm]; first | (rw [if_neg (by (try simp only [z32lt, z32le, z32eq, z64, Int32.reduceToInt, Int32.toInt_zero, Int32.toInt_one, Int64.reduceToInt, Int64.toInt_zero, Int64.toInt_one, true_and, and_true, false_and, and_false, or_false, false_or, true_or, or_true] at *) <;> omega)]; done) | (rw [if_pos (by (try simp only [z32lt, z32le, z32eq, z64, Int32.reduceToInt, Int32.toInt_zero, Int32.toInt_one, Int64.reduceToInt, Int64.toInt_zero, Int64.toInt_one, true_and, and_true, false_and, and_false, or_false, false_or, true_or, or_true] at *) <;> omega)] <;> simp [zup, zmix, z0])))
        · skip
          refine z_if_ne (pc := 41) 46 C dX10_deed_41 (by decide) (fun h41 => absurd (of_decide_eq_true rfl) h41) (fun h41 => ?_)
          refine z_iconst (pc := 44) (v := -1) C dX10_deed_44 (by decide) ?_
          exact z_iret (pc := 45) C hr dX10_deed_45 (by first | rfl | (congr 2; rw [eq_comm]; first | (rw [if_neg (by (try simp only [z32lt, z32le, z32eq, z64, Int32.reduceToInt, Int32.toInt_zero, Int32.toInt_one, Int64.reduceToInt, Int64.toInt_zero, Int64.toInt_one, true_and, and_true, false_and, and_false, or_false, false_or, true_or, or_true] at *) <;> omega)]; done) | (rw [if_pos (by (try simp only [z32lt, z32le, z32eq, z64, Int32.reduceToInt, Int32.toInt_zero, Int32.toInt_one, Int64.reduceToInt, Int64.toInt_zero, Int64.toInt_one, true_and, and_true, false_and, and_false, or_false, false_or, true_or, or_true] at *) <;> omega)] <;> simp [zup, zmix, z0])))
      · skip
        refine z_if_eq (pc := 28) 44 C dX10_deed_28 (by decide) (fun h28 => ?_) (fun h28 => absurd (of_decide_eq_true rfl) h28)
        refine z_iconst (pc := 44) (v := -1) C dX10_deed_44 (by decide) ?_
        exact z_iret (pc := 45) C hr dX10_deed_45 (by first | rfl | (congr 2; rw [eq_comm]; first | (rw [if_neg (by (try simp only [z32lt, z32le, z32eq, z64, Int32.reduceToInt, Int32.toInt_zero, Int32.toInt_one, Int64.reduceToInt, Int64.toInt_zero, Int64.toInt_one, true_and, and_true, false_and, and_false, or_false, false_or, true_or, or_true] at *) <;> omega)]; done) | (rw [if_pos (by (try simp only [z32lt, z32le, z32eq, z64, Int32.reduceToInt, Int32.toInt_zero, Int32.toInt_one, Int64.reduceToInt, Int64.toInt_zero, Int64.toInt_one, true_and, and_true, false_and, and_false, or_false, false_or, true_or, or_true] at *) <;> omega)] <;> simp [zup, zmix, z0])))
    · skip
      refine z_if_eq (pc := 21) 44 C dX10_deed_21 (by decide) (fun h21 => ?_) (fun h21 => absurd (of_decide_eq_true rfl) h21)
      refine z_iconst (pc := 44) (v := -1) C dX10_deed_44 (by decide) ?_
      exact z_iret (pc := 45) C hr dX10_deed_45 (by first | rfl | (congr 2; rw [eq_comm]; first | (rw [if_neg (by (try simp only [z32lt, z32le, z32eq, z64, Int32.reduceToInt, Int32.toInt_zero, Int32.toInt_one, Int64.reduceToInt, Int64.toInt_zero, Int64.toInt_one, true_and, and_true, false_and, and_false, or_false, false_or, true_or, or_true] at *) <;> omega)]; done) | (rw [if_pos (by (try simp only [z32lt, z32le, z32eq, z64, Int32.reduceToInt, Int32.toInt_zero, Int32.toInt_one, Int64.reduceToInt, Int64.toInt_zero, Int64.toInt_one, true_and, and_true, false_and, and_false, or_false, false_or, true_or, or_true] at *) <;> omega)] <;> simp [zup, zmix, z0])))
  · skip
    refine z_if_eq (pc := 9) 44 C dX10_deed_9 (by decide) (fun h9 => ?_) (fun h9 => absurd (of_decide_eq_true rfl) h9)
    refine z_iconst (pc := 44) (v := -1) C dX10_deed_44 (by decide) ?_
    exact z_iret (pc := 45) C hr dX10_deed_45 (by first | rfl | (congr 2; rw [eq_comm]; first | (rw [if_neg (by (try simp only [z32lt, z32le, z32eq, z64, Int32.reduceToInt, Int32.toInt_zero, Int32.toInt_one, Int64.reduceToInt, Int64.toInt_zero, Int64.toInt_one, true_and, and_true, false_and, and_false, or_false, false_or, true_or, or_true] at *) <;> omega)]; done) | (rw [if_pos (by (try simp only [z32lt, z32le, z32eq, z64, Int32.reduceToInt, Int32.toInt_zero, Int32.toInt_one, Int64.reduceToInt, Int64.toInt_zero, Int64.toInt_one, true_and, and_true, false_and, and_false, or_false, false_or, true_or, or_true] at *) <;> omega)] <;> simp [zup, zmix, z0])))

set_option maxRecDepth 100000 in
set_option maxHeartbeats 4000000 in
theorem p_X10_addPaper (d : Nat) (f : zM) (a1 a2 a3 a4 a5 a6 a7 a8 : Int32) : ZM d yX10_addPaper cX10_addPaper 10 (some .int) [zr 25 0, zi a1, zi a2, zi a3, zi a4, zi a5, zi a6, zi a7, zi a8] (zmix f) (fun r _ => r = some (zi 0)) := by
  refine ZM.intro (by decide +kernel) (Nat.le_of_ble_eq_true rfl) ?_
  intro X C hr hn
  show Z X 0 [some (zr 25 0), some (zi a1), some (zi a2), some (zi a3), some (zi a4), some (zi a5), some (zi a6), some (zi a7), some (zi a8), none] [] (zmix f)
  refine z_aload_n (pc := 0) C dX10_addPaper_0 rfl ?_
  refine z_getI (pc := 1) C zf_X10_77 rfl rfl (by decide) dX10_addPaper_1 ?_
  refine z_bipush (pc := 4) (v := 12) C dX10_addPaper_4 (by decide) ?_
  refine z_icmp_ne (pc := 6) 12 C dX10_addPaper_6 (by decide) (fun h6 => ?_) (fun h6 => absurd h6 (of_decide_eq_true rfl))
  refine z_bipush (pc := 12) (v := 8) C dX10_addPaper_12 (by decide) ?_
  refine z_aload_n (pc := 14) C dX10_addPaper_14 rfl ?_
  refine z_getI (pc := 15) C zf_X10_77 rfl rfl (by decide) dX10_addPaper_15 ?_
  refine z_imul (pc := 18) C dX10_addPaper_18 ?_
  refine z_istore (pc := 19) C dX10_addPaper_19 (by rw [hn]; decide) rfl ?_
  refine z_aload_n (pc := 21) C dX10_addPaper_21 rfl ?_
  refine z_getR (pc := 22) C zf_X10_16 rfl rfl (by decide) dX10_addPaper_22 ?_
  refine z_iload (pc := 25) C dX10_addPaper_25 rfl ?_
  refine z_iload_n (pc := 27) C dX10_addPaper_27 rfl ?_
  refine z_iast (pc := 28) C rfl (by decide) (zvp rfl) dX10_addPaper_28 ?_
  refine z_aload_n (pc := 29) C dX10_addPaper_29 rfl ?_
  refine z_getR (pc := 30) C zf_X10_16 rfl rfl (by decide) dX10_addPaper_30 ?_
  refine z_iload (pc := 33) C dX10_addPaper_33 rfl ?_
  refine z_iconst (pc := 35) (v := 1) C dX10_addPaper_35 (by decide) ?_
  refine z_iadd (pc := 36) C dX10_addPaper_36 ?_
  refine z_iload_n (pc := 37) C dX10_addPaper_37 rfl ?_
  refine z_iast (pc := 38) C rfl (by decide) (zvp rfl) dX10_addPaper_38 ?_
  refine z_aload_n (pc := 39) C dX10_addPaper_39 rfl ?_
  refine z_getR (pc := 40) C zf_X10_16 rfl rfl (by decide) dX10_addPaper_40 ?_
  refine z_iload (pc := 43) C dX10_addPaper_43 rfl ?_
  refine z_iconst (pc := 45) (v := 2) C dX10_addPaper_45 (by decide) ?_
  refine z_iadd (pc := 46) C dX10_addPaper_46 ?_
  refine z_iload_n (pc := 47) C dX10_addPaper_47 rfl ?_
  refine z_iast (pc := 48) C rfl (by decide) (zvp rfl) dX10_addPaper_48 ?_
  refine z_aload_n (pc := 49) C dX10_addPaper_49 rfl ?_
  refine z_getR (pc := 50) C zf_X10_16 rfl rfl (by decide) dX10_addPaper_50 ?_
  refine z_iload (pc := 53) C dX10_addPaper_53 rfl ?_
  refine z_iconst (pc := 55) (v := 3) C dX10_addPaper_55 (by decide) ?_
  refine z_iadd (pc := 56) C dX10_addPaper_56 ?_
  refine z_iload (pc := 57) C dX10_addPaper_57 rfl ?_
  refine z_iast (pc := 59) C rfl (by decide) (zvp rfl) dX10_addPaper_59 ?_
  refine z_aload_n (pc := 60) C dX10_addPaper_60 rfl ?_
  refine z_getR (pc := 61) C zf_X10_16 rfl rfl (by decide) dX10_addPaper_61 ?_
  refine z_iload (pc := 64) C dX10_addPaper_64 rfl ?_
  refine z_iconst (pc := 66) (v := 4) C dX10_addPaper_66 (by decide) ?_
  refine z_iadd (pc := 67) C dX10_addPaper_67 ?_
  refine z_iload (pc := 68) C dX10_addPaper_68 rfl ?_
  refine z_iast (pc := 70) C rfl (by decide) (zvp rfl) dX10_addPaper_70 ?_
  refine z_aload_n (pc := 71) C dX10_addPaper_71 rfl ?_
  refine z_getR (pc := 72) C zf_X10_16 rfl rfl (by decide) dX10_addPaper_72 ?_
  refine z_iload (pc := 75) C dX10_addPaper_75 rfl ?_
  refine z_iconst (pc := 77) (v := 5) C dX10_addPaper_77 (by decide) ?_
  refine z_iadd (pc := 78) C dX10_addPaper_78 ?_
  refine z_iload (pc := 79) C dX10_addPaper_79 rfl ?_
  refine z_iast (pc := 81) C rfl (by decide) (zvp rfl) dX10_addPaper_81 ?_
  refine z_aload_n (pc := 82) C dX10_addPaper_82 rfl ?_
  refine z_getR (pc := 83) C zf_X10_16 rfl rfl (by decide) dX10_addPaper_83 ?_
  refine z_iload (pc := 86) C dX10_addPaper_86 rfl ?_
  refine z_bipush (pc := 88) (v := 6) C dX10_addPaper_88 (by decide) ?_
  refine z_iadd (pc := 90) C dX10_addPaper_90 ?_
  refine z_iload (pc := 91) C dX10_addPaper_91 rfl ?_
  refine z_iast (pc := 93) C rfl (by decide) (zvp rfl) dX10_addPaper_93 ?_
  refine z_aload_n (pc := 94) C dX10_addPaper_94 rfl ?_
  refine z_getR (pc := 95) C zf_X10_16 rfl rfl (by decide) dX10_addPaper_95 ?_
  refine z_iload (pc := 98) C dX10_addPaper_98 rfl ?_
  refine z_bipush (pc := 100) (v := 7) C dX10_addPaper_100 (by decide) ?_
  refine z_iadd (pc := 102) C dX10_addPaper_102 ?_
  refine z_iload (pc := 103) C dX10_addPaper_103 rfl ?_
  refine z_iast (pc := 105) C rfl (by decide) (zvp rfl) dX10_addPaper_105 ?_
  refine z_aload_n (pc := 106) C dX10_addPaper_106 rfl ?_
  first | refine z_dupr (pc := 107) C dX10_addPaper_107 ?_ | refine z_dupi (pc := 107) C dX10_addPaper_107 ?_
  refine z_getI (pc := 108) C zf_X10_77 rfl rfl (by decide) dX10_addPaper_108 ?_
  refine z_iconst (pc := 111) (v := 1) C dX10_addPaper_111 (by decide) ?_
  refine z_iadd (pc := 112) C dX10_addPaper_112 ?_
  refine z_putI (pc := 113) C zf_X10_77 zp_10_4 rfl rfl (by decide) dX10_addPaper_113 ?_
  refine z_aload_n (pc := 116) C dX10_addPaper_116 rfl ?_
  refine z_getI (pc := 117) C zf_X10_77 rfl rfl (by decide) dX10_addPaper_117 ?_
  refine z_iconst (pc := 120) (v := 1) C dX10_addPaper_120 (by decide) ?_
  refine z_isub (pc := 121) C dX10_addPaper_121 ?_
  exact z_iret (pc := 122) C hr dX10_addPaper_122 (by simp [zup, zmix, z0])

set_option maxRecDepth 100000 in
set_option maxHeartbeats 4000000 in
theorem p_X10_years (d : Nat) (f : zM) (a1 a2 a3 a4 a5 a6 : Int32) : ZM (d + 3) yX10_years cX10_years 7 (some .int) [zr 25 0, zi a1, zi a2, zi a3, zi a4, zi a5, zi a6] (zmix f) (fun r _ => r = some (zi (if ((0 ≤ a1.toInt ∧ a1.toInt ≤ 5) ∧ (0 ≤ a2.toInt ∧ a2.toInt ≤ 5) ∧ ¬ a1.toInt = a2.toInt ∧ (0 ≤ a4.toInt ∧ a4.toInt ≤ 31) ∧ (0 ≤ a5.toInt ∧ a5.toInt ≤ 99) ∧ (0 ≤ a6.toInt ∧ a6.toInt ≤ 7)) ∧ (1 ≤ a3.toInt ∧ a3.toInt ≤ 40) then 0 else -1))) := by
  refine ZM.intro (by decide +kernel) (Nat.le_of_ble_eq_true rfl) ?_
  intro X C hr hn
  show Z X 0 [some (zr 25 0), some (zi a1), some (zi a2), some (zi a3), some (zi a4), some (zi a5), some (zi a6)] [] (zmix f)
  refine z_iload_n (pc := 0) C dX10_years_0 rfl ?_
  refine z_iload_n (pc := 1) C dX10_years_1 rfl ?_
  refine z_iload (pc := 2) C dX10_years_2 rfl ?_
  refine z_iload (pc := 4) C dX10_years_4 rfl ?_
  refine z_iload (pc := 6) C dX10_years_6 rfl ?_
  refine z_callSb (pc := 8) C zk_X10_101 (m_X10_mayBe _ _ _ _ _ _ _) rfl rfl (Nat.le_of_ble_eq_true rfl) dX10_years_8 (fun h8 => ?_) (fun h8 => ?_)
  · skip
    refine z_if_eq (pc := 11) 44 C dX10_years_11 (by decide) (fun h11 => absurd h11 (of_decide_eq_true rfl)) (fun h11 => ?_)
    refine z_iload_n (pc := 14) C dX10_years_14 rfl ?_
    refine z_i2l (pc := 15) C dX10_years_15 ?_
    refine z_lconst (pc := 16) (v := 1) C dX10_years_16 (by decide) ?_
    refine z_ldc2 (pc := 17) C zw_1128 dX10_years_17 ?_
    refine z_callSb (pc := 20) C zk_X10_69 (m_X10_in _ _ _ _ _) rfl rfl (Nat.le_of_ble_eq_true rfl) dX10_years_20 (fun h20 => ?_) (fun h20 => ?_)
    · skip
      refine z_if_eq (pc := 23) 44 C dX10_years_23 (by decide) (fun h23 => absurd h23 (of_decide_eq_true rfl)) (fun h23 => ?_)
      refine z_aload_n (pc := 26) C dX10_years_26 rfl ?_
      refine z_iconst (pc := 27) (v := 0) C dX10_years_27 (by decide) ?_
      refine z_iload_n (pc := 28) C dX10_years_28 rfl ?_
      refine z_iload_n (pc := 29) C dX10_years_29 rfl ?_
      refine z_iload_n (pc := 30) C dX10_years_30 rfl ?_
      refine z_iconst (pc := 31) (v := 0) C dX10_years_31 (by decide) ?_
      refine z_iload (pc := 32) C dX10_years_32 rfl ?_
      refine z_iload (pc := 34) C dX10_years_34 rfl ?_
      refine z_iload (pc := 36) C dX10_years_36 rfl ?_
      refine z_callV (pc := 38) C zk_X10_105 (p_X10_addPaper _ _ _ _ _ _ _ _ _ _) rfl rfl (by decide) rfl rfl (Nat.le_of_ble_eq_true rfl) dX10_years_38 (fun r38 g38 q38 => ?_)
      subst q38
      simp only [Option.toList, List.cons_append, List.nil_append]
      refine z_goto (pc := 41) 45 C dX10_years_41 (by decide) ?_
      exact z_iret (pc := 45) C hr dX10_years_45 (by first | rfl | (congr 2; rw [eq_comm]; first | (rw [if_neg (by (try simp only [z32lt, z32le, z32eq, z64, Int32.reduceToInt, Int32.toInt_zero, Int32.toInt_one, Int64.reduceToInt, Int64.toInt_zero, Int64.toInt_one, true_and, and_true, false_and, and_false, or_false, false_or, true_or, or_true] at *) <;> omega)]; done) | (rw [if_pos (by (try simp only [z32lt, z32le, z32eq, z64, Int32.reduceToInt, Int32.toInt_zero, Int32.toInt_one, Int64.reduceToInt, Int64.toInt_zero, Int64.toInt_one, true_and, and_true, false_and, and_false, or_false, false_or, true_or, or_true] at *) <;> omega)] <;> simp [zup, zmix, z0])))
    · skip
      refine z_if_eq (pc := 23) 44 C dX10_years_23 (by decide) (fun h23 => ?_) (fun h23 => absurd (of_decide_eq_true rfl) h23)
      refine z_iconst (pc := 44) (v := -1) C dX10_years_44 (by decide) ?_
      exact z_iret (pc := 45) C hr dX10_years_45 (by first | rfl | (congr 2; rw [eq_comm]; first | (rw [if_neg (by (try simp only [z32lt, z32le, z32eq, z64, Int32.reduceToInt, Int32.toInt_zero, Int32.toInt_one, Int64.reduceToInt, Int64.toInt_zero, Int64.toInt_one, true_and, and_true, false_and, and_false, or_false, false_or, true_or, or_true] at *) <;> omega)]; done) | (rw [if_pos (by (try simp only [z32lt, z32le, z32eq, z64, Int32.reduceToInt, Int32.toInt_zero, Int32.toInt_one, Int64.reduceToInt, Int64.toInt_zero, Int64.toInt_one, true_and, and_true, false_and, and_false, or_false, false_or, true_or, or_true] at *) <;> omega)] <;> simp [zup, zmix, z0])))
  · skip
    refine z_if_eq (pc := 11) 44 C dX10_years_11 (by decide) (fun h11 => ?_) (fun h11 => absurd (of_decide_eq_true rfl) h11)
    refine z_iconst (pc := 44) (v := -1) C dX10_years_44 (by decide) ?_
    exact z_iret (pc := 45) C hr dX10_years_45 (by first | rfl | (congr 2; rw [eq_comm]; first | (rw [if_neg (by (try simp only [z32lt, z32le, z32eq, z64, Int32.reduceToInt, Int32.toInt_zero, Int32.toInt_one, Int64.reduceToInt, Int64.toInt_zero, Int64.toInt_one, true_and, and_true, false_and, and_false, or_false, false_or, true_or, or_true] at *) <;> omega)]; done) | (rw [if_pos (by (try simp only [z32lt, z32le, z32eq, z64, Int32.reduceToInt, Int32.toInt_zero, Int32.toInt_one, Int64.reduceToInt, Int64.toInt_zero, Int64.toInt_one, true_and, and_true, false_and, and_false, or_false, false_or, true_or, or_true] at *) <;> omega)] <;> simp [zup, zmix, z0])))

set_option maxRecDepth 100000 in
set_option maxHeartbeats 4000000 in
theorem p_X10_custom (d : Nat) (f : zM) (a1 a2 a3 a4 a5 : Int32) : ZM (d + 3) yX10_custom cX10_custom 6 (some .int) [zr 25 0, zi a1, zi a2, zi a3, zi a4, zi a5] (zmix f) (fun r _ => r = some (zi (if (0 ≤ a1.toInt ∧ a1.toInt ≤ 5) ∧ (0 ≤ a2.toInt ∧ a2.toInt ≤ 5) ∧ ¬ a1.toInt = a2.toInt ∧ (0 ≤ a3.toInt ∧ a3.toInt ≤ 31) ∧ (0 ≤ a4.toInt ∧ a4.toInt ≤ 99) ∧ (0 ≤ a5.toInt ∧ a5.toInt ≤ 7) then 0 else -1))) := by
  refine ZM.intro (by decide +kernel) (Nat.le_of_ble_eq_true rfl) ?_
  intro X C hr hn
  show Z X 0 [some (zr 25 0), some (zi a1), some (zi a2), some (zi a3), some (zi a4), some (zi a5)] [] (zmix f)
  refine z_iload_n (pc := 0) C dX10_custom_0 rfl ?_
  refine z_iload_n (pc := 1) C dX10_custom_1 rfl ?_
  refine z_iload_n (pc := 2) C dX10_custom_2 rfl ?_
  refine z_iload (pc := 3) C dX10_custom_3 rfl ?_
  refine z_iload (pc := 5) C dX10_custom_5 rfl ?_
  refine z_callSb (pc := 7) C zk_X10_101 (m_X10_mayBe _ _ _ _ _ _ _) rfl rfl (Nat.le_of_ble_eq_true rfl) dX10_custom_7 (fun h7 => ?_) (fun h7 => ?_)
  · skip
    refine z_if_eq (pc := 10) 30 C dX10_custom_10 (by decide) (fun h10 => absurd h10 (of_decide_eq_true rfl)) (fun h10 => ?_)
    refine z_aload_n (pc := 13) C dX10_custom_13 rfl ?_
    refine z_iconst (pc := 14) (v := 2) C dX10_custom_14 (by decide) ?_
    refine z_iload_n (pc := 15) C dX10_custom_15 rfl ?_
    refine z_iload_n (pc := 16) C dX10_custom_16 rfl ?_
    refine z_iconst (pc := 17) (v := 1) C dX10_custom_17 (by decide) ?_
    refine z_iconst (pc := 18) (v := 0) C dX10_custom_18 (by decide) ?_
    refine z_iload_n (pc := 19) C dX10_custom_19 rfl ?_
    refine z_iload (pc := 20) C dX10_custom_20 rfl ?_
    refine z_iload (pc := 22) C dX10_custom_22 rfl ?_
    refine z_callV (pc := 24) C zk_X10_105 (p_X10_addPaper _ _ _ _ _ _ _ _ _ _) rfl rfl (by decide) rfl rfl (Nat.le_of_ble_eq_true rfl) dX10_custom_24 (fun r24 g24 q24 => ?_)
    subst q24
    simp only [Option.toList, List.cons_append, List.nil_append]
    refine z_goto (pc := 27) 31 C dX10_custom_27 (by decide) ?_
    exact z_iret (pc := 31) C hr dX10_custom_31 (by first | rfl | (congr 2; rw [eq_comm]; first | (rw [if_neg (by (try simp only [z32lt, z32le, z32eq, z64, Int32.reduceToInt, Int32.toInt_zero, Int32.toInt_one, Int64.reduceToInt, Int64.toInt_zero, Int64.toInt_one, true_and, and_true, false_and, and_false, or_false, false_or, true_or, or_true] at *) <;> omega)]; done) | (rw [if_pos (by (try simp only [z32lt, z32le, z32eq, z64, Int32.reduceToInt, Int32.toInt_zero, Int32.toInt_one, Int64.reduceToInt, Int64.toInt_zero, Int64.toInt_one, true_and, and_true, false_and, and_false, or_false, false_or, true_or, or_true] at *) <;> omega)] <;> simp [zup, zmix, z0])))
  · skip
    refine z_if_eq (pc := 10) 30 C dX10_custom_10 (by decide) (fun h10 => ?_) (fun h10 => absurd (of_decide_eq_true rfl) h10)
    refine z_iconst (pc := 30) (v := -1) C dX10_custom_30 (by decide) ?_
    exact z_iret (pc := 31) C hr dX10_custom_31 (by first | rfl | (congr 2; rw [eq_comm]; first | (rw [if_neg (by (try simp only [z32lt, z32le, z32eq, z64, Int32.reduceToInt, Int32.toInt_zero, Int32.toInt_one, Int64.reduceToInt, Int64.toInt_zero, Int64.toInt_one, true_and, and_true, false_and, and_false, or_false, false_or, true_or, or_true] at *) <;> omega)]; done) | (rw [if_pos (by (try simp only [z32lt, z32le, z32eq, z64, Int32.reduceToInt, Int32.toInt_zero, Int32.toInt_one, Int64.reduceToInt, Int64.toInt_zero, Int64.toInt_one, true_and, and_true, false_and, and_false, or_false, false_or, true_or, or_true] at *) <;> omega)] <;> simp [zup, zmix, z0])))
