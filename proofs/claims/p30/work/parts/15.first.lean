/-- a row filled with one number -/
def zfill (f : zM) (k n len : Nat) (v : Int32) : zM := fun a b c => if a = k ∧ b = n ∧ c < len then v else f a b c
theorem zfill_0 (f : zM) (k n : Nat) (v : Int32) : zfill f k n 0 v = f := by
  funext a b c
  unfold zfill
  rw [if_neg (by omega)]
theorem zfill_s (f : zM) (k n i : Nat) (v : Int32) : zup (zfill f k n i v) k n i v = zfill f k n (i + 1) v := by
  funext a b c
  simp only [zfill, zup]
  repeat' split
  all_goals first | rfl | (exfalso; omega)
set_option maxRecDepth 100000 in
set_option maxHeartbeats 4000000 in
theorem m_X8_allDeeds (d : Nat) (f : zM) (w : Nat) (h9 : w < zcnt 1) : ZM d yX8_allDeeds cX8_allDeeds 1 (some .int) [zr 1 w] f (fun r g => r = some (zi ((1 <<< (f 1 w 6 &&& 31)) - 1)) ∧ g = f) := by
  refine ZM.intro (by decide +kernel) (Nat.le_of_ble_eq_true rfl) ?_
  intro X C hr hn
  show Z X 0 [some (zr 1 w)] [] f
  refine z_iconst (pc := 0) (v := 1) C dX8_allDeeds_0 (by decide) ?_
  refine z_aload_n (pc := 1) C dX8_allDeeds_1 rfl ?_
  refine z_getI (pc := 2) C zf_X8_54 rfl rfl h9 dX8_allDeeds_2 ?_
  refine z_ishl (pc := 5) C dX8_allDeeds_5 ?_
  refine z_iconst (pc := 6) (v := 1) C dX8_allDeeds_6 (by decide) ?_
  refine z_isub (pc := 7) C dX8_allDeeds_7 ?_
  exact z_iret (pc := 8) C hr dX8_allDeeds_8 (⟨rfl, rfl⟩)
set_option maxRecDepth 100000 in
set_option maxHeartbeats 4000000 in
theorem fill_loop {X : zX} {d : Nat} {f : zM} {k n len : Nat} {v : Int32} (C : zC X cJ7_fill_53178 yJ7_fill_53178.cls d) (hn : znL X = 4) (h9 : n < zcnt k) (hs : zshp k = .inr (0, len, none)) (hl31 : len < 2 ^ 31) (kk : Z X 20 [some (zr k n), some (zi v), some (zi (nI len)), some (zi (nI len))] [] (zfill f k n len v)) :
    ∀ m i : Nat, i + m = len → Z X 5 [some (zr k n), some (zi v), some (zi (nI i)), some (zi (nI len))] [] (zfill f k n i v) := by
  intro m
  induction m with
  | zero =>
    intro i hi
    obtain rfl : i = len := by omega
    refine z_iload_n (pc := 5) C dJ7_fill_53178_5 rfl ?_
    refine z_iload_n (pc := 6) C dJ7_fill_53178_6 rfl ?_
    refine z_icmp_ge (pc := 7) 20 C dJ7_fill_53178_7 (by decide) (fun _ => kk) (fun h => absurd (Int32.le_refl _) h)
  | succ m ih =>
    intro i hi
    have hlt : i < len := by omega
    refine z_iload_n (pc := 5) C dJ7_fill_53178_5 rfl ?_
    refine z_iload_n (pc := 6) C dJ7_fill_53178_6 rfl ?_
    refine z_icmp_ge (pc := 7) 20 C dJ7_fill_53178_7 (by decide) (fun h => absurd h (nI_ge hlt hl31)) (fun _ => ?_)
    refine z_aload_n (pc := 10) C dJ7_fill_53178_10 rfl ?_
    refine z_iload_n (pc := 11) C dJ7_fill_53178_11 rfl ?_
    refine z_iload_n (pc := 12) C dJ7_fill_53178_12 rfl ?_
    refine z_iast (pc := 13) C hs h9 (nI_in hlt hl31) dJ7_fill_53178_13 ?_
    rw [nI_clamp (by omega), zfill_s]
    refine z_iinc (pc := 14) (v := 1) C dJ7_fill_53178_14 rfl rfl (by rw [hn]; decide) rfl ?_
    rw [← nI_succ]
    refine z_goto (pc := 17) 5 C dJ7_fill_53178_17 (by decide) ?_
    exact ih (i + 1) (by omega)
set_option maxRecDepth 100000 in
set_option maxHeartbeats 4000000 in
theorem m_fill (d : Nat) (f : zM) (k n len : Nat) (v : Int32) (h9 : n < zcnt k) (hs : zshp k = .inr (0, len, none)) (hl31 : len < 2 ^ 31) : ZM d yJ7_fill_53178 cJ7_fill_53178 4 none [zr k n, zi v] f (fun r g => r = none ∧ g = zfill f k n len v) := by
  refine ZM.intro (by decide +kernel) (Nat.le_of_ble_eq_true rfl) ?_
  intro X C hr hn
  show Z X 0 [some (zr k n), some (zi v), none, none] [] f
  refine z_iconst (pc := 0) (v := 0) C dJ7_fill_53178_0 (by decide) ?_
  refine z_istore_n (pc := 1) C dJ7_fill_53178_1 (by rw [hn]; decide) rfl ?_
  refine z_aload_n (pc := 2) C dJ7_fill_53178_2 rfl ?_
  refine z_alenI (pc := 3) C hs h9 rfl dJ7_fill_53178_3 ?_
  refine z_istore_n (pc := 4) C dJ7_fill_53178_4 (by rw [hn]; decide) rfl ?_
  have := fill_loop (f := f) (v := v) C hn h9 hs hl31 (z_vret (pc := 20) C hr dJ7_fill_53178_20 ⟨rfl, rfl⟩) len 0 (by omega)
  rw [zfill_0] at this
  exact this
set_option maxRecDepth 100000 in
set_option maxHeartbeats 4000000 in
theorem m_X6_begin (d : Nat) (f : zM) (n : Nat) (h9 : n < 4) (a1 a2 : Int32) : ZM (d + 1) yX6_begin cX6_begin 3 none [zr 23 n, zi a1, zi a2] f (fun r g => r = none ∧ g = zfill (zup (zup f 23 n 1 a1) 23 n 2 a2) 24 n 16 0) := by
  refine ZM.intro (by decide +kernel) (Nat.le_of_ble_eq_true rfl) ?_
  intro X C hr hn
  show Z X 0 [some (zr 23 n), some (zi a1), some (zi a2)] [] f
  refine z_aload_n (pc := 0) C dX6_begin_0 rfl ?_
  refine z_iload_n (pc := 1) C dX6_begin_1 rfl ?_
  refine z_putI (pc := 2) C zf_X6_15 zp_6_1 rfl rfl h9 dX6_begin_2 ?_
  refine z_aload_n (pc := 5) C dX6_begin_5 rfl ?_
  refine z_iload_n (pc := 6) C dX6_begin_6 rfl ?_
  refine z_putI (pc := 7) C zf_X6_19 zp_6_2 rfl rfl h9 dX6_begin_7 ?_
  refine z_aload_n (pc := 10) C dX6_begin_10 rfl ?_
  refine z_getR (pc := 11) C zf_X6_9 rfl rfl h9 dX6_begin_11 ?_
  refine z_iconst (pc := 14) (v := 0) C dX6_begin_14 (by decide) ?_
  refine z_callSx (pc := 15) C zk_X6_22 (m_fill _ _ 24 n 16 _ h9 rfl (by decide)) rfl rfl (Nat.le_of_ble_eq_true rfl) dX6_begin_15 ?_
  simp only [Option.toList, List.cons_append, List.nil_append]
  exact z_vret (pc := 18) C hr dX6_begin_18 (⟨by simp, rfl⟩)
theorem nI_dec (m : Nat) : nI (m + 1) + (-1) = nI m := by
  rw [nI_succ, Int32.add_assoc, show (1 : Int32) + (-1) = 0 from by decide, Int32.add_zero]
theorem nI_ofI {x : Int32} (h0 : 0 ≤ x.toInt) : x = nI x.toInt.toNat ∧ x.toInt.toNat < 2 ^ 31 := by
  have h1 := x.toInt_lt
  have h2 : x.toInt.toNat < 2 ^ 31 := by omega
  refine ⟨?_, h2⟩
  rw [← Int32.toInt_inj, nI_toInt h2]
  omega
/-- a byte of a long, as the class takes it -/
def zby (w : Int64) (i : Int32) : Int32 := (w.toUInt64 >>> ((8 * i).toInt64.toUInt64 &&& Int64.toUInt64 63)).toInt64.toInt32 &&& 255
def zbyok (w : Int64) (i : Nat) : Prop := 32 ≤ (zby w (nI i)).toInt ∧ (zby w (nI i)).toInt ≤ 126
set_option maxRecDepth 100000 in
set_option maxHeartbeats 4000000 in
theorem m_X9_byteOf (d : Nat) (f : zM) (w : Int64) (i : Int32) : ZM d yX9_byteOf cX9_byteOf 3 (some .int) [zl w, zi i] f (fun r g => r = some (zi (zby w i)) ∧ g = f) := by
  refine ZM.intro (by decide +kernel) (Nat.le_of_ble_eq_true rfl) ?_
  intro X C hr hn
  show Z X 0 [some (zl w), none, some (zi i)] [] f
  refine z_lload_n (pc := 0) C dX9_byteOf_0 rfl ?_
  refine z_bipush (pc := 1) (v := 8) C dX9_byteOf_1 (by decide) ?_
  refine z_iload_n (pc := 3) C dX9_byteOf_3 rfl ?_
  refine z_imul (pc := 4) C dX9_byteOf_4 ?_
  refine z_lushr (pc := 5) C dX9_byteOf_5 ?_
  refine z_l2i (pc := 6) C dX9_byteOf_6 ?_
  refine z_sipush (pc := 7) (v := 255) C dX9_byteOf_7 (by decide) ?_
  refine z_iand (pc := 10) C dX9_byteOf_10 ?_
  exact z_iret (pc := 11) C hr dX9_byteOf_11 (⟨rfl, rfl⟩)
set_option maxRecDepth 100000 in
set_option maxHeartbeats 4000000 in
theorem m_X7_write (d : Nat) (f : zM) (v : Int32) (h0 : ¬ 120 ≤ f 18 0 3) (hi : vp_in (f 18 0 3) 120) : ZM d yX7_write cX7_write 2 none [zr 18 0, zi v] f (fun r g => r = none ∧ g = zup (zup f 19 0 (f 18 0 3).toNatClampNeg (vp_nar .char v)) 18 0 3 (f 18 0 3 + 1)) := by
  refine ZM.intro (by decide +kernel) (Nat.le_of_ble_eq_true rfl) ?_
  intro X C hr hn
  show Z X 0 [some (zr 18 0), some (zi v)] [] f
  refine z_aload_n (pc := 0) C dX7_write_0 rfl ?_
  refine z_getI (pc := 1) C zf_X7_29 rfl rfl (by decide) dX7_write_1 ?_
  refine z_bipush (pc := 4) (v := 120) C dX7_write_4 (by decide) ?_
  refine z_icmp_ge (pc := 6) 29 C dX7_write_6 (by decide) (fun h6 => absurd h6 h0) (fun h6 => ?_)
  refine z_aload_n (pc := 9) C dX7_write_9 rfl ?_
  refine z_getR (pc := 10) C zf_X7_9 rfl rfl (by decide) dX7_write_10 ?_
  refine z_aload_n (pc := 13) C dX7_write_13 rfl ?_
  refine z_getI (pc := 14) C zf_X7_29 rfl rfl (by decide) dX7_write_14 ?_
  refine z_iload_n (pc := 17) C dX7_write_17 rfl ?_
  refine z_cast (pc := 18) C rfl (by decide) hi dX7_write_18 ?_
  refine z_aload_n (pc := 19) C dX7_write_19 rfl ?_
  first | refine z_dupr (pc := 20) C dX7_write_20 ?_ | refine z_dupi (pc := 20) C dX7_write_20 ?_
  refine z_getI (pc := 21) C zf_X7_29 rfl rfl (by decide) dX7_write_21 ?_
  refine z_iconst (pc := 24) (v := 1) C dX7_write_24 (by decide) ?_
  refine z_iadd (pc := 25) C dX7_write_25 ?_
  refine z_putI (pc := 26) C zf_X7_29 zp_7_3 rfl rfl (by decide) dX7_write_26 ?_
  exact z_vret (pc := 29) C hr dX7_write_29 (⟨rfl, by rw [zup_ne _ _ (by omega)]⟩)
theorem zvp {i : Int32} {n : Nat} (h : decide (¬ (i < 0 ∨ n ≤ i.toNatClampNeg)) = true) : vp_in i n := show ¬ (i < 0 ∨ n ≤ i.toNatClampNeg) from of_decide_eq_true h
theorem z64 (x : Int32) : x.toInt64.toInt = x.toInt := Int32.toInt_toInt64 x
theorem lg_lt (x y : Int64) : (lg_cmp x y < 0) ↔ x.toInt < y.toInt := by
  unfold lg_cmp
  simp only [gt_iff_lt, Int64.lt_iff_toInt_lt, ← Int64.toInt_inj]
  split
  · simp; omega
  · split
    · simp; omega
    · constructor
      · intro _; omega
      · intro _; decide
theorem lg_gt (x y : Int64) : (0 < lg_cmp x y) ↔ y.toInt < x.toInt := by
  unfold lg_cmp
  simp only [gt_iff_lt, Int64.lt_iff_toInt_lt, ← Int64.toInt_inj]
  split
  · simp; omega
  · split
    · simp; omega
    · constructor
      · intro h; exact absurd h (by decide)
      · intro _; omega
set_option maxRecDepth 100000 in
set_option maxHeartbeats 4000000 in
theorem m_X10_in (d : Nat) (f : zM) (v a b : Int64) : ZM d yX10_in cX10_in 6 (some .boolean) [zl v, zl a, zl b] f (fun r g => r = some (zi (if a.toInt ≤ v.toInt ∧ v.toInt ≤ b.toInt then 1 else 0)) ∧ g = f) := by
  refine ZM.intro (by decide +kernel) (Nat.le_of_ble_eq_true rfl) ?_
  intro X C hr hn
  show Z X 0 [some (zl v), none, some (zl a), none, some (zl b), none] [] f
  refine z_lload_n (pc := 0) C dX10_in_0 rfl ?_
  refine z_lload_n (pc := 1) C dX10_in_1 rfl ?_
  refine z_lcmp (pc := 2) C dX10_in_2 ?_
  refine z_if_lt (pc := 3) 17 C dX10_in_3 (by decide) (fun h3 => ?_) (fun h3 => ?_)
  · skip
    refine z_iconst (pc := 17) (v := 0) C dX10_in_17 (by decide) ?_
    exact z_zret (pc := 18) C hr (by decide) dX10_in_18 (⟨by congr 2; rw [eq_comm]; simp only [lg_lt, lg_gt] at *; first | (rw [if_pos (by omega)]; done) | (rw [if_neg (by omega)]; done), rfl⟩)
  · skip
    refine z_lload_n (pc := 6) C dX10_in_6 rfl ?_
    refine z_lload (pc := 7) C dX10_in_7 rfl ?_
    refine z_lcmp (pc := 9) C dX10_in_9 ?_
    refine z_if_gt (pc := 10) 17 C dX10_in_10 (by decide) (fun h10 => ?_) (fun h10 => ?_)
    · skip
      refine z_iconst (pc := 17) (v := 0) C dX10_in_17 (by decide) ?_
      exact z_zret (pc := 18) C hr (by decide) dX10_in_18 (⟨by congr 2; rw [eq_comm]; simp only [lg_lt, lg_gt] at *; first | (rw [if_pos (by omega)]; done) | (rw [if_neg (by omega)]; done), rfl⟩)
    · skip
      refine z_iconst (pc := 13) (v := 1) C dX10_in_13 (by decide) ?_
      refine z_goto (pc := 14) 18 C dX10_in_14 (by decide) ?_
      exact z_zret (pc := 18) C hr (by decide) dX10_in_18 (⟨by congr 2; rw [eq_comm]; simp only [lg_lt, lg_gt] at *; first | (rw [if_pos (by omega)]; done) | (rw [if_neg (by omega)]; done), rfl⟩)
set_option maxRecDepth 100000 in
set_option maxHeartbeats 4000000 in
theorem m_X10_isLand (d : Nat) (f : zM) (x : Int32) : ZM (d + 1) yX10_isLand cX10_isLand 1 (some .boolean) [zi x] f (fun r g => r = some (zi (if 0 ≤ x.toInt ∧ x.toInt ≤ 5 then 1 else 0)) ∧ g = f) := by
  refine ZM.intro (by decide +kernel) (Nat.le_of_ble_eq_true rfl) ?_
  intro X C hr hn
  show Z X 0 [some (zi x)] [] f
  refine z_iload_n (pc := 0) C dX10_isLand_0 rfl ?_
  refine z_i2l (pc := 1) C dX10_isLand_1 ?_
  refine z_lconst (pc := 2) (v := 0) C dX10_isLand_2 (by decide) ?_
  refine z_ldc2 (pc := 3) C zw_1123 dX10_isLand_3 ?_
  refine z_callSb (pc := 6) C zk_X10_69 (m_X10_in _ _ _ _ _) rfl rfl (Nat.le_of_ble_eq_true rfl) dX10_isLand_6 (fun h6 => ?_) (fun h6 => ?_)
  · skip
    exact z_zret (pc := 9) C hr (by decide) dX10_isLand_9 (⟨by first | rfl | (congr 2; rw [eq_comm]; first | (rw [if_neg (by (try simp only [z32lt, z32le, z32eq, z64, Int32.reduceToInt, Int32.toInt_zero, Int32.toInt_one, Int64.reduceToInt, Int64.toInt_zero, Int64.toInt_one, true_and, and_true, false_and, and_false, or_false, false_or, true_or, or_true] at *) <;> omega)]; done) | (rw [if_pos (by (try simp only [z32lt, z32le, z32eq, z64, Int32.reduceToInt, Int32.toInt_zero, Int32.toInt_one, Int64.reduceToInt, Int64.toInt_zero, Int64.toInt_one, true_and, and_true, false_and, and_false, or_false, false_or, true_or, or_true] at *) <;> omega)] <;> simp [zup, zmix, z0])), rfl⟩)
  · skip
    exact z_zret (pc := 9) C hr (by decide) dX10_isLand_9 (⟨by first | rfl | (congr 2; rw [eq_comm]; first | (rw [if_neg (by (try simp only [z32lt, z32le, z32eq, z64, Int32.reduceToInt, Int32.toInt_zero, Int32.toInt_one, Int64.reduceToInt, Int64.toInt_zero, Int64.toInt_one, true_and, and_true, false_and, and_false, or_false, false_or, true_or, or_true] at *) <;> omega)]; done) | (rw [if_pos (by (try simp only [z32lt, z32le, z32eq, z64, Int32.reduceToInt, Int32.toInt_zero, Int32.toInt_one, Int64.reduceToInt, Int64.toInt_zero, Int64.toInt_one, true_and, and_true, false_and, and_false, or_false, false_or, true_or, or_true] at *) <;> omega)] <;> simp [zup, zmix, z0])), rfl⟩)
set_option maxRecDepth 100000 in
set_option maxHeartbeats 4000000 in
theorem m_X10_isSheet (d : Nat) (f : zM) (a1 a2 : Int32) : ZM (d + 1) yX10_isSheet cX10_isSheet 2 (some .boolean) [zi a1, zi a2] f (fun r g => r = some (zi (if (0 ≤ a1.toInt ∧ a1.toInt ≤ 3) ∧ (0 ≤ a2.toInt ∧ a2.toInt ≤ 2) then 1 else 0)) ∧ g = f) := by
  refine ZM.intro (by decide +kernel) (Nat.le_of_ble_eq_true rfl) ?_
  intro X C hr hn
  show Z X 0 [some (zi a1), some (zi a2)] [] f
  refine z_iload_n (pc := 0) C dX10_isSheet_0 rfl ?_
  refine z_i2l (pc := 1) C dX10_isSheet_1 ?_
  refine z_lconst (pc := 2) (v := 0) C dX10_isSheet_2 (by decide) ?_
  refine z_ldc2 (pc := 3) C zw_1415 dX10_isSheet_3 ?_
  refine z_callSb (pc := 6) C zk_X10_69 (m_X10_in _ _ _ _ _) rfl rfl (Nat.le_of_ble_eq_true rfl) dX10_isSheet_6 (fun h6 => ?_) (fun h6 => ?_)
  · skip
    refine z_if_eq (pc := 9) 28 C dX10_isSheet_9 (by decide) (fun h9 => absurd h9 (by decide)) (fun h9 => ?_)
    refine z_iload_n (pc := 12) C dX10_isSheet_12 rfl ?_
    refine z_i2l (pc := 13) C dX10_isSheet_13 ?_
    refine z_lconst (pc := 14) (v := 0) C dX10_isSheet_14 (by decide) ?_
    refine z_ldc2 (pc := 15) C zw_1207 dX10_isSheet_15 ?_
    refine z_callSb (pc := 18) C zk_X10_69 (m_X10_in _ _ _ _ _) rfl rfl (Nat.le_of_ble_eq_true rfl) dX10_isSheet_18 (fun h18 => ?_) (fun h18 => ?_)
    · skip
      refine z_if_eq (pc := 21) 28 C dX10_isSheet_21 (by decide) (fun h21 => absurd h21 (by decide)) (fun h21 => ?_)
      refine z_iconst (pc := 24) (v := 1) C dX10_isSheet_24 (by decide) ?_
      refine z_goto (pc := 25) 29 C dX10_isSheet_25 (by decide) ?_
      exact z_zret (pc := 29) C hr (by decide) dX10_isSheet_29 (⟨by first | rfl | (congr 2; rw [eq_comm]; first | (rw [if_neg (by (try simp only [z32lt, z32le, z32eq, z64, Int32.reduceToInt, Int32.toInt_zero, Int32.toInt_one, Int64.reduceToInt, Int64.toInt_zero, Int64.toInt_one, true_and, and_true, false_and, and_false, or_false, false_or, true_or, or_true] at *) <;> omega)]; done) | (rw [if_pos (by (try simp only [z32lt, z32le, z32eq, z64, Int32.reduceToInt, Int32.toInt_zero, Int32.toInt_one, Int64.reduceToInt, Int64.toInt_zero, Int64.toInt_one, true_and, and_true, false_and, and_false, or_false, false_or, true_or, or_true] at *) <;> omega)] <;> simp [zup, zmix, z0])), rfl⟩)
    · skip
      refine z_if_eq (pc := 21) 28 C dX10_isSheet_21 (by decide) (fun h21 => ?_) (fun h21 => absurd (by decide) h21)
      refine z_iconst (pc := 28) (v := 0) C dX10_isSheet_28 (by decide) ?_
      exact z_zret (pc := 29) C hr (by decide) dX10_isSheet_29 (⟨by first | rfl | (congr 2; rw [eq_comm]; first | (rw [if_neg (by (try simp only [z32lt, z32le, z32eq, z64, Int32.reduceToInt, Int32.toInt_zero, Int32.toInt_one, Int64.reduceToInt, Int64.toInt_zero, Int64.toInt_one, true_and, and_true, false_and, and_false, or_false, false_or, true_or, or_true] at *) <;> omega)]; done) | (rw [if_pos (by (try simp only [z32lt, z32le, z32eq, z64, Int32.reduceToInt, Int32.toInt_zero, Int32.toInt_one, Int64.reduceToInt, Int64.toInt_zero, Int64.toInt_one, true_and, and_true, false_and, and_false, or_false, false_or, true_or, or_true] at *) <;> omega)] <;> simp [zup, zmix, z0])), rfl⟩)
  · skip
    refine z_if_eq (pc := 9) 28 C dX10_isSheet_9 (by decide) (fun h9 => ?_) (fun h9 => absurd (by decide) h9)
    refine z_iconst (pc := 28) (v := 0) C dX10_isSheet_28 (by decide) ?_
    exact z_zret (pc := 29) C hr (by decide) dX10_isSheet_29 (⟨by first | rfl | (congr 2; rw [eq_comm]; first | (rw [if_neg (by (try simp only [z32lt, z32le, z32eq, z64, Int32.reduceToInt, Int32.toInt_zero, Int32.toInt_one, Int64.reduceToInt, Int64.toInt_zero, Int64.toInt_one, true_and, and_true, false_and, and_false, or_false, false_or, true_or, or_true] at *) <;> omega)]; done) | (rw [if_pos (by (try simp only [z32lt, z32le, z32eq, z64, Int32.reduceToInt, Int32.toInt_zero, Int32.toInt_one, Int64.reduceToInt, Int64.toInt_zero, Int64.toInt_one, true_and, and_true, false_and, and_false, or_false, false_or, true_or, or_true] at *) <;> omega)] <;> simp [zup, zmix, z0])), rfl⟩)
set_option maxRecDepth 100000 in
set_option maxHeartbeats 4000000 in
theorem m_X10_mayBe (d : Nat) (f : zM) (a1 a2 a3 a4 a5 : Int32) : ZM (d + 2) yX10_mayBe cX10_mayBe 5 (some .boolean) [zi a1, zi a2, zi a3, zi a4, zi a5] f (fun r g => r = some (zi (if (0 ≤ a1.toInt ∧ a1.toInt ≤ 5) ∧ (0 ≤ a2.toInt ∧ a2.toInt ≤ 5) ∧ ¬ a1.toInt = a2.toInt ∧ (0 ≤ a3.toInt ∧ a3.toInt ≤ 31) ∧ (0 ≤ a4.toInt ∧ a4.toInt ≤ 99) ∧ (0 ≤ a5.toInt ∧ a5.toInt ≤ 7) then 1 else 0)) ∧ g = f) := by
  refine ZM.intro (by decide +kernel) (Nat.le_of_ble_eq_true rfl) ?_
  intro X C hr hn
  show Z X 0 [some (zi a1), some (zi a2), some (zi a3), some (zi a4), some (zi a5)] [] f
  refine z_iload_n (pc := 0) C dX10_mayBe_0 rfl ?_
  refine z_callSb (pc := 1) C zk_X10_83 (m_X10_isLand _ _ _) rfl rfl (Nat.le_of_ble_eq_true rfl) dX10_mayBe_1 (fun h1 => ?_) (fun h1 => ?_)
  · skip
    refine z_if_eq (pc := 4) 60 C dX10_mayBe_4 (by decide) (fun h4 => absurd h4 (by decide)) (fun h4 => ?_)
    refine z_iload_n (pc := 7) C dX10_mayBe_7 rfl ?_
    refine z_callSb (pc := 8) C zk_X10_83 (m_X10_isLand _ _ _) rfl rfl (Nat.le_of_ble_eq_true rfl) dX10_mayBe_8 (fun h8 => ?_) (fun h8 => ?_)
    · skip
      refine z_if_eq (pc := 11) 60 C dX10_mayBe_11 (by decide) (fun h11 => absurd h11 (by decide)) (fun h11 => ?_)
      refine z_iload_n (pc := 14) C dX10_mayBe_14 rfl ?_
      refine z_iload_n (pc := 15) C dX10_mayBe_15 rfl ?_
      refine z_icmp_eq (pc := 16) 60 C dX10_mayBe_16 (by decide) (fun h16 => ?_) (fun h16 => ?_)
      · skip
        refine z_iconst (pc := 60) (v := 0) C dX10_mayBe_60 (by decide) ?_
        exact z_zret (pc := 61) C hr (by decide) dX10_mayBe_61 (⟨by first | rfl | (congr 2; rw [eq_comm]; first | (rw [if_neg (by (try simp only [z32lt, z32le, z32eq, z64, Int32.reduceToInt, Int32.toInt_zero, Int32.toInt_one, Int64.reduceToInt, Int64.toInt_zero, Int64.toInt_one, true_and, and_true, false_and, and_false, or_false, false_or, true_or, or_true] at *) <;> omega)]; done) | (rw [if_pos (by (try simp only [z32lt, z32le, z32eq, z64, Int32.reduceToInt, Int32.toInt_zero, Int32.toInt_one, Int64.reduceToInt, Int64.toInt_zero, Int64.toInt_one, true_and, and_true, false_and, and_false, or_false, false_or, true_or, or_true] at *) <;> omega)] <;> simp [zup, zmix, z0])), rfl⟩)
      · skip
        refine z_iload_n (pc := 19) C dX10_mayBe_19 rfl ?_
        refine z_i2l (pc := 20) C dX10_mayBe_20 ?_
        refine z_lconst (pc := 21) (v := 0) C dX10_mayBe_21 (by decide) ?_
        refine z_ldc2 (pc := 22) C zw_1145 dX10_mayBe_22 ?_
        refine z_callSb (pc := 25) C zk_X10_69 (m_X10_in _ _ _ _ _) rfl rfl (Nat.le_of_ble_eq_true rfl) dX10_mayBe_25 (fun h25 => ?_) (fun h25 => ?_)
        · skip
          refine z_if_eq (pc := 28) 60 C dX10_mayBe_28 (by decide) (fun h28 => absurd h28 (by decide)) (fun h28 => ?_)
          refine z_iload_n (pc := 31) C dX10_mayBe_31 rfl ?_
          refine z_i2l (pc := 32) C dX10_mayBe_32 ?_
          refine z_lconst (pc := 33) (v := 0) C dX10_mayBe_33 (by decide) ?_
          refine z_ldc2 (pc := 34) C zw_1137 dX10_mayBe_34 ?_
          refine z_callSb (pc := 37) C zk_X10_69 (m_X10_in _ _ _ _ _) rfl rfl (Nat.le_of_ble_eq_true rfl) dX10_mayBe_37 (fun h37 => ?_) (fun h37 => ?_)
          · skip
            refine z_if_eq (pc := 40) 60 C dX10_mayBe_40 (by decide) (fun h40 => absurd h40 (by decide)) (fun h40 => ?_)
            refine z_iload (pc := 43) C dX10_mayBe_43 rfl ?_
            refine z_i2l (pc := 45) C dX10_mayBe_45 ?_
            refine z_lconst (pc := 46) (v := 0) C dX10_mayBe_46 (by decide) ?_
            refine z_ldc2 (pc := 47) C zw_1146 dX10_mayBe_47 ?_
            refine z_callSb (pc := 50) C zk_X10_69 (m_X10_in _ _ _ _ _) rfl rfl (Nat.le_of_ble_eq_true rfl) dX10_mayBe_50 (fun h50 => ?_) (fun h50 => ?_)
            · skip
              refine z_if_eq (pc := 53) 60 C dX10_mayBe_53 (by decide) (fun h53 => absurd h53 (by decide)) (fun h53 => ?_)
              refine z_iconst (pc := 56) (v := 1) C dX10_mayBe_56 (by decide) ?_
              refine z_goto (pc := 57) 61 C dX10_mayBe_57 (by decide) ?_
              exact z_zret (pc := 61) C hr (by decide) dX10_mayBe_61 (⟨by first | rfl | (congr 2; rw [eq_comm]; first | (rw [if_neg (by (try simp only [z32lt, z32le, z32eq, z64, Int32.reduceToInt, Int32.toInt_zero, Int32.toInt_one, Int64.reduceToInt, Int64.toInt_zero, Int64.toInt_one, true_and, and_true, false_and, and_false, or_false, false_or, true_or, or_true] at *) <;> omega)]; done) | (rw [if_pos (by (try simp only [z32lt, z32le, z32eq, z64, Int32.reduceToInt, Int32.toInt_zero, Int32.toInt_one, Int64.reduceToInt, Int64.toInt_zero, Int64.toInt_one, true_and, and_true, false_and, and_false, or_false, false_or, true_or, or_true] at *) <;> omega)] <;> simp [zup, zmix, z0])), rfl⟩)
            · skip
              refine z_if_eq (pc := 53) 60 C dX10_mayBe_53 (by decide) (fun h53 => ?_) (fun h53 => absurd (by decide) h53)
              refine z_iconst (pc := 60) (v := 0) C dX10_mayBe_60 (by decide) ?_
              exact z_zret (pc := 61) C hr (by decide) dX10_mayBe_61 (⟨by first | rfl | (congr 2; rw [eq_comm]; first | (rw [if_neg (by (try simp only [z32lt, z32le, z32eq, z64, Int32.reduceToInt, Int32.toInt_zero, Int32.toInt_one, Int64.reduceToInt, Int64.toInt_zero, Int64.toInt_one, true_and, and_true, false_and, and_false, or_false, false_or, true_or, or_true] at *) <;> omega)]; done) | (rw [if_pos (by (try simp only [z32lt, z32le, z32eq, z64, Int32.reduceToInt, Int32.toInt_zero, Int32.toInt_one, Int64.reduceToInt, Int64.toInt_zero, Int64.toInt_one, true_and, and_true, false_and, and_false, or_false, false_or, true_or, or_true] at *) <;> omega)] <;> simp [zup, zmix, z0])), rfl⟩)
          · skip
            refine z_if_eq (pc := 40) 60 C dX10_mayBe_40 (by decide) (fun h40 => ?_) (fun h40 => absurd (by decide) h40)
            refine z_iconst (pc := 60) (v := 0) C dX10_mayBe_60 (by decide) ?_
            exact z_zret (pc := 61) C hr (by decide) dX10_mayBe_61 (⟨by first | rfl | (congr 2; rw [eq_comm]; first | (rw [if_neg (by (try simp only [z32lt, z32le, z32eq, z64, Int32.reduceToInt, Int32.toInt_zero, Int32.toInt_one, Int64.reduceToInt, Int64.toInt_zero, Int64.toInt_one, true_and, and_true, false_and, and_false, or_false, false_or, true_or, or_true] at *) <;> omega)]; done) | (rw [if_pos (by (try simp only [z32lt, z32le, z32eq, z64, Int32.reduceToInt, Int32.toInt_zero, Int32.toInt_one, Int64.reduceToInt, Int64.toInt_zero, Int64.toInt_one, true_and, and_true, false_and, and_false, or_false, false_or, true_or, or_true] at *) <;> omega)] <;> simp [zup, zmix, z0])), rfl⟩)
        · skip
          refine z_if_eq (pc := 28) 60 C dX10_mayBe_28 (by decide) (fun h28 => ?_) (fun h28 => absurd (by decide) h28)
          refine z_iconst (pc := 60) (v := 0) C dX10_mayBe_60 (by decide) ?_
          exact z_zret (pc := 61) C hr (by decide) dX10_mayBe_61 (⟨by first | rfl | (congr 2; rw [eq_comm]; first | (rw [if_neg (by (try simp only [z32lt, z32le, z32eq, z64, Int32.reduceToInt, Int32.toInt_zero, Int32.toInt_one, Int64.reduceToInt, Int64.toInt_zero, Int64.toInt_one, true_and, and_true, false_and, and_false, or_false, false_or, true_or, or_true] at *) <;> omega)]; done) | (rw [if_pos (by (try simp only [z32lt, z32le, z32eq, z64, Int32.reduceToInt, Int32.toInt_zero, Int32.toInt_one, Int64.reduceToInt, Int64.toInt_zero, Int64.toInt_one, true_and, and_true, false_and, and_false, or_false, false_or, true_or, or_true] at *) <;> omega)] <;> simp [zup, zmix, z0])), rfl⟩)
    · skip
      refine z_if_eq (pc := 11) 60 C dX10_mayBe_11 (by decide) (fun h11 => ?_) (fun h11 => absurd (by decide) h11)
      refine z_iconst (pc := 60) (v := 0) C dX10_mayBe_60 (by decide) ?_
      exact z_zret (pc := 61) C hr (by decide) dX10_mayBe_61 (⟨by first | rfl | (congr 2; rw [eq_comm]; first | (rw [if_neg (by (try simp only [z32lt, z32le, z32eq, z64, Int32.reduceToInt, Int32.toInt_zero, Int32.toInt_one, Int64.reduceToInt, Int64.toInt_zero, Int64.toInt_one, true_and, and_true, false_and, and_false, or_false, false_or, true_or, or_true] at *) <;> omega)]; done) | (rw [if_pos (by (try simp only [z32lt, z32le, z32eq, z64, Int32.reduceToInt, Int32.toInt_zero, Int32.toInt_one, Int64.reduceToInt, Int64.toInt_zero, Int64.toInt_one, true_and, and_true, false_and, and_false, or_false, false_or, true_or, or_true] at *) <;> omega)] <;> simp [zup, zmix, z0])), rfl⟩)
  · skip
    refine z_if_eq (pc := 4) 60 C dX10_mayBe_4 (by decide) (fun h4 => ?_) (fun h4 => absurd (by decide) h4)
    refine z_iconst (pc := 60) (v := 0) C dX10_mayBe_60 (by decide) ?_
    exact z_zret (pc := 61) C hr (by decide) dX10_mayBe_61 (⟨by first | rfl | (congr 2; rw [eq_comm]; first | (rw [if_neg (by (try simp only [z32lt, z32le, z32eq, z64, Int32.reduceToInt, Int32.toInt_zero, Int32.toInt_one, Int64.reduceToInt, Int64.toInt_zero, Int64.toInt_one, true_and, and_true, false_and, and_false, or_false, false_or, true_or, or_true] at *) <;> omega)]; done) | (rw [if_pos (by (try simp only [z32lt, z32le, z32eq, z64, Int32.reduceToInt, Int32.toInt_zero, Int32.toInt_one, Int64.reduceToInt, Int64.toInt_zero, Int64.toInt_one, true_and, and_true, false_and, and_false, or_false, false_or, true_or, or_true] at *) <;> omega)] <;> simp [zup, zmix, z0])), rfl⟩)
/-- a run of items of a row, all v -/
def zfo (f : zM) (k n a len : Nat) (v : Int32) : zM := fun x y z => if x = k ∧ y = n ∧ a ≤ z ∧ z < a + len then v else f x y z
theorem zfo_0 (f : zM) (k n a : Nat) (v : Int32) : zfo f k n a 0 v = f := by
  funext x y z
  unfold zfo
  rw [if_neg (by omega)]
theorem zfo_s (f : zM) (k n a i : Nat) (v : Int32) : zup (zfo f k n a i v) k n (a + i) v = zfo f k n a (i + 1) v := by
  funext x y z
  unfold zup zfo
  by_cases q1 : x = k ∧ y = n ∧ z = a + i
  · rw [if_pos q1, if_pos (by omega)]
  · rw [if_neg q1]
    by_cases q2 : x = k ∧ y = n ∧ a ≤ z ∧ z < a + i
    · rw [if_pos q2, if_pos (by omega)]
    · rw [if_neg q2, if_neg (by omega)]
set_option maxRecDepth 100000 in
set_option maxHeartbeats 4000000 in
theorem sheetm_loop {X : zX} {d s : Nat} {f : zM} {a2 a3 : Int32} (h4 : s < 4) (C : zC X cX10_sheet yX10_sheet.cls d) (hn : znL X = 5) (kk : Z X 66 [some (zr 25 0), some (zi (nI s)), some (zi a2), some (zi a3), some (zi (nI 16))] [] (zfo f 43 0 (16 * s) 16 0)) :
    ∀ m i : Nat, i + m = 16 → Z X 40 [some (zr 25 0), some (zi (nI s)), some (zi a2), some (zi a3), some (zi (nI i))] [] (zfo f 43 0 (16 * s) i 0) := by
  have e16 : (16 : Int32) * nI s = nI (16 * s) := by
    rcases (show s = 0 ∨ s = 1 ∨ s = 2 ∨ s = 3 by omega) with rfl | rfl | rfl | rfl <;> decide
  intro m
  induction m with
  | zero =>
    intro i hi
    obtain rfl : i = 16 := by omega
    refine z_iload (pc := 40) C dX10_sheet_40 rfl ?_
    refine z_bipush (pc := 42) (v := nI 16) C dX10_sheet_42 (by decide) ?_
    exact z_icmp_ge (pc := 44) 66 C dX10_sheet_44 (by decide) (fun _ => kk) (fun h => absurd (Int32.le_refl _) h)
  | succ m ih =>
    intro i hi
    refine z_iload (pc := 40) C dX10_sheet_40 rfl ?_
    refine z_bipush (pc := 42) (v := nI 16) C dX10_sheet_42 (by decide) ?_
    refine z_icmp_ge (pc := 44) 66 C dX10_sheet_44 (by decide) (fun h => absurd h (nI_ge (by omega) (by omega))) (fun _ => ?_)
    refine z_aload_n (pc := 47) C dX10_sheet_47 rfl ?_
    refine z_getR (pc := 48) C zf_X10_61 rfl rfl (by decide) dX10_sheet_48 ?_
    refine z_bipush (pc := 51) (v := 16) C dX10_sheet_51 (by decide) ?_
    refine z_iload_n (pc := 53) C dX10_sheet_53 rfl ?_
    refine z_imul (pc := 54) C dX10_sheet_54 ?_
    refine z_iload (pc := 55) C dX10_sheet_55 rfl ?_
    refine z_iadd (pc := 57) C dX10_sheet_57 ?_
    rw [e16, nI_add]
    refine z_iconst (pc := 58) (v := 0) C dX10_sheet_58 (by decide) ?_
    refine z_iast (pc := 59) C rfl (by decide) (nI_in (N := 64) (by omega) (by omega)) dX10_sheet_59 ?_
    rw [nI_clamp (by omega), zfo_s]
    refine z_iinc (pc := 60) (v := 1) C dX10_sheet_60 rfl (by decide) (by rw [hn]; decide) rfl ?_
    rw [← nI_succ]
    refine z_goto (pc := 63) 40 C dX10_sheet_63 (by decide) ?_
    exact ih (i + 1) (by omega)
theorem ZM.mono {d : Nat} {y : MethodName} {cc : ByteArray} {nL : Nat} {rt : Option FieldType} {as : List zV} {f : zM} {Q Q' : Option zV → zM → Prop} (h : ZM d y cc nL rt as f Q) (hq : ∀ r g, Q r g → Q' r g) : ZM d y cc nL rt as f Q' := by
  intro l D cA ad lo hG p e ha hc hk s m args below hf happ hP hK
  obtain ⟨n, o, h1, h2, h3, ⟨r, f', e1, e2, e3, e4⟩, h5⟩ := h l D cA ad lo hG p e ha hc hk s m args below hf happ hP hK
  exact ⟨n, o, h1, h2, h3, ⟨r, f', e1, hq _ _ e2, e3, e4⟩, h5⟩
set_option maxRecDepth 100000 in
set_option maxHeartbeats 4000000 in
theorem fs_fill {X : zX} {d : Nat} {f : zM} (C : zC X cX10_findStates yX10_findStates.cls d) (hn : znL X = 11) (kk : Z X 27 [some (zr 25 0), some (zi (nI 21504)), none, none, none, none, none, none, none, none, none] [] (zfill f 32 0 21504 (-4))) :
    ∀ (m i : Nat), i + m = 21504 → Z X 6 [some (zr 25 0), some (zi (nI i)), none, none, none, none, none, none, none, none, none] [] (zfill f 32 0 i (-4)) := by
  intro m
  induction m with
  | zero =>
    intro i hi
    obtain rfl : i = 21504 := by omega
    refine z_iload_n (pc := 6) C dX10_findStates_6 rfl ?_
    refine z_sipush (pc := 7) (v := nI 21504) C dX10_findStates_7 (by decide) ?_
    exact z_icmp_ge (pc := 10) 27 C dX10_findStates_10 (by decide) (fun _ => kk) (fun h => absurd (Int32.le_refl _) h)
  | succ m ih =>
    intro i hi
    refine z_iload_n (pc := 6) C dX10_findStates_6 rfl ?_
    refine z_sipush (pc := 7) (v := nI 21504) C dX10_findStates_7 (by decide) ?_
    refine z_icmp_ge (pc := 10) 27 C dX10_findStates_10 (by decide) (fun h => absurd h (nI_ge (by omega) (by omega))) (fun _ => ?_)
    refine z_aload_n (pc := 13) C dX10_findStates_13 rfl ?_
    refine z_getR (pc := 14) C zf_X10_28 rfl rfl (by decide) dX10_findStates_14 ?_
    refine z_iload_n (pc := 17) C dX10_findStates_17 rfl ?_
    refine z_bipush (pc := 18) (v := -4) C dX10_findStates_18 (by decide) ?_
    refine z_iast (pc := 20) C rfl (by decide) (nI_in (N := 21504) (by omega) (by omega)) dX10_findStates_20 ?_
    rw [nI_clamp (by omega), zfill_s]
    refine z_iinc (pc := 21) (v := 1) C dX10_findStates_21 rfl (by decide) (by rw [hn]; decide) rfl ?_
    rw [← nI_succ]
    refine z_goto (pc := 24) 6 C dX10_findStates_24 (by decide) ?_
    exact ih (i + 1) (by omega)
/-- a row of the reference, i of its items kept -/
def zkp (f : zM) (k a i : Nat) : zM := fun x y z => if x = 25 ∧ y = 0 ∧ z = 24 then nI (a + i) else if x = 39 ∧ y = 0 ∧ a ≤ z ∧ z < a + i then f k 0 (z - a) else f x y z
theorem zkp_0 {f : zM} {k a : Nat} (h : f 25 0 24 = nI a) : zkp f k a 0 = f := by
  funext x y z
  unfold zkp
  split
  · rename_i hq
    obtain ⟨rfl, rfl, rfl⟩ := hq
    exact h.symm
  · rw [if_neg (by omega)]
theorem zkp_s {f : zM} {k a i : Nat} (h1 : k ≠ 25) (h2 : k ≠ 39) : zup (zup (zkp f k a i) 39 0 (a + i) (zkp f k a i k 0 i)) 25 0 24 (nI (a + i) + 1) = zkp f k a (i + 1) := by
  have e : zkp f k a i k 0 i = f k 0 i := by
    unfold zkp
    rw [if_neg (by omega), if_neg (by omega)]
  rw [e]
  funext x y z
  unfold zup zkp
  by_cases q1 : x = 25 ∧ y = 0 ∧ z = 24
  · rw [if_pos q1, if_pos q1, ← nI_succ]; rfl
  · rw [if_neg q1, if_neg q1]
    by_cases q2 : x = 39 ∧ y = 0 ∧ z = a + i
    · rw [if_pos q2, if_neg q1, if_pos (by omega), show z - a = i by omega]
    · rw [if_neg q2, if_neg q1]
      by_cases q3 : x = 39 ∧ y = 0 ∧ a ≤ z ∧ z < a + i
      · rw [if_pos q3, if_pos (by omega)]
      · rw [if_neg q3, if_neg (by omega)]
set_option maxRecDepth 100000 in
set_option maxHeartbeats 4000000 in
theorem keep_loop {X : zX} {d : Nat} {f : zM} {k a len : Nat} (C : zC X cX10_keep yX10_keep.cls d) (hn : znL X = 3) (h9 : 0 < zcnt k) (hs : zshp k = .inr (0, len, none)) (h1 : k ≠ 25) (h2 : k ≠ 39) (ha : a + len ≤ 320) (kk : Z X 36 [some (zr 25 0), some (zr k 0), some (zi (nI len))] [] (zkp f k a len)) :
    ∀ m i : Nat, i + m = len → Z X 2 [some (zr 25 0), some (zr k 0), some (zi (nI i))] [] (zkp f k a i) := by
  intro m
  induction m with
  | zero =>
    intro i hi
    obtain rfl : i = len := by omega
    refine z_iload_n (pc := 2) C dX10_keep_2 rfl ?_
    refine z_aload_n (pc := 3) C dX10_keep_3 rfl ?_
    refine z_alenI (pc := 4) C hs h9 rfl dX10_keep_4 ?_
    exact z_icmp_ge (pc := 5) 36 C dX10_keep_5 (by decide) (fun _ => kk) (fun h => absurd (Int32.le_refl _) h)
  | succ m ih =>
    intro i hi
    refine z_iload_n (pc := 2) C dX10_keep_2 rfl ?_
    refine z_aload_n (pc := 3) C dX10_keep_3 rfl ?_
    refine z_alenI (pc := 4) (v := nI len) C hs h9 rfl dX10_keep_4 ?_
    refine z_icmp_ge (pc := 5) 36 C dX10_keep_5 (by decide) (fun h => absurd h (nI_ge (by omega) (by omega))) (fun _ => ?_)
    have e1 : zkp f k a i 25 0 24 = nI (a + i) := by unfold zkp; rw [if_pos ⟨rfl, rfl, rfl⟩]
    refine z_aload_n (pc := 8) C dX10_keep_8 rfl ?_
    refine z_getR (pc := 9) C zf_X10_49 rfl rfl (by decide) dX10_keep_9 ?_
    refine z_aload_n (pc := 12) C dX10_keep_12 rfl ?_
    refine z_getI (pc := 13) C zf_X10_252 rfl rfl (by decide) dX10_keep_13 ?_
    refine z_aload_n (pc := 16) C dX10_keep_16 rfl ?_
    refine z_iload_n (pc := 17) C dX10_keep_17 rfl ?_
    refine z_iald (pc := 18) C hs h9 (nI_in (by omega) (by omega)) dX10_keep_18 ?_
    rw [e1, nI_clamp (show i < 2 ^ 31 by omega)]
    refine z_iast (pc := 19) C rfl (by decide) (nI_in (N := 320) (by omega) (by omega)) dX10_keep_19 ?_
    refine z_aload_n (pc := 20) C dX10_keep_20 rfl ?_
    refine z_dupr (pc := 21) C dX10_keep_21 ?_
    refine z_getI (pc := 22) C zf_X10_252 rfl rfl (by decide) dX10_keep_22 ?_
    refine z_iconst (pc := 25) (v := 1) C dX10_keep_25 (by decide) ?_
    refine z_iadd (pc := 26) C dX10_keep_26 ?_
    refine z_putI (pc := 27) C zf_X10_252 zp_10_24 rfl rfl (by decide) dX10_keep_27 ?_
    rw [zup_ne _ _ (by omega), e1, nI_clamp (show a + i < 2 ^ 31 by omega), zkp_s h1 h2]
    refine z_iinc (pc := 30) (v := 1) C dX10_keep_30 rfl (by decide) (by rw [hn]; decide) rfl ?_
    rw [← nI_succ]
    refine z_goto (pc := 33) 2 C dX10_keep_33 (by decide) ?_
    exact ih (i + 1) (by omega)
set_option maxRecDepth 100000 in
set_option maxHeartbeats 4000000 in
theorem m_X10_keep (d : Nat) (f : zM) (k a len : Nat) (h9 : 0 < zcnt k) (hs : zshp k = .inr (0, len, none)) (h1 : k ≠ 25) (h2 : k ≠ 39) (ha : a + len ≤ 320) (h0 : f 25 0 24 = nI a) : ZM d yX10_keep cX10_keep 3 none [zr 25 0, zr k 0] f (fun r g => r = none ∧ g = zkp f k a len) := by
  refine ZM.intro (by decide +kernel) (Nat.le_of_ble_eq_true rfl) ?_
  intro X C hr hn
  show Z X 0 [some (zr 25 0), some (zr k 0), none] [] f
  refine z_iconst (pc := 0) (v := 0) C dX10_keep_0 (by decide) ?_
  refine z_istore_n (pc := 1) C dX10_keep_1 (by rw [hn]; decide) rfl ?_
  have := keep_loop (f := f) C hn h9 hs h1 h2 ha (z_vret (pc := 36) C hr dX10_keep_36 ⟨rfl, rfl⟩) len 0 (by omega)
  rw [zkp_0 h0] at this
  exact this
def zim (f : zM) : zM := zup (zkp (zkp (zkp (zkp (zkp (zkp (zup (zup (zup (zup (zup f 25 0 24 0) 40 0 0 (f 25 0 0)) 40 0 1 (f 25 0 2)) 40 0 2 (f 25 0 4)) 40 0 3 (f 25 0 6)) 40 0 4) 26 4 144) 27 148 40) 28 188 96) 29 284 24) 30 308 7) 25 0 22 1
set_option maxRecDepth 100000 in
set_option maxHeartbeats 4000000 in
theorem m_X10_image (d : Nat) (f : zM) : ZM (d + 1) yX10_image cX10_image 1 (some .int) [zr 25 0] f (fun r g => r = some (zi 1) ∧ g = zim f) := by
  refine ZM.intro (by decide +kernel) (Nat.le_of_ble_eq_true rfl) ?_
  intro X C hr hn
  show Z X 0 [some (zr 25 0)] [] f
  refine z_aload_n (pc := 0) C dX10_image_0 rfl ?_
  refine z_iconst (pc := 1) (v := 0) C dX10_image_1 (by decide) ?_
  refine z_putI (pc := 2) C zf_X10_252 zp_10_24 rfl rfl (by decide) dX10_image_2 ?_
  refine z_aload_n (pc := 5) C dX10_image_5 rfl ?_
  refine z_getR (pc := 6) C zf_X10_52 rfl rfl (by decide) dX10_image_6 ?_
  refine z_iconst (pc := 9) (v := 0) C dX10_image_9 (by decide) ?_
  refine z_aload_n (pc := 10) C dX10_image_10 rfl ?_
  refine z_getI (pc := 11) C zf_X10_80 rfl rfl (by decide) dX10_image_11 ?_
  refine z_iast (pc := 14) C rfl (by decide) (zvp rfl) dX10_image_14 ?_
  refine z_aload_n (pc := 15) C dX10_image_15 rfl ?_
  refine z_getR (pc := 16) C zf_X10_52 rfl rfl (by decide) dX10_image_16 ?_
  refine z_iconst (pc := 19) (v := 1) C dX10_image_19 (by decide) ?_
  refine z_aload_n (pc := 20) C dX10_image_20 rfl ?_
  refine z_getI (pc := 21) C zf_X10_73 rfl rfl (by decide) dX10_image_21 ?_
  refine z_iast (pc := 24) C rfl (by decide) (zvp rfl) dX10_image_24 ?_
  refine z_aload_n (pc := 25) C dX10_image_25 rfl ?_
  refine z_getR (pc := 26) C zf_X10_52 rfl rfl (by decide) dX10_image_26 ?_
  refine z_iconst (pc := 29) (v := 2) C dX10_image_29 (by decide) ?_
  refine z_aload_n (pc := 30) C dX10_image_30 rfl ?_
  refine z_getI (pc := 31) C zf_X10_77 rfl rfl (by decide) dX10_image_31 ?_
  refine z_iast (pc := 34) C rfl (by decide) (zvp rfl) dX10_image_34 ?_
  refine z_aload_n (pc := 35) C dX10_image_35 rfl ?_
  refine z_getR (pc := 36) C zf_X10_52 rfl rfl (by decide) dX10_image_36 ?_
  refine z_iconst (pc := 39) (v := 3) C dX10_image_39 (by decide) ?_
  refine z_aload_n (pc := 40) C dX10_image_40 rfl ?_
  refine z_getI (pc := 41) C zf_X10_126 rfl rfl (by decide) dX10_image_41 ?_
  refine z_iast (pc := 44) C rfl (by decide) (zvp rfl) dX10_image_44 ?_
  refine z_aload_n (pc := 45) C dX10_image_45 rfl ?_
  refine z_aload_n (pc := 46) C dX10_image_46 rfl ?_
  refine z_getR (pc := 47) C zf_X10_52 rfl rfl (by decide) dX10_image_47 ?_
  refine z_callVx (pc := 50) C zk_X10_255 (m_X10_keep _ _ 40 0 4 (by decide) rfl (by decide) (by decide) (by decide) rfl) rfl rfl (by decide) rfl rfl (Nat.le_of_ble_eq_true rfl) dX10_image_50 ?_
  simp only [Option.toList, List.cons_append, List.nil_append]
  refine z_aload_n (pc := 53) C dX10_image_53 rfl ?_
  refine z_aload_n (pc := 54) C dX10_image_54 rfl ?_
  refine z_getR (pc := 55) C zf_X10_7 rfl rfl (by decide) dX10_image_55 ?_
  refine z_callVx (pc := 58) C zk_X10_255 (m_X10_keep _ _ 26 4 144 (by decide) rfl (by decide) (by decide) (by decide) rfl) rfl rfl (by decide) rfl rfl (Nat.le_of_ble_eq_true rfl) dX10_image_58 ?_
  simp only [Option.toList, List.cons_append, List.nil_append]
  refine z_aload_n (pc := 61) C dX10_image_61 rfl ?_
  refine z_aload_n (pc := 62) C dX10_image_62 rfl ?_
  refine z_getR (pc := 63) C zf_X10_13 rfl rfl (by decide) dX10_image_63 ?_
  refine z_callVx (pc := 66) C zk_X10_255 (m_X10_keep _ _ 27 148 40 (by decide) rfl (by decide) (by decide) (by decide) rfl) rfl rfl (by decide) rfl rfl (Nat.le_of_ble_eq_true rfl) dX10_image_66 ?_
  simp only [Option.toList, List.cons_append, List.nil_append]
  refine z_aload_n (pc := 69) C dX10_image_69 rfl ?_
  refine z_aload_n (pc := 70) C dX10_image_70 rfl ?_
  refine z_getR (pc := 71) C zf_X10_16 rfl rfl (by decide) dX10_image_71 ?_
  refine z_callVx (pc := 74) C zk_X10_255 (m_X10_keep _ _ 28 188 96 (by decide) rfl (by decide) (by decide) (by decide) rfl) rfl rfl (by decide) rfl rfl (Nat.le_of_ble_eq_true rfl) dX10_image_74 ?_
  simp only [Option.toList, List.cons_append, List.nil_append]
  refine z_aload_n (pc := 77) C dX10_image_77 rfl ?_
  refine z_aload_n (pc := 78) C dX10_image_78 rfl ?_
  refine z_getR (pc := 79) C zf_X10_19 rfl rfl (by decide) dX10_image_79 ?_
  refine z_callVx (pc := 82) C zk_X10_255 (m_X10_keep _ _ 29 284 24 (by decide) rfl (by decide) (by decide) (by decide) rfl) rfl rfl (by decide) rfl rfl (Nat.le_of_ble_eq_true rfl) dX10_image_82 ?_
  simp only [Option.toList, List.cons_append, List.nil_append]
  refine z_aload_n (pc := 85) C dX10_image_85 rfl ?_
  refine z_aload_n (pc := 86) C dX10_image_86 rfl ?_
  refine z_getR (pc := 87) C zf_X10_22 rfl rfl (by decide) dX10_image_87 ?_
  refine z_callVx (pc := 90) C zk_X10_255 (m_X10_keep _ _ 30 308 7 (by decide) rfl (by decide) (by decide) (by decide) rfl) rfl rfl (by decide) rfl rfl (Nat.le_of_ble_eq_true rfl) dX10_image_90 ?_
  simp only [Option.toList, List.cons_append, List.nil_append]
  refine z_aload_n (pc := 93) C dX10_image_93 rfl ?_
  refine z_iconst (pc := 94) (v := 1) C dX10_image_94 (by decide) ?_
  refine z_putZ (pc := 95) C zf_X10_259 zp_10_22 (by decide) rfl rfl (by decide) dX10_image_95 ?_
  refine z_iconst (pc := 98) (v := 1) C dX10_image_98 (by decide) ?_
  exact z_iret (pc := 99) C hr dX10_image_99 (⟨rfl, rfl⟩)
/-- a byte of a long, as the reference takes it -/
def zbm (w : Int64) (i : Int32) : Int64 := w >>> ((8 * i).toInt64 &&& 63) &&& 255
theorem zb255 (n i : Nat) (hn : 8 ≤ n) : (BitVec.ofNat n 255).getLsbD i = decide (i < 8) := by
  rw [BitVec.getLsbD_ofNat]
  by_cases hi : i < 8
  · rw [(by decide : ∀ q : Fin 8, Nat.testBit 255 q.val = true) ⟨i, hi⟩, decide_eq_true hi, decide_eq_true (show i < n by omega)]; rfl
  · rw [Nat.testBit_lt_two_pow (Nat.lt_of_lt_of_le (show 255 < 2 ^ 8 by decide) (Nat.pow_le_pow_right (by decide) (by omega)))]
    simp [hi]
theorem zb_s (b : BitVec 64) (s : Nat) (hs : s ≤ 56) : b.sshiftRight s &&& 255#64 = b >>> s &&& 255#64 := by
  apply BitVec.eq_of_getLsbD_eq
  intro i hi
  rw [BitVec.getLsbD_and, BitVec.getLsbD_and, zb255 64 i (by decide), BitVec.getLsbD_sshiftRight, BitVec.getLsbD_ushiftRight]
  by_cases h : i < 8
  · rw [if_pos (by omega)]
    simp [h]
    omega
  · simp [h]
theorem zb_u (b : BitVec 64) (s : Nat) : (b >>> s &&& 255#64).toNat = b.toNat >>> s % 256 := by
  rw [BitVec.toNat_and, BitVec.toNat_ushiftRight]
  exact Nat.and_two_pow_sub_one_eq_mod _ 8
theorem zb_t (b : BitVec 64) (s : Nat) : ((b >>> s).signExtend 32 &&& 255#32).toNat = b.toNat >>> s % 256 := by
  rw [BitVec.signExtend_eq_setWidth_of_le _ (by decide), BitVec.toNat_and, BitVec.toNat_setWidth, BitVec.toNat_ushiftRight]
  rw [show (255#32).toNat = 2 ^ 8 - 1 from rfl, Nat.and_two_pow_sub_one_eq_mod]
  exact Nat.mod_mod_of_dvd _ (by decide)
theorem zbm_bv (w : Int64) (i : Nat) (hi : i < 8) : (zbm w (nI i)).toBitVec = w.toBitVec.sshiftRight (8 * i) &&& 255#64 := by
  rcases (show i = 0 ∨ i = 1 ∨ i = 2 ∨ i = 3 ∨ i = 4 ∨ i = 5 ∨ i = 6 ∨ i = 7 by omega) with rfl | rfl | rfl | rfl | rfl | rfl | rfl | rfl <;> rfl
theorem zby_bv (w : Int64) (i : Nat) (hi : i < 8) : (zby w (nI i)).toBitVec = (w.toBitVec >>> (8 * i)).signExtend 32 &&& 255#32 := by
  rcases (show i = 0 ∨ i = 1 ∨ i = 2 ∨ i = 3 ∨ i = 4 ∨ i = 5 ∨ i = 6 ∨ i = 7 by omega) with rfl | rfl | rfl | rfl | rfl | rfl | rfl | rfl <;> rfl
theorem zbm_int (w : Int64) (i : Nat) (hi : i < 8) : (zbm w (nI i)).toInt = ((w.toBitVec.toNat >>> (8 * i) % 256 : Nat) : Int) := by
  show (zbm w (nI i)).toBitVec.toInt = _
  rw [zbm_bv w i hi, zb_s _ _ (by omega), BitVec.toInt_eq_toNat_of_lt (by rw [zb_u]; omega), zb_u]
theorem zby_int (w : Int64) (i : Nat) (hi : i < 8) : (zby w (nI i)).toInt = ((w.toBitVec.toNat >>> (8 * i) % 256 : Nat) : Int) := by
  show (zby w (nI i)).toBitVec.toInt = _
  rw [zby_bv w i hi, BitVec.toInt_eq_toNat_of_lt (by rw [zb_t]; omega), zb_t]
theorem zbm_ok (w : Int64) (i : Nat) (hi : i < 8) : zbyok w i ↔ (32 : Int64).toInt ≤ (zbm w (nI i)).toInt ∧ (zbm w (nI i)).toInt ≤ (126 : Int64).toInt := by
  unfold zbyok
  rw [zby_int w i hi, zbm_int w i hi]
  exact Iff.rfl
