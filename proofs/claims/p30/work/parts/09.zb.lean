section ZB
variable {X : zX} {cc : ByteArray} {own : String} {d : Nat} {pc : Nat} {L : List (Option zV)} {st stk : List zV} {f : zM} {y : MethodName} {cy : ByteArray} {nLy idx n : Nat} {rty : Option FieldType} {as : List zV}
/-- an answer that is a truth value: two roads -/
theorem z_callVb {k nn ci : Nat} {fds : List zFd} {P : Prop} {dP : Decidable P} {f' : zM} (C : zC X cc own (d + 1)) (hw : zCv own idx y cy nLy rty n) (hM : ZM d y cy nLy rty (zr k nn :: as) f (fun r' g => r' = some (zi (if P then 1 else 0)) ∧ g = f')) (hs : zshp k = .inl (ci, fds)) (hci : (vwCl[ci]?).map (fun q => q.1) = some y.cls) (hnn : nn < zcnt k) (hn : as.length = n) (hst : stk = as.reverse ++ zr k nn :: st) (hW : zsz st ≤ 8) (hd : decode cc pc = .ok (.invokevirtual idx, 3))
    (k1 : P → Z X (pc + 3) L (zi 1 :: st) f') (k0 : ¬ P → Z X (pc + 3) L (zi 0 :: st) f') : Z X pc L stk f := z_callV C hw hM hs hci hnn hn hst hW hd (fun r2 f2 h => by
  obtain ⟨rfl, rfl⟩ := h
  by_cases hP : P
  · simpa [hP] using k1 hP
  · simpa [hP] using k0 hP)
theorem z_callSb {P : Prop} {dP : Decidable P} {f' : zM} (C : zC X cc own (d + 1)) (hw : zCs own idx y cy nLy rty n) (hM : ZM d y cy nLy rty as f (fun r' g => r' = some (zi (if P then 1 else 0)) ∧ g = f')) (hn : as.length = n) (hst : stk = as.reverse ++ st) (hW : zsz st ≤ 8) (hd : decode cc pc = .ok (.invokestatic idx, 3))
    (k1 : P → Z X (pc + 3) L (zi 1 :: st) f') (k0 : ¬ P → Z X (pc + 3) L (zi 0 :: st) f') : Z X pc L stk f := z_callS C hw hM hn hst hW hd (fun r2 f2 h => by
  obtain ⟨rfl, rfl⟩ := h
  by_cases hP : P
  · simpa [hP] using k1 hP
  · simpa [hP] using k0 hP)
end ZB
theorem z32lt (x y : Int32) : x < y ↔ x.toInt < y.toInt := Int32.lt_iff_toInt_lt
theorem z32le (x y : Int32) : x ≤ y ↔ x.toInt ≤ y.toInt := Int32.le_iff_toInt_le
theorem z32eq (x y : Int32) : x = y ↔ x.toInt = y.toInt := Int32.toInt_inj.symm

set_option maxRecDepth 100000 in
set_option maxHeartbeats 4000000 in
theorem m_X9_isLand (d : Nat) (f : zM) (x : Int32) : ZM d yX9_isLand cX9_isLand 1 (some .boolean) [zi x] f (fun r g => r = some (zi (if 0 ≤ x.toInt ∧ x.toInt ≤ 5 then 1 else 0)) ∧ g = f) := by
  refine ZM.intro (by decide +kernel) (Nat.le_of_ble_eq_true rfl) ?_
  intro X C hr hn
  show Z X 0 [some (zi x)] [] f
  refine z_iload_n (pc := 0) C dX9_isLand_0 rfl ?_
  refine z_if_lt (pc := 1) 14 C dX9_isLand_1 (by decide) (fun h1 => ?_) (fun h1 => ?_)
  · skip
    refine z_iconst (pc := 14) (v := 0) C dX9_isLand_14 (by decide) ?_
    exact z_zret (pc := 15) C hr (by decide) dX9_isLand_15 (⟨by congr 2; rw [eq_comm]; first | (rw [if_pos (by simp only [z32lt, z32le, z32eq, Int32.reduceToInt, Int32.toInt_zero, Int32.toInt_one] at *; omega)]; done) | (rw [if_neg (by simp only [z32lt, z32le, z32eq, Int32.reduceToInt, Int32.toInt_zero, Int32.toInt_one] at *; omega)]; done), rfl⟩)
  · skip
    refine z_iload_n (pc := 4) C dX9_isLand_4 rfl ?_
    refine z_bipush (pc := 5) (v := 6) C dX9_isLand_5 (by decide) ?_
    refine z_icmp_ge (pc := 7) 14 C dX9_isLand_7 (by decide) (fun h7 => ?_) (fun h7 => ?_)
    · skip
      refine z_iconst (pc := 14) (v := 0) C dX9_isLand_14 (by decide) ?_
      exact z_zret (pc := 15) C hr (by decide) dX9_isLand_15 (⟨by congr 2; rw [eq_comm]; first | (rw [if_pos (by simp only [z32lt, z32le, z32eq, Int32.reduceToInt, Int32.toInt_zero, Int32.toInt_one] at *; omega)]; done) | (rw [if_neg (by simp only [z32lt, z32le, z32eq, Int32.reduceToInt, Int32.toInt_zero, Int32.toInt_one] at *; omega)]; done), rfl⟩)
    · skip
      refine z_iconst (pc := 10) (v := 1) C dX9_isLand_10 (by decide) ?_
      refine z_goto (pc := 11) 15 C dX9_isLand_11 (by decide) ?_
      exact z_zret (pc := 15) C hr (by decide) dX9_isLand_15 (⟨by congr 2; rw [eq_comm]; first | (rw [if_pos (by simp only [z32lt, z32le, z32eq, Int32.reduceToInt, Int32.toInt_zero, Int32.toInt_one] at *; omega)]; done) | (rw [if_neg (by simp only [z32lt, z32le, z32eq, Int32.reduceToInt, Int32.toInt_zero, Int32.toInt_one] at *; omega)]; done), rfl⟩)

set_option maxRecDepth 100000 in
set_option maxHeartbeats 4000000 in
theorem m_X9_isYear (d : Nat) (f : zM) (x : Int32) : ZM d yX9_isYear cX9_isYear 1 (some .boolean) [zi x] f (fun r g => r = some (zi (if 0 ≤ x.toInt ∧ x.toInt ≤ 99 then 1 else 0)) ∧ g = f) := by
  refine ZM.intro (by decide +kernel) (Nat.le_of_ble_eq_true rfl) ?_
  intro X C hr hn
  show Z X 0 [some (zi x)] [] f
  refine z_iload_n (pc := 0) C dX9_isYear_0 rfl ?_
  refine z_if_lt (pc := 1) 14 C dX9_isYear_1 (by decide) (fun h1 => ?_) (fun h1 => ?_)
  · skip
    refine z_iconst (pc := 14) (v := 0) C dX9_isYear_14 (by decide) ?_
    exact z_zret (pc := 15) C hr (by decide) dX9_isYear_15 (⟨by congr 2; rw [eq_comm]; first | (rw [if_pos (by simp only [z32lt, z32le, z32eq, Int32.reduceToInt, Int32.toInt_zero, Int32.toInt_one] at *; omega)]; done) | (rw [if_neg (by simp only [z32lt, z32le, z32eq, Int32.reduceToInt, Int32.toInt_zero, Int32.toInt_one] at *; omega)]; done), rfl⟩)
  · skip
    refine z_iload_n (pc := 4) C dX9_isYear_4 rfl ?_
    refine z_bipush (pc := 5) (v := 99) C dX9_isYear_5 (by decide) ?_
    refine z_icmp_gt (pc := 7) 14 C dX9_isYear_7 (by decide) (fun h7 => ?_) (fun h7 => ?_)
    · skip
      refine z_iconst (pc := 14) (v := 0) C dX9_isYear_14 (by decide) ?_
      exact z_zret (pc := 15) C hr (by decide) dX9_isYear_15 (⟨by congr 2; rw [eq_comm]; first | (rw [if_pos (by simp only [z32lt, z32le, z32eq, Int32.reduceToInt, Int32.toInt_zero, Int32.toInt_one] at *; omega)]; done) | (rw [if_neg (by simp only [z32lt, z32le, z32eq, Int32.reduceToInt, Int32.toInt_zero, Int32.toInt_one] at *; omega)]; done), rfl⟩)
    · skip
      refine z_iconst (pc := 10) (v := 1) C dX9_isYear_10 (by decide) ?_
      refine z_goto (pc := 11) 15 C dX9_isYear_11 (by decide) ?_
      exact z_zret (pc := 15) C hr (by decide) dX9_isYear_15 (⟨by congr 2; rw [eq_comm]; first | (rw [if_pos (by simp only [z32lt, z32le, z32eq, Int32.reduceToInt, Int32.toInt_zero, Int32.toInt_one] at *; omega)]; done) | (rw [if_neg (by simp only [z32lt, z32le, z32eq, Int32.reduceToInt, Int32.toInt_zero, Int32.toInt_one] at *; omega)]; done), rfl⟩)

set_option maxRecDepth 100000 in
set_option maxHeartbeats 4000000 in
theorem m_X9_isSheet (d : Nat) (f : zM) (x : Int32) : ZM d yX9_isSheet cX9_isSheet 1 (some .boolean) [zi x] f (fun r g => r = some (zi (if 0 ≤ x.toInt ∧ x.toInt ≤ 3 then 1 else 0)) ∧ g = f) := by
  refine ZM.intro (by decide +kernel) (Nat.le_of_ble_eq_true rfl) ?_
  intro X C hr hn
  show Z X 0 [some (zi x)] [] f
  refine z_iload_n (pc := 0) C dX9_isSheet_0 rfl ?_
  refine z_if_lt (pc := 1) 13 C dX9_isSheet_1 (by decide) (fun h1 => ?_) (fun h1 => ?_)
  · skip
    refine z_iconst (pc := 13) (v := 0) C dX9_isSheet_13 (by decide) ?_
    exact z_zret (pc := 14) C hr (by decide) dX9_isSheet_14 (⟨by congr 2; rw [eq_comm]; first | (rw [if_pos (by simp only [z32lt, z32le, z32eq, Int32.reduceToInt, Int32.toInt_zero, Int32.toInt_one] at *; omega)]; done) | (rw [if_neg (by simp only [z32lt, z32le, z32eq, Int32.reduceToInt, Int32.toInt_zero, Int32.toInt_one] at *; omega)]; done), rfl⟩)
  · skip
    refine z_iload_n (pc := 4) C dX9_isSheet_4 rfl ?_
    refine z_iconst (pc := 5) (v := 4) C dX9_isSheet_5 (by decide) ?_
    refine z_icmp_ge (pc := 6) 13 C dX9_isSheet_6 (by decide) (fun h6 => ?_) (fun h6 => ?_)
    · skip
      refine z_iconst (pc := 13) (v := 0) C dX9_isSheet_13 (by decide) ?_
      exact z_zret (pc := 14) C hr (by decide) dX9_isSheet_14 (⟨by congr 2; rw [eq_comm]; first | (rw [if_pos (by simp only [z32lt, z32le, z32eq, Int32.reduceToInt, Int32.toInt_zero, Int32.toInt_one] at *; omega)]; done) | (rw [if_neg (by simp only [z32lt, z32le, z32eq, Int32.reduceToInt, Int32.toInt_zero, Int32.toInt_one] at *; omega)]; done), rfl⟩)
    · skip
      refine z_iconst (pc := 9) (v := 1) C dX9_isSheet_9 (by decide) ?_
      refine z_goto (pc := 10) 14 C dX9_isSheet_10 (by decide) ?_
      exact z_zret (pc := 14) C hr (by decide) dX9_isSheet_14 (⟨by congr 2; rw [eq_comm]; first | (rw [if_pos (by simp only [z32lt, z32le, z32eq, Int32.reduceToInt, Int32.toInt_zero, Int32.toInt_one] at *; omega)]; done) | (rw [if_neg (by simp only [z32lt, z32le, z32eq, Int32.reduceToInt, Int32.toInt_zero, Int32.toInt_one] at *; omega)]; done), rfl⟩)

set_option maxRecDepth 100000 in
set_option maxHeartbeats 4000000 in
theorem m_X9_isLane (d : Nat) (f : zM) (x : Int32) : ZM d yX9_isLane cX9_isLane 1 (some .boolean) [zi x] f (fun r g => r = some (zi (if 0 ≤ x.toInt ∧ x.toInt ≤ 2 then 1 else 0)) ∧ g = f) := by
  refine ZM.intro (by decide +kernel) (Nat.le_of_ble_eq_true rfl) ?_
  intro X C hr hn
  show Z X 0 [some (zi x)] [] f
  refine z_iload_n (pc := 0) C dX9_isLane_0 rfl ?_
  refine z_if_lt (pc := 1) 13 C dX9_isLane_1 (by decide) (fun h1 => ?_) (fun h1 => ?_)
  · skip
    refine z_iconst (pc := 13) (v := 0) C dX9_isLane_13 (by decide) ?_
    exact z_zret (pc := 14) C hr (by decide) dX9_isLane_14 (⟨by congr 2; rw [eq_comm]; first | (rw [if_pos (by simp only [z32lt, z32le, z32eq, Int32.reduceToInt, Int32.toInt_zero, Int32.toInt_one] at *; omega)]; done) | (rw [if_neg (by simp only [z32lt, z32le, z32eq, Int32.reduceToInt, Int32.toInt_zero, Int32.toInt_one] at *; omega)]; done), rfl⟩)
  · skip
    refine z_iload_n (pc := 4) C dX9_isLane_4 rfl ?_
    refine z_iconst (pc := 5) (v := 3) C dX9_isLane_5 (by decide) ?_
    refine z_icmp_ge (pc := 6) 13 C dX9_isLane_6 (by decide) (fun h6 => ?_) (fun h6 => ?_)
    · skip
      refine z_iconst (pc := 13) (v := 0) C dX9_isLane_13 (by decide) ?_
      exact z_zret (pc := 14) C hr (by decide) dX9_isLane_14 (⟨by congr 2; rw [eq_comm]; first | (rw [if_pos (by simp only [z32lt, z32le, z32eq, Int32.reduceToInt, Int32.toInt_zero, Int32.toInt_one] at *; omega)]; done) | (rw [if_neg (by simp only [z32lt, z32le, z32eq, Int32.reduceToInt, Int32.toInt_zero, Int32.toInt_one] at *; omega)]; done), rfl⟩)
    · skip
      refine z_iconst (pc := 9) (v := 1) C dX9_isLane_9 (by decide) ?_
      refine z_goto (pc := 10) 14 C dX9_isLane_10 (by decide) ?_
      exact z_zret (pc := 14) C hr (by decide) dX9_isLane_14 (⟨by congr 2; rw [eq_comm]; first | (rw [if_pos (by simp only [z32lt, z32le, z32eq, Int32.reduceToInt, Int32.toInt_zero, Int32.toInt_one] at *; omega)]; done) | (rw [if_neg (by simp only [z32lt, z32le, z32eq, Int32.reduceToInt, Int32.toInt_zero, Int32.toInt_one] at *; omega)]; done), rfl⟩)

set_option maxRecDepth 100000 in
set_option maxHeartbeats 4000000 in
theorem m_X9_isDeed (d : Nat) (f : zM) (x : Int32) : ZM d yX9_isDeed cX9_isDeed 2 (some .boolean) [zr 0 0, zi x] f (fun r g => r = some (zi (if 0 ≤ x.toInt ∧ x.toInt < (f 1 0 6).toInt then 1 else 0)) ∧ g = f) := by
  refine ZM.intro (by decide +kernel) (Nat.le_of_ble_eq_true rfl) ?_
  intro X C hr hn
  show Z X 0 [some (zr 0 0), some (zi x)] [] f
  refine z_iload_n (pc := 0) C dX9_isDeed_0 rfl ?_
  refine z_if_lt (pc := 1) 19 C dX9_isDeed_1 (by decide) (fun h1 => ?_) (fun h1 => ?_)
  · skip
    refine z_iconst (pc := 19) (v := 0) C dX9_isDeed_19 (by decide) ?_
    exact z_zret (pc := 20) C hr (by decide) dX9_isDeed_20 (⟨by congr 2; rw [eq_comm]; first | (rw [if_pos (by simp only [z32lt, z32le, z32eq, Int32.reduceToInt, Int32.toInt_zero, Int32.toInt_one] at *; omega)]; done) | (rw [if_neg (by simp only [z32lt, z32le, z32eq, Int32.reduceToInt, Int32.toInt_zero, Int32.toInt_one] at *; omega)]; done), rfl⟩)
  · skip
    refine z_iload_n (pc := 4) C dX9_isDeed_4 rfl ?_
    refine z_aload_n (pc := 5) C dX9_isDeed_5 rfl ?_
    refine z_getR (pc := 6) C zf_X9_10 rfl rfl (by decide) dX9_isDeed_6 ?_
    refine z_getI (pc := 9) C zf_X9_71 rfl rfl (by decide) dX9_isDeed_9 ?_
    refine z_icmp_ge (pc := 12) 19 C dX9_isDeed_12 (by decide) (fun h12 => ?_) (fun h12 => ?_)
    · skip
      refine z_iconst (pc := 19) (v := 0) C dX9_isDeed_19 (by decide) ?_
      exact z_zret (pc := 20) C hr (by decide) dX9_isDeed_20 (⟨by congr 2; rw [eq_comm]; first | (rw [if_pos (by simp only [z32lt, z32le, z32eq, Int32.reduceToInt, Int32.toInt_zero, Int32.toInt_one] at *; omega)]; done) | (rw [if_neg (by simp only [z32lt, z32le, z32eq, Int32.reduceToInt, Int32.toInt_zero, Int32.toInt_one] at *; omega)]; done), rfl⟩)
    · skip
      refine z_iconst (pc := 15) (v := 1) C dX9_isDeed_15 (by decide) ?_
      refine z_goto (pc := 16) 20 C dX9_isDeed_16 (by decide) ?_
      exact z_zret (pc := 20) C hr (by decide) dX9_isDeed_20 (⟨by congr 2; rw [eq_comm]; first | (rw [if_pos (by simp only [z32lt, z32le, z32eq, Int32.reduceToInt, Int32.toInt_zero, Int32.toInt_one] at *; omega)]; done) | (rw [if_neg (by simp only [z32lt, z32le, z32eq, Int32.reduceToInt, Int32.toInt_zero, Int32.toInt_one] at *; omega)]; done), rfl⟩)

set_option maxRecDepth 100000 in
set_option maxHeartbeats 4000000 in
theorem m_X9_isPaper (d : Nat) (f : zM) (x : Int32) : ZM d yX9_isPaper cX9_isPaper 2 (some .boolean) [zr 0 0, zi x] f (fun r g => r = some (zi (if 0 ≤ x.toInt ∧ x.toInt < (f 1 0 7).toInt then 1 else 0)) ∧ g = f) := by
  refine ZM.intro (by decide +kernel) (Nat.le_of_ble_eq_true rfl) ?_
  intro X C hr hn
  show Z X 0 [some (zr 0 0), some (zi x)] [] f
  refine z_iload_n (pc := 0) C dX9_isPaper_0 rfl ?_
  refine z_if_lt (pc := 1) 19 C dX9_isPaper_1 (by decide) (fun h1 => ?_) (fun h1 => ?_)
  · skip
    refine z_iconst (pc := 19) (v := 0) C dX9_isPaper_19 (by decide) ?_
    exact z_zret (pc := 20) C hr (by decide) dX9_isPaper_20 (⟨by congr 2; rw [eq_comm]; first | (rw [if_pos (by simp only [z32lt, z32le, z32eq, Int32.reduceToInt, Int32.toInt_zero, Int32.toInt_one] at *; omega)]; done) | (rw [if_neg (by simp only [z32lt, z32le, z32eq, Int32.reduceToInt, Int32.toInt_zero, Int32.toInt_one] at *; omega)]; done), rfl⟩)
  · skip
    refine z_iload_n (pc := 4) C dX9_isPaper_4 rfl ?_
    refine z_aload_n (pc := 5) C dX9_isPaper_5 rfl ?_
    refine z_getR (pc := 6) C zf_X9_10 rfl rfl (by decide) dX9_isPaper_6 ?_
    refine z_getI (pc := 9) C zf_X9_119 rfl rfl (by decide) dX9_isPaper_9 ?_
    refine z_icmp_ge (pc := 12) 19 C dX9_isPaper_12 (by decide) (fun h12 => ?_) (fun h12 => ?_)
    · skip
      refine z_iconst (pc := 19) (v := 0) C dX9_isPaper_19 (by decide) ?_
      exact z_zret (pc := 20) C hr (by decide) dX9_isPaper_20 (⟨by congr 2; rw [eq_comm]; first | (rw [if_pos (by simp only [z32lt, z32le, z32eq, Int32.reduceToInt, Int32.toInt_zero, Int32.toInt_one] at *; omega)]; done) | (rw [if_neg (by simp only [z32lt, z32le, z32eq, Int32.reduceToInt, Int32.toInt_zero, Int32.toInt_one] at *; omega)]; done), rfl⟩)
    · skip
      refine z_iconst (pc := 15) (v := 1) C dX9_isPaper_15 (by decide) ?_
      refine z_goto (pc := 16) 20 C dX9_isPaper_16 (by decide) ?_
      exact z_zret (pc := 20) C hr (by decide) dX9_isPaper_20 (⟨by congr 2; rw [eq_comm]; first | (rw [if_pos (by simp only [z32lt, z32le, z32eq, Int32.reduceToInt, Int32.toInt_zero, Int32.toInt_one] at *; omega)]; done) | (rw [if_neg (by simp only [z32lt, z32le, z32eq, Int32.reduceToInt, Int32.toInt_zero, Int32.toInt_one] at *; omega)]; done), rfl⟩)
