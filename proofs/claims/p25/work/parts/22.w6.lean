set_option maxRecDepth 100000 in
set_option maxHeartbeats 4000000 in
theorem m_X10_isDeed (d : Nat) (f : zM) (x : Int32) (hI : zInv f) : ZM (d + 1) yX10_isDeed cX10_isDeed 2 (some .boolean) [zr 25 0, zi x] f (fun r g => r = some (zi (if 0 ≤ x.toInt ∧ x.toInt < (f 25 0 2).toInt then 1 else 0)) ∧ g = f) := by
  refine ZM.intro (by decide +kernel) (Nat.le_of_ble_eq_true rfl) ?_
  intro X C hr hn
  show Z X 0 [some (zr 25 0), some (zi x)] [] f
  refine z_iload_n (pc := 0) C dX10_isDeed_0 rfl ?_
  refine z_i2l (pc := 1) C dX10_isDeed_1 ?_
  refine z_lconst (pc := 2) (v := 0) C dX10_isDeed_2 (by decide) ?_
  refine z_aload_n (pc := 3) C dX10_isDeed_3 rfl ?_
  refine z_getI (pc := 4) C zf_X10_73 rfl rfl (by decide) dX10_isDeed_4 ?_
  refine z_iconst (pc := 7) (v := 1) C dX10_isDeed_7 (by decide) ?_
  refine z_isub (pc := 8) C dX10_isDeed_8 ?_
  refine z_i2l (pc := 9) C dX10_isDeed_9 ?_
  refine z_callSx (pc := 10) C zk_X10_69 (m_X10_in _ _ _ _ _) rfl rfl (Nat.le_of_ble_eq_true rfl) dX10_isDeed_10 ?_
  simp only [Option.toList, List.cons_append, List.nil_append]
  exact z_zret (pc := 13) C hr (by split <;> simp) dX10_isDeed_13 (⟨by have q := hI 25 0 2; have q1 : 0 ≤ (f 25 0 2).toInt := q.1; have q2 : (f 25 0 2).toInt ≤ 8 := q.2; have e : (f 25 0 2 - 1 : Int32).toInt = (f 25 0 2).toInt - 1 := zsub_e (y := 1) (by show _ ≤ _ - (1 : Int); omega) (by show _ - (1 : Int) ≤ _; omega); congr 2; simp only [z64, e, Int64.toInt_zero]; split <;> split <;> first | rfl | omega, rfl⟩)

set_option maxRecDepth 100000 in
set_option maxHeartbeats 4000000 in
theorem m_X10_isPaper (d : Nat) (f : zM) (x : Int32) (hI : zInv f) : ZM (d + 1) yX10_isPaper cX10_isPaper 2 (some .boolean) [zr 25 0, zi x] f (fun r g => r = some (zi (if 0 ≤ x.toInt ∧ x.toInt < (f 25 0 4).toInt then 1 else 0)) ∧ g = f) := by
  refine ZM.intro (by decide +kernel) (Nat.le_of_ble_eq_true rfl) ?_
  intro X C hr hn
  show Z X 0 [some (zr 25 0), some (zi x)] [] f
  refine z_iload_n (pc := 0) C dX10_isPaper_0 rfl ?_
  refine z_i2l (pc := 1) C dX10_isPaper_1 ?_
  refine z_lconst (pc := 2) (v := 0) C dX10_isPaper_2 (by decide) ?_
  refine z_aload_n (pc := 3) C dX10_isPaper_3 rfl ?_
  refine z_getI (pc := 4) C zf_X10_77 rfl rfl (by decide) dX10_isPaper_4 ?_
  refine z_iconst (pc := 7) (v := 1) C dX10_isPaper_7 (by decide) ?_
  refine z_isub (pc := 8) C dX10_isPaper_8 ?_
  refine z_i2l (pc := 9) C dX10_isPaper_9 ?_
  refine z_callSx (pc := 10) C zk_X10_69 (m_X10_in _ _ _ _ _) rfl rfl (Nat.le_of_ble_eq_true rfl) dX10_isPaper_10 ?_
  simp only [Option.toList, List.cons_append, List.nil_append]
  exact z_zret (pc := 13) C hr (by split <;> simp) dX10_isPaper_13 (⟨by have q := hI 25 0 4; have q1 : 0 ≤ (f 25 0 4).toInt := q.1; have q2 : (f 25 0 4).toInt ≤ 12 := q.2; have e : (f 25 0 4 - 1 : Int32).toInt = (f 25 0 4).toInt - 1 := zsub_e (y := 1) (by show _ ≤ _ - (1 : Int); omega) (by show _ - (1 : Int) ≤ _; omega); congr 2; simp only [z64, e, Int64.toInt_zero]; split <;> split <;> first | rfl | omega, rfl⟩)
