set_option maxRecDepth 100000 in
set_option maxHeartbeats 4000000 in
theorem p_X10_named (d : Nat) (f : zM) (a1 a2 a3 a4 a5 a6 : Int32) : ZM (d + 3) yX10_named cX10_named 9 (some .int) [zr 25 0, zi a1, zi a2, zi a3, zi a4, zi a5, zi a6] (zmix f) (fun r _ => r = some (zi (-1))) := by
  refine ZM.intro (by decide +kernel) (Nat.le_of_ble_eq_true rfl) ?_
  intro X C hr hn
  show Z X 0 [some (zr 25 0), some (zi a1), some (zi a2), some (zi a3), some (zi a4), some (zi a5), some (zi a6), none, none] [] (zmix f)
  refine z_iload_n (pc := 0) C dX10_named_0 rfl ?_
  refine z_iload_n (pc := 1) C dX10_named_1 rfl ?_
  refine z_iload (pc := 2) C dX10_named_2 rfl ?_
  refine z_iload (pc := 4) C dX10_named_4 rfl ?_
  refine z_iload (pc := 6) C dX10_named_6 rfl ?_
  refine z_callSb (pc := 8) C zk_X10_101 (m_X10_mayBe _ _ _ _ _ _ _) rfl rfl (Nat.le_of_ble_eq_true rfl) dX10_named_8 (fun h8 => ?_) (fun h8 => ?_)
  · skip
    refine z_if_eq (pc := 11) 36 C dX10_named_11 (by decide) (fun h11 => absurd h11 (of_decide_eq_true rfl)) (fun h11 => ?_)
    refine z_iload_n (pc := 14) C dX10_named_14 rfl ?_
    refine z_i2l (pc := 15) C dX10_named_15 ?_
    refine z_lconst (pc := 16) (v := 1) C dX10_named_16 (by decide) ?_
    refine z_iconst (pc := 17) (v := 1) C dX10_named_17 (by decide) ?_
    refine z_aload_n (pc := 18) C dX10_named_18 rfl ?_
    refine z_getI (pc := 19) C zf_X10_80 rfl rfl (by decide) dX10_named_19 ?_
    refine z_ishl (pc := 22) C dX10_named_22 ?_
    refine z_iconst (pc := 23) (v := 1) C dX10_named_23 (by decide) ?_
    refine z_isub (pc := 24) C dX10_named_24 ?_
    refine z_i2l (pc := 25) C dX10_named_25 ?_
    refine z_callSx (pc := 26) C zk_X10_69 (m_X10_in _ _ _ _ _) rfl rfl (Nat.le_of_ble_eq_true rfl) dX10_named_26 ?_
    simp only [Option.toList, List.cons_append, List.nil_append]
    refine z_if_eq (pc := 29) 36 C dX10_named_29 (by decide) (fun h29 => ?_) (fun h29 => absurd (by rw [if_neg (by rw [show (1 <<< (zmix f 25 0 0 &&& 31) - 1 : Int32).toInt64.toInt = 0 from by rw [show zmix f 25 0 0 = 0 from rfl]; decide, Int64.toInt_one]; omega)]) h29)
    refine z_iconst (pc := 36) (v := 0) C dX10_named_36 (by decide) ?_
    refine z_istore (pc := 37) C dX10_named_37 (by rw [hn]; decide) rfl ?_
    refine z_iconst (pc := 39) (v := 0) C dX10_named_39 (by decide) ?_
    refine z_istore (pc := 40) C dX10_named_40 (by rw [hn]; decide) rfl ?_
    refine z_iload (pc := 42) C dX10_named_42 rfl ?_
    refine z_aload_n (pc := 44) C dX10_named_44 rfl ?_
    refine z_getI (pc := 45) C zf_X10_80 rfl rfl (by decide) dX10_named_45 ?_
    refine z_icmp_ge (pc := 48) 92 C dX10_named_48 (by decide) (fun h48 => ?_) (fun h48 => absurd (of_decide_eq_true rfl) h48)
    refine z_iload (pc := 92) C dX10_named_92 rfl ?_
    refine z_if_eq (pc := 94) 115 C dX10_named_94 (by decide) (fun h94 => ?_) (fun h94 => absurd (of_decide_eq_true rfl) h94)
    refine z_iconst (pc := 115) (v := -1) C dX10_named_115 (by decide) ?_
    exact z_iret (pc := 116) C hr dX10_named_116 (rfl)
  · skip
    refine z_if_eq (pc := 11) 36 C dX10_named_11 (by decide) (fun h11 => ?_) (fun h11 => absurd (of_decide_eq_true rfl) h11)
    refine z_iconst (pc := 36) (v := 0) C dX10_named_36 (by decide) ?_
    refine z_istore (pc := 37) C dX10_named_37 (by rw [hn]; decide) rfl ?_
    refine z_iconst (pc := 39) (v := 0) C dX10_named_39 (by decide) ?_
    refine z_istore (pc := 40) C dX10_named_40 (by rw [hn]; decide) rfl ?_
    refine z_iload (pc := 42) C dX10_named_42 rfl ?_
    refine z_aload_n (pc := 44) C dX10_named_44 rfl ?_
    refine z_getI (pc := 45) C zf_X10_80 rfl rfl (by decide) dX10_named_45 ?_
    refine z_icmp_ge (pc := 48) 92 C dX10_named_48 (by decide) (fun h48 => ?_) (fun h48 => absurd (of_decide_eq_true rfl) h48)
    refine z_iload (pc := 92) C dX10_named_92 rfl ?_
    refine z_if_eq (pc := 94) 115 C dX10_named_94 (by decide) (fun h94 => ?_) (fun h94 => absurd (of_decide_eq_true rfl) h94)
    refine z_iconst (pc := 115) (v := -1) C dX10_named_115 (by decide) ?_
    exact z_iret (pc := 116) C hr dX10_named_116 (rfl)

set_option maxRecDepth 100000 in
set_option maxHeartbeats 4000000 in
theorem p_X10_crimeOf (d : Nat) (f : zM) (a1 a2 : Int32) : ZM (d + 1) yX10_crimeOf cX10_crimeOf 3 (some .int) [zr 25 0, zi a1, zi a2] (zmix f) (fun r _ => r = some (zi (-1))) := by
  refine ZM.intro (by decide +kernel) (Nat.le_of_ble_eq_true rfl) ?_
  intro X C hr hn
  show Z X 0 [some (zr 25 0), some (zi a1), some (zi a2)] [] (zmix f)
  refine z_iload_n (pc := 0) C dX10_crimeOf_0 rfl ?_
  refine z_i2l (pc := 1) C dX10_crimeOf_1 ?_
  refine z_lconst (pc := 2) (v := 0) C dX10_crimeOf_2 (by decide) ?_
  refine z_aload_n (pc := 3) C dX10_crimeOf_3 rfl ?_
  refine z_getI (pc := 4) C zf_X10_80 rfl rfl (by decide) dX10_crimeOf_4 ?_
  refine z_iconst (pc := 7) (v := 1) C dX10_crimeOf_7 (by decide) ?_
  refine z_isub (pc := 8) C dX10_crimeOf_8 ?_
  refine z_i2l (pc := 9) C dX10_crimeOf_9 ?_
  refine z_callSx (pc := 10) C zk_X10_69 (m_X10_in _ _ _ _ _) rfl rfl (Nat.le_of_ble_eq_true rfl) dX10_crimeOf_10 ?_
  simp only [Option.toList, List.cons_append, List.nil_append]
  refine z_if_eq (pc := 13) 42 C dX10_crimeOf_13 (by decide) (fun h13 => ?_) (fun h13 => absurd (by rw [if_neg (by rw [show (zmix f 25 0 0 - 1 : Int32).toInt64.toInt = -1 from rfl, Int64.toInt_zero]; omega)]) h13)
  refine z_iconst (pc := 42) (v := -1) C dX10_crimeOf_42 (by decide) ?_
  exact z_iret (pc := 43) C hr dX10_crimeOf_43 (rfl)

set_option maxRecDepth 100000 in
set_option maxHeartbeats 4000000 in
theorem p_X10_paper (d : Nat) (f : zM) (a1 a2 : Int32) : ZM (d + 2) yX10_paper cX10_paper 5 (some .int) [zr 25 0, zi a1, zi a2] (zmix f) (fun r _ => r = some (zi (-1))) := by
  refine ZM.intro (by decide +kernel) (Nat.le_of_ble_eq_true rfl) ?_
  intro X C hr hn
  show Z X 0 [some (zr 25 0), some (zi a1), some (zi a2), none, none] [] (zmix f)
  refine z_aload_n (pc := 0) C dX10_paper_0 rfl ?_
  refine z_iload_n (pc := 1) C dX10_paper_1 rfl ?_
  refine z_callVx (pc := 2) C zk_X10_109 (p_X10_isPaper _ _ _) rfl rfl (by decide) rfl rfl (Nat.le_of_ble_eq_true rfl) dX10_paper_2 ?_
  simp only [Option.toList, List.cons_append, List.nil_append]
  refine z_if_eq (pc := 5) 20 C dX10_paper_5 (by decide) (fun h5 => ?_) (fun h5 => absurd (of_decide_eq_true rfl) h5)
  refine z_iconst (pc := 20) (v := -1) C dX10_paper_20 (by decide) ?_
  exact z_iret (pc := 21) C hr dX10_paper_21 (rfl)

set_option maxRecDepth 100000 in
set_option maxHeartbeats 4000000 in
theorem p_X10_bars (d : Nat) (f : zM) (a1 a2 : Int32) : ZM (d + 2) yX10_bars cX10_bars 4 (some .int) [zr 25 0, zi a1, zi a2] (zmix f) (fun r _ => r = some (zi (-1))) := by
  refine ZM.intro (by decide +kernel) (Nat.le_of_ble_eq_true rfl) ?_
  intro X C hr hn
  show Z X 0 [some (zr 25 0), some (zi a1), some (zi a2), none] [] (zmix f)
  refine z_aload_n (pc := 0) C dX10_bars_0 rfl ?_
  refine z_iload_n (pc := 1) C dX10_bars_1 rfl ?_
  refine z_callVx (pc := 2) C zk_X10_109 (p_X10_isPaper _ _ _) rfl rfl (by decide) rfl rfl (Nat.le_of_ble_eq_true rfl) dX10_bars_2 ?_
  simp only [Option.toList, List.cons_append, List.nil_append]
  refine z_if_eq (pc := 5) 20 C dX10_bars_5 (by decide) (fun h5 => ?_) (fun h5 => absurd (of_decide_eq_true rfl) h5)
  refine z_iconst (pc := 20) (v := -1) C dX10_bars_20 (by decide) ?_
  exact z_iret (pc := 21) C hr dX10_bars_21 (rfl)

set_option maxRecDepth 100000 in
set_option maxHeartbeats 4000000 in
theorem p_X10_covers (d : Nat) (f : zM) (a1 : Int32) : ZM (d + 2) yX10_covers cX10_covers 4 (some .int) [zr 25 0, zi a1] (zmix f) (fun r _ => r = some (zi (-1))) := by
  refine ZM.intro (by decide +kernel) (Nat.le_of_ble_eq_true rfl) ?_
  intro X C hr hn
  show Z X 0 [some (zr 25 0), some (zi a1), none, none] [] (zmix f)
  refine z_aload_n (pc := 0) C dX10_covers_0 rfl ?_
  refine z_iload_n (pc := 1) C dX10_covers_1 rfl ?_
  refine z_callVx (pc := 2) C zk_X10_109 (p_X10_isPaper _ _ _) rfl rfl (by decide) rfl rfl (Nat.le_of_ble_eq_true rfl) dX10_covers_2 ?_
  simp only [Option.toList, List.cons_append, List.nil_append]
  refine z_if_ne (pc := 5) 10 C dX10_covers_5 (by decide) (fun h5 => absurd (of_decide_eq_true rfl) h5) (fun h5 => ?_)
  refine z_iconst (pc := 8) (v := -1) C dX10_covers_8 (by decide) ?_
  exact z_iret (pc := 9) C hr dX10_covers_9 (rfl)

set_option maxRecDepth 100000 in
set_option maxHeartbeats 4000000 in
theorem p_X10_lets (d : Nat) (f : zM) (a1 : Int32) : ZM (d + 2) yX10_lets cX10_lets 2 (some .int) [zr 25 0, zi a1] (zmix f) (fun r _ => r = some (zi (-1))) := by
  refine ZM.intro (by decide +kernel) (Nat.le_of_ble_eq_true rfl) ?_
  intro X C hr hn
  show Z X 0 [some (zr 25 0), some (zi a1)] [] (zmix f)
  refine z_aload_n (pc := 0) C dX10_lets_0 rfl ?_
  refine z_iload_n (pc := 1) C dX10_lets_1 rfl ?_
  refine z_callVx (pc := 2) C zk_X10_109 (p_X10_isPaper _ _ _) rfl rfl (by decide) rfl rfl (Nat.le_of_ble_eq_true rfl) dX10_lets_2 ?_
  simp only [Option.toList, List.cons_append, List.nil_append]
  refine z_if_ne (pc := 5) 10 C dX10_lets_5 (by decide) (fun h5 => absurd (of_decide_eq_true rfl) h5) (fun h5 => ?_)
  refine z_iconst (pc := 8) (v := -1) C dX10_lets_8 (by decide) ?_
  exact z_iret (pc := 9) C hr dX10_lets_9 (rfl)

set_option maxRecDepth 100000 in
set_option maxHeartbeats 4000000 in
theorem p_X10_barred (d : Nat) (f : zM) (a1 a2 : Int32) : ZM (d + 2) yX10_barred cX10_barred 3 (some .int) [zr 25 0, zi a1, zi a2] (zmix f) (fun r _ => r = some (zi (-1))) := by
  refine ZM.intro (by decide +kernel) (Nat.le_of_ble_eq_true rfl) ?_
  intro X C hr hn
  show Z X 0 [some (zr 25 0), some (zi a1), some (zi a2)] [] (zmix f)
  refine z_aload_n (pc := 0) C dX10_barred_0 rfl ?_
  refine z_iload_n (pc := 1) C dX10_barred_1 rfl ?_
  refine z_callVx (pc := 2) C zk_X10_109 (p_X10_isPaper _ _ _) rfl rfl (by decide) rfl rfl (Nat.le_of_ble_eq_true rfl) dX10_barred_2 ?_
  simp only [Option.toList, List.cons_append, List.nil_append]
  refine z_if_eq (pc := 5) 25 C dX10_barred_5 (by decide) (fun h5 => ?_) (fun h5 => absurd (of_decide_eq_true rfl) h5)
  refine z_iconst (pc := 25) (v := -1) C dX10_barred_25 (by decide) ?_
  exact z_iret (pc := 26) C hr dX10_barred_26 (rfl)

set_option maxRecDepth 100000 in
set_option maxHeartbeats 4000000 in
theorem p_X10_matches (d : Nat) (f : zM) (a1 a2 a3 : Int32) : ZM (d + 2) yX10_matches cX10_matches 4 (some .int) [zr 25 0, zi a1, zi a2, zi a3] (zmix f) (fun r _ => r = some (zi (-1))) := by
  refine ZM.intro (by decide +kernel) (Nat.le_of_ble_eq_true rfl) ?_
  intro X C hr hn
  show Z X 0 [some (zr 25 0), some (zi a1), some (zi a2), some (zi a3)] [] (zmix f)
  refine z_aload_n (pc := 0) C dX10_matches_0 rfl ?_
  refine z_iload_n (pc := 1) C dX10_matches_1 rfl ?_
  refine z_callVx (pc := 2) C zk_X10_120 (p_X10_isDeed _ _ _) rfl rfl (by decide) rfl rfl (Nat.le_of_ble_eq_true rfl) dX10_matches_2 ?_
  simp only [Option.toList, List.cons_append, List.nil_append]
  refine z_if_eq (pc := 5) 43 C dX10_matches_5 (by decide) (fun h5 => ?_) (fun h5 => absurd (of_decide_eq_true rfl) h5)
  refine z_iconst (pc := 43) (v := -1) C dX10_matches_43 (by decide) ?_
  exact z_iret (pc := 44) C hr dX10_matches_44 (rfl)

set_option maxRecDepth 100000 in
set_option maxHeartbeats 4000000 in
theorem p_X10_yearsOf (d : Nat) (f : zM) (a1 a2 a3 : Int32) : ZM (d + 2) yX10_yearsOf cX10_yearsOf 4 (some .int) [zr 25 0, zi a1, zi a2, zi a3] (zmix f) (fun r _ => r = some (zi (-1))) := by
  refine ZM.intro (by decide +kernel) (Nat.le_of_ble_eq_true rfl) ?_
  intro X C hr hn
  show Z X 0 [some (zr 25 0), some (zi a1), some (zi a2), some (zi a3)] [] (zmix f)
  refine z_aload_n (pc := 0) C dX10_yearsOf_0 rfl ?_
  refine z_iload_n (pc := 1) C dX10_yearsOf_1 rfl ?_
  refine z_callVx (pc := 2) C zk_X10_120 (p_X10_isDeed _ _ _) rfl rfl (by decide) rfl rfl (Nat.le_of_ble_eq_true rfl) dX10_yearsOf_2 ?_
  simp only [Option.toList, List.cons_append, List.nil_append]
  refine z_if_eq (pc := 5) 43 C dX10_yearsOf_5 (by decide) (fun h5 => ?_) (fun h5 => absurd (of_decide_eq_true rfl) h5)
  refine z_iconst (pc := 43) (v := -1) C dX10_yearsOf_43 (by decide) ?_
  exact z_iret (pc := 44) C hr dX10_yearsOf_44 (rfl)

set_option maxRecDepth 100000 in
set_option maxHeartbeats 4000000 in
theorem p_X10_shows (d : Nat) (f : zM) (a1 a2 a3 a4 : Int32) : ZM (d + 2) yX10_shows cX10_shows 9 (some .int) [zr 25 0, zi a1, zi a2, zi a3, zi a4] (zmix f) (fun r _ => r = some (zi (-1))) := by
  refine ZM.intro (by decide +kernel) (Nat.le_of_ble_eq_true rfl) ?_
  intro X C hr hn
  show Z X 0 [some (zr 25 0), some (zi a1), some (zi a2), some (zi a3), some (zi a4), none, none, none, none] [] (zmix f)
  refine z_aload_n (pc := 0) C dX10_shows_0 rfl ?_
  refine z_iload_n (pc := 1) C dX10_shows_1 rfl ?_
  refine z_callVx (pc := 2) C zk_X10_120 (p_X10_isDeed _ _ _) rfl rfl (by decide) rfl rfl (Nat.le_of_ble_eq_true rfl) dX10_shows_2 ?_
  simp only [Option.toList, List.cons_append, List.nil_append]
  refine z_if_eq (pc := 5) 16 C dX10_shows_5 (by decide) (fun h5 => ?_) (fun h5 => absurd (of_decide_eq_true rfl) h5)
  refine z_iconst (pc := 16) (v := -1) C dX10_shows_16 (by decide) ?_
  exact z_iret (pc := 17) C hr dX10_shows_17 (rfl)

set_option maxRecDepth 100000 in
set_option maxHeartbeats 4000000 in
theorem p_X10_judged (d : Nat) (f : zM) (a1 a2 : Int32) : ZM (d + 2) yX10_judged cX10_judged 4 (some .int) [zr 25 0, zi a1, zi a2] (zmix f) (fun r _ => r = some (zi (-1))) := by
  refine ZM.intro (by decide +kernel) (Nat.le_of_ble_eq_true rfl) ?_
  intro X C hr hn
  show Z X 0 [some (zr 25 0), some (zi a1), some (zi a2), none] [] (zmix f)
  refine z_aload_n (pc := 0) C dX10_judged_0 rfl ?_
  refine z_iload_n (pc := 1) C dX10_judged_1 rfl ?_
  refine z_callVx (pc := 2) C zk_X10_120 (p_X10_isDeed _ _ _) rfl rfl (by decide) rfl rfl (Nat.le_of_ble_eq_true rfl) dX10_judged_2 ?_
  simp only [Option.toList, List.cons_append, List.nil_append]
  refine z_if_ne (pc := 5) 10 C dX10_judged_5 (by decide) (fun h5 => absurd (of_decide_eq_true rfl) h5) (fun h5 => ?_)
  refine z_iconst (pc := 8) (v := -1) C dX10_judged_8 (by decide) ?_
  exact z_iret (pc := 9) C hr dX10_judged_9 (rfl)

set_option maxRecDepth 100000 in
set_option maxHeartbeats 4000000 in
theorem p_X10_count (d : Nat) (f : zM) (a1 : Int32) : ZM d yX10_count cX10_count 2 (some .int) [zr 25 0, zi a1] (zmix f) (fun r _ => r = some (zi (if 0 ≤ a1.toInt ∧ a1.toInt ≤ 4 then 0 else -1))) := by
  refine ZM.intro (by decide +kernel) (Nat.le_of_ble_eq_true rfl) ?_
  intro X C hr hn
  show Z X 0 [some (zr 25 0), some (zi a1)] [] (zmix f)
  refine z_iload_n (pc := 0) C dX10_count_0 rfl ?_
  by_cases hsw : a1.toInt < 0 ∨ 4 < a1.toInt
  · skip
    refine z_tabOut (pc := 1) 64 C dX10_count_1 hsw (by decide) ?_
    refine z_iconst (pc := 64) (v := -1) C dX10_count_64 (by decide) ?_
    exact z_iret (pc := 65) C hr dX10_count_65 (by first | rfl | (congr 2; rw [if_neg (by omega)]))
  · skip
    rcases (show a1.toInt = 0 ∨ a1.toInt = 1 ∨ a1.toInt = 2 ∨ a1.toInt = 3 ∨ a1.toInt = 4 by omega) with hsv | hsv | hsv | hsv | hsv
    · skip
      obtain rfl : a1 = 0 := (z32eq a1 0).mpr (by rw [hsv]; decide)
      refine z_tabIn (pc := 1) 36 C dX10_count_1 (by decide) (by decide) rfl (by decide) ?_
      refine z_aload_n (pc := 36) C dX10_count_36 rfl ?_
      refine z_getI (pc := 37) C zf_X10_80 rfl rfl (by decide) dX10_count_37 ?_
      exact z_iret (pc := 40) C hr dX10_count_40 (by first | rfl | (congr 2; rw [if_neg (by omega)]))
    · skip
      obtain rfl : a1 = 1 := (z32eq a1 1).mpr (by rw [hsv]; decide)
      refine z_tabIn (pc := 1) 41 C dX10_count_1 (by decide) (by decide) rfl (by decide) ?_
      refine z_aload_n (pc := 41) C dX10_count_41 rfl ?_
      refine z_getI (pc := 42) C zf_X10_73 rfl rfl (by decide) dX10_count_42 ?_
      exact z_iret (pc := 45) C hr dX10_count_45 (by first | rfl | (congr 2; rw [if_neg (by omega)]))
    · skip
      obtain rfl : a1 = 2 := (z32eq a1 2).mpr (by rw [hsv]; decide)
      refine z_tabIn (pc := 1) 46 C dX10_count_1 (by decide) (by decide) rfl (by decide) ?_
      refine z_aload_n (pc := 46) C dX10_count_46 rfl ?_
      refine z_getI (pc := 47) C zf_X10_77 rfl rfl (by decide) dX10_count_47 ?_
      exact z_iret (pc := 50) C hr dX10_count_50 (by first | rfl | (congr 2; rw [if_neg (by omega)]))
    · skip
      obtain rfl : a1 = 3 := (z32eq a1 3).mpr (by rw [hsv]; decide)
      refine z_tabIn (pc := 1) 51 C dX10_count_1 (by decide) (by decide) rfl (by decide) ?_
      refine z_aload_n (pc := 51) C dX10_count_51 rfl ?_
      refine z_getI (pc := 52) C zf_X10_126 rfl rfl (by decide) dX10_count_52 ?_
      exact z_iret (pc := 55) C hr dX10_count_55 (by first | rfl | (congr 2; rw [if_neg (by omega)]))
    · skip
      obtain rfl : a1 = 4 := (z32eq a1 4).mpr (by rw [hsv]; decide)
      refine z_tabIn (pc := 1) 56 C dX10_count_1 (by decide) (by decide) rfl (by decide) ?_
      refine z_aload_n (pc := 56) C dX10_count_56 rfl ?_
      refine z_getR (pc := 57) C zf_X10_22 rfl rfl (by decide) dX10_count_57 ?_
      refine z_bipush (pc := 60) (v := 6) C dX10_count_60 (by decide) ?_
      refine z_iald (pc := 62) C rfl (by decide) (zvp rfl) dX10_count_62 ?_
      exact z_iret (pc := 63) C hr dX10_count_63 (by first | rfl | (congr 2; rw [if_neg (by omega)]))

set_option maxRecDepth 100000 in
set_option maxHeartbeats 4000000 in
theorem m_X10_free (d : Nat) (f : zM) : ZM d yX10_free cX10_free 1 none [zr 25 0] f (fun r g => r = none ∧ g = zup (zup (zup f 30 0 3 0) 30 0 4 (-4)) 30 0 5 255) := by
  refine ZM.intro (by decide +kernel) (Nat.le_of_ble_eq_true rfl) ?_
  intro X C hr hn
  show Z X 0 [some (zr 25 0)] [] f
  refine z_aload_n (pc := 0) C dX10_free_0 rfl ?_
  refine z_getR (pc := 1) C zf_X10_22 rfl rfl (by decide) dX10_free_1 ?_
  refine z_iconst (pc := 4) (v := 3) C dX10_free_4 (by decide) ?_
  refine z_iconst (pc := 5) (v := 0) C dX10_free_5 (by decide) ?_
  refine z_iast (pc := 6) C rfl (by decide) (zvp rfl) dX10_free_6 ?_
  refine z_aload_n (pc := 7) C dX10_free_7 rfl ?_
  refine z_getR (pc := 8) C zf_X10_22 rfl rfl (by decide) dX10_free_8 ?_
  refine z_iconst (pc := 11) (v := 4) C dX10_free_11 (by decide) ?_
  refine z_bipush (pc := 12) (v := -4) C dX10_free_12 (by decide) ?_
  refine z_iast (pc := 14) C rfl (by decide) (zvp rfl) dX10_free_14 ?_
  refine z_aload_n (pc := 15) C dX10_free_15 rfl ?_
  refine z_getR (pc := 16) C zf_X10_22 rfl rfl (by decide) dX10_free_16 ?_
  refine z_iconst (pc := 19) (v := 5) C dX10_free_19 (by decide) ?_
  refine z_sipush (pc := 20) (v := 255) C dX10_free_20 (by decide) ?_
  refine z_iast (pc := 23) C rfl (by decide) (zvp rfl) dX10_free_23 ?_
  exact z_vret (pc := 24) C hr dX10_free_24 (⟨by simp, rfl⟩)

set_option maxRecDepth 100000 in
set_option maxHeartbeats 4000000 in
theorem p_X10_man (d : Nat) (f : zM) (a1 a2 : Int32) : ZM (d + 2) yX10_man cX10_man 4 (some .int) [zr 25 0, zi a1, zi a2] (zmix f) (fun r _ => r = some (zi (if (a1.toInt = 0 ∧ 0 ≤ a2.toInt ∧ a2.toInt ≤ 5) ∨ (a1.toInt = 1 ∧ 0 ≤ a2.toInt ∧ a2.toInt ≤ 5) ∨ (a1.toInt = 2 ∧ 0 ≤ a2.toInt ∧ a2.toInt ≤ 99) then 0 else -1))) := by
  refine ZM.intro (by decide +kernel) (Nat.le_of_ble_eq_true rfl) ?_
  intro X C hr hn
  show Z X 0 [some (zr 25 0), some (zi a1), some (zi a2), none] [] (zmix f)
  refine z_iload_n (pc := 0) C dX10_man_0 rfl ?_
  refine z_i2l (pc := 1) C dX10_man_1 ?_
  refine z_lconst (pc := 2) (v := 0) C dX10_man_2 (by decide) ?_
  refine z_ldc2 (pc := 3) C zw_1207 dX10_man_3 ?_
  refine z_callSb (pc := 6) C zk_X10_69 (m_X10_in _ _ _ _ _) rfl rfl (Nat.le_of_ble_eq_true rfl) dX10_man_6 (fun h6 => ?_) (fun h6 => ?_)
  · skip
    refine z_if_eq (pc := 9) 39 C dX10_man_9 (by decide) (fun h9 => absurd h9 (of_decide_eq_true rfl)) (fun h9 => ?_)
    refine z_iload_n (pc := 12) C dX10_man_12 rfl ?_
    refine z_iconst (pc := 13) (v := 2) C dX10_man_13 (by decide) ?_
    refine z_icmp_ne (pc := 14) 32 C dX10_man_14 (by decide) (fun h14 => ?_) (fun h14 => ?_)
    · skip
      refine z_iload_n (pc := 32) C dX10_man_32 rfl ?_
      refine z_callSb (pc := 33) C zk_X10_83 (m_X10_isLand _ _ _) rfl rfl (Nat.le_of_ble_eq_true rfl) dX10_man_33 (fun h33 => ?_) (fun h33 => ?_)
      · skip
        refine z_if_ne (pc := 36) 41 C dX10_man_36 (by decide) (fun h36 => ?_) (fun h36 => absurd h36 (of_decide_eq_true rfl))
        rcases (show a1.toInt = 0 ∨ a1.toInt = 1 ∨ a1.toInt = 2 by (try simp only [z32lt, z32le, z32eq, z64, Int32.reduceToInt, Int32.toInt_zero, Int32.toInt_one, Int64.reduceToInt, Int64.toInt_zero, Int64.toInt_one, true_and, and_true, false_and, and_false, or_false, false_or, true_or, or_true] at *) <;> omega) with hsv | hsv | hsv
        · skip
          obtain rfl : a1 = 0 := (z32eq a1 0).mpr (by rw [hsv]; decide)
          refine z_aload_n (pc := 41) C dX10_man_41 rfl ?_
          refine z_getR (pc := 42) C zf_X10_22 rfl rfl (by decide) dX10_man_42 ?_
          refine z_iload_n (pc := 45) C dX10_man_45 rfl ?_
          refine z_iald (pc := 46) C rfl (by decide) (zvp rfl) dX10_man_46 ?_
          refine z_istore_n (pc := 47) C dX10_man_47 (by rw [hn]; decide) rfl ?_
          refine z_aload_n (pc := 48) C dX10_man_48 rfl ?_
          refine z_getR (pc := 49) C zf_X10_22 rfl rfl (by decide) dX10_man_49 ?_
          refine z_iload_n (pc := 52) C dX10_man_52 rfl ?_
          refine z_iload_n (pc := 53) C dX10_man_53 rfl ?_
          refine z_iast (pc := 54) C rfl (by decide) (zvp rfl) dX10_man_54 ?_
          refine z_iload_n (pc := 55) C dX10_man_55 rfl ?_
          refine z_iconst (pc := 56) (v := 1) C dX10_man_56 (by decide) ?_
          refine z_icmp_ne (pc := 57) 64 C dX10_man_57 (by decide) (fun h57 => ?_) (fun h57 => absurd h57 (of_decide_eq_true rfl))
          refine z_iload_n (pc := 64) C dX10_man_64 rfl ?_
          exact z_iret (pc := 65) C hr dX10_man_65 (by congr 2; rw [eq_comm]; rw [if_pos (by (try simp only [z32lt, z32le, z32eq, z64, Int32.reduceToInt, Int32.toInt_zero, Int32.toInt_one, Int64.reduceToInt, Int64.toInt_zero, Int64.toInt_one, true_and, and_true, false_and, and_false, or_false, false_or, true_or, or_true] at *) <;> omega)]; rfl)
        · skip
          obtain rfl : a1 = 1 := (z32eq a1 1).mpr (by rw [hsv]; decide)
          refine z_aload_n (pc := 41) C dX10_man_41 rfl ?_
          refine z_getR (pc := 42) C zf_X10_22 rfl rfl (by decide) dX10_man_42 ?_
          refine z_iload_n (pc := 45) C dX10_man_45 rfl ?_
          refine z_iald (pc := 46) C rfl (by decide) (zvp rfl) dX10_man_46 ?_
          refine z_istore_n (pc := 47) C dX10_man_47 (by rw [hn]; decide) rfl ?_
          refine z_aload_n (pc := 48) C dX10_man_48 rfl ?_
          refine z_getR (pc := 49) C zf_X10_22 rfl rfl (by decide) dX10_man_49 ?_
          refine z_iload_n (pc := 52) C dX10_man_52 rfl ?_
          refine z_iload_n (pc := 53) C dX10_man_53 rfl ?_
          refine z_iast (pc := 54) C rfl (by decide) (zvp rfl) dX10_man_54 ?_
          refine z_iload_n (pc := 55) C dX10_man_55 rfl ?_
          refine z_iconst (pc := 56) (v := 1) C dX10_man_56 (by decide) ?_
          refine z_icmp_ne (pc := 57) 64 C dX10_man_57 (by decide) (fun h57 => absurd (of_decide_eq_true rfl) h57) (fun h57 => ?_)
          refine z_aload_n (pc := 60) C dX10_man_60 rfl ?_
          refine z_callVx (pc := 61) C zk_X10_64 (m_X10_free _ _) rfl rfl (by decide) rfl rfl (Nat.le_of_ble_eq_true rfl) dX10_man_61 ?_
          simp only [Option.toList, List.cons_append, List.nil_append]
          refine z_iload_n (pc := 64) C dX10_man_64 rfl ?_
          exact z_iret (pc := 65) C hr dX10_man_65 (by congr 2; rw [eq_comm]; rw [if_pos (by (try simp only [z32lt, z32le, z32eq, z64, Int32.reduceToInt, Int32.toInt_zero, Int32.toInt_one, Int64.reduceToInt, Int64.toInt_zero, Int64.toInt_one, true_and, and_true, false_and, and_false, or_false, false_or, true_or, or_true] at *) <;> omega)]; rfl)
        · skip
          obtain rfl : a1 = 2 := (z32eq a1 2).mpr (by rw [hsv]; decide)
          refine z_aload_n (pc := 41) C dX10_man_41 rfl ?_
          refine z_getR (pc := 42) C zf_X10_22 rfl rfl (by decide) dX10_man_42 ?_
          refine z_iload_n (pc := 45) C dX10_man_45 rfl ?_
          refine z_iald (pc := 46) C rfl (by decide) (zvp rfl) dX10_man_46 ?_
          refine z_istore_n (pc := 47) C dX10_man_47 (by rw [hn]; decide) rfl ?_
          refine z_aload_n (pc := 48) C dX10_man_48 rfl ?_
          refine z_getR (pc := 49) C zf_X10_22 rfl rfl (by decide) dX10_man_49 ?_
          refine z_iload_n (pc := 52) C dX10_man_52 rfl ?_
          refine z_iload_n (pc := 53) C dX10_man_53 rfl ?_
          refine z_iast (pc := 54) C rfl (by decide) (zvp rfl) dX10_man_54 ?_
          refine z_iload_n (pc := 55) C dX10_man_55 rfl ?_
          refine z_iconst (pc := 56) (v := 1) C dX10_man_56 (by decide) ?_
          refine z_icmp_ne (pc := 57) 64 C dX10_man_57 (by decide) (fun h57 => ?_) (fun h57 => absurd h57 (of_decide_eq_true rfl))
          refine z_iload_n (pc := 64) C dX10_man_64 rfl ?_
          exact z_iret (pc := 65) C hr dX10_man_65 (by congr 2; rw [eq_comm]; rw [if_pos (by (try simp only [z32lt, z32le, z32eq, z64, Int32.reduceToInt, Int32.toInt_zero, Int32.toInt_one, Int64.reduceToInt, Int64.toInt_zero, Int64.toInt_one, true_and, and_true, false_and, and_false, or_false, false_or, true_or, or_true] at *) <;> omega)]; rfl)
      · skip
        refine z_if_ne (pc := 36) 41 C dX10_man_36 (by decide) (fun h36 => absurd (of_decide_eq_true rfl) h36) (fun h36 => ?_)
        refine z_iconst (pc := 39) (v := -1) C dX10_man_39 (by decide) ?_
        exact z_iret (pc := 40) C hr dX10_man_40 (by first | rfl | (congr 2; rw [eq_comm]; first | (rw [if_neg (by (try simp only [z32lt, z32le, z32eq, z64, Int32.reduceToInt, Int32.toInt_zero, Int32.toInt_one, Int64.reduceToInt, Int64.toInt_zero, Int64.toInt_one, true_and, and_true, false_and, and_false, or_false, false_or, true_or, or_true] at *) <;> omega)]; done) | (rw [if_pos (by (try simp only [z32lt, z32le, z32eq, z64, Int32.reduceToInt, Int32.toInt_zero, Int32.toInt_one, Int64.reduceToInt, Int64.toInt_zero, Int64.toInt_one, true_and, and_true, false_and, and_false, or_false, false_or, true_or, or_true] at *) <;> omega)] <;> simp [zup, zmix, z0])))
    · skip
      refine z_iload_n (pc := 17) C dX10_man_17 rfl ?_
      refine z_i2l (pc := 18) C dX10_man_18 ?_
      refine z_lconst (pc := 19) (v := 0) C dX10_man_19 (by decide) ?_
      refine z_ldc2 (pc := 20) C zw_1137 dX10_man_20 ?_
      refine z_callSb (pc := 23) C zk_X10_69 (m_X10_in _ _ _ _ _) rfl rfl (Nat.le_of_ble_eq_true rfl) dX10_man_23 (fun h23 => ?_) (fun h23 => ?_)
      · skip
        refine z_if_eq (pc := 26) 39 C dX10_man_26 (by decide) (fun h26 => absurd h26 (of_decide_eq_true rfl)) (fun h26 => ?_)
        refine z_goto (pc := 29) 41 C dX10_man_29 (by decide) ?_
        rcases (show a1.toInt = 0 ∨ a1.toInt = 1 ∨ a1.toInt = 2 by (try simp only [z32lt, z32le, z32eq, z64, Int32.reduceToInt, Int32.toInt_zero, Int32.toInt_one, Int64.reduceToInt, Int64.toInt_zero, Int64.toInt_one, true_and, and_true, false_and, and_false, or_false, false_or, true_or, or_true] at *) <;> omega) with hsv | hsv | hsv
        · skip
          obtain rfl : a1 = 0 := (z32eq a1 0).mpr (by rw [hsv]; decide)
          refine z_aload_n (pc := 41) C dX10_man_41 rfl ?_
          refine z_getR (pc := 42) C zf_X10_22 rfl rfl (by decide) dX10_man_42 ?_
          refine z_iload_n (pc := 45) C dX10_man_45 rfl ?_
          refine z_iald (pc := 46) C rfl (by decide) (zvp rfl) dX10_man_46 ?_
          refine z_istore_n (pc := 47) C dX10_man_47 (by rw [hn]; decide) rfl ?_
          refine z_aload_n (pc := 48) C dX10_man_48 rfl ?_
          refine z_getR (pc := 49) C zf_X10_22 rfl rfl (by decide) dX10_man_49 ?_
          refine z_iload_n (pc := 52) C dX10_man_52 rfl ?_
          refine z_iload_n (pc := 53) C dX10_man_53 rfl ?_
          refine z_iast (pc := 54) C rfl (by decide) (zvp rfl) dX10_man_54 ?_
          refine z_iload_n (pc := 55) C dX10_man_55 rfl ?_
          refine z_iconst (pc := 56) (v := 1) C dX10_man_56 (by decide) ?_
          refine z_icmp_ne (pc := 57) 64 C dX10_man_57 (by decide) (fun h57 => ?_) (fun h57 => absurd h57 (of_decide_eq_true rfl))
          refine z_iload_n (pc := 64) C dX10_man_64 rfl ?_
          exact z_iret (pc := 65) C hr dX10_man_65 (by congr 2; rw [eq_comm]; rw [if_pos (by (try simp only [z32lt, z32le, z32eq, z64, Int32.reduceToInt, Int32.toInt_zero, Int32.toInt_one, Int64.reduceToInt, Int64.toInt_zero, Int64.toInt_one, true_and, and_true, false_and, and_false, or_false, false_or, true_or, or_true] at *) <;> omega)]; rfl)
        · skip
          obtain rfl : a1 = 1 := (z32eq a1 1).mpr (by rw [hsv]; decide)
          refine z_aload_n (pc := 41) C dX10_man_41 rfl ?_
          refine z_getR (pc := 42) C zf_X10_22 rfl rfl (by decide) dX10_man_42 ?_
          refine z_iload_n (pc := 45) C dX10_man_45 rfl ?_
          refine z_iald (pc := 46) C rfl (by decide) (zvp rfl) dX10_man_46 ?_
          refine z_istore_n (pc := 47) C dX10_man_47 (by rw [hn]; decide) rfl ?_
          refine z_aload_n (pc := 48) C dX10_man_48 rfl ?_
          refine z_getR (pc := 49) C zf_X10_22 rfl rfl (by decide) dX10_man_49 ?_
          refine z_iload_n (pc := 52) C dX10_man_52 rfl ?_
          refine z_iload_n (pc := 53) C dX10_man_53 rfl ?_
          refine z_iast (pc := 54) C rfl (by decide) (zvp rfl) dX10_man_54 ?_
          refine z_iload_n (pc := 55) C dX10_man_55 rfl ?_
          refine z_iconst (pc := 56) (v := 1) C dX10_man_56 (by decide) ?_
          refine z_icmp_ne (pc := 57) 64 C dX10_man_57 (by decide) (fun h57 => absurd (of_decide_eq_true rfl) h57) (fun h57 => ?_)
          refine z_aload_n (pc := 60) C dX10_man_60 rfl ?_
          refine z_callVx (pc := 61) C zk_X10_64 (m_X10_free _ _) rfl rfl (by decide) rfl rfl (Nat.le_of_ble_eq_true rfl) dX10_man_61 ?_
          simp only [Option.toList, List.cons_append, List.nil_append]
          refine z_iload_n (pc := 64) C dX10_man_64 rfl ?_
          exact z_iret (pc := 65) C hr dX10_man_65 (by congr 2; rw [eq_comm]; rw [if_pos (by (try simp only [z32lt, z32le, z32eq, z64, Int32.reduceToInt, Int32.toInt_zero, Int32.toInt_one, Int64.reduceToInt, Int64.toInt_zero, Int64.toInt_one, true_and, and_true, false_and, and_false, or_false, false_or, true_or, or_true] at *) <;> omega)]; rfl)
        · skip
          obtain rfl : a1 = 2 := (z32eq a1 2).mpr (by rw [hsv]; decide)
          refine z_aload_n (pc := 41) C dX10_man_41 rfl ?_
          refine z_getR (pc := 42) C zf_X10_22 rfl rfl (by decide) dX10_man_42 ?_
          refine z_iload_n (pc := 45) C dX10_man_45 rfl ?_
          refine z_iald (pc := 46) C rfl (by decide) (zvp rfl) dX10_man_46 ?_
          refine z_istore_n (pc := 47) C dX10_man_47 (by rw [hn]; decide) rfl ?_
          refine z_aload_n (pc := 48) C dX10_man_48 rfl ?_
          refine z_getR (pc := 49) C zf_X10_22 rfl rfl (by decide) dX10_man_49 ?_
          refine z_iload_n (pc := 52) C dX10_man_52 rfl ?_
          refine z_iload_n (pc := 53) C dX10_man_53 rfl ?_
          refine z_iast (pc := 54) C rfl (by decide) (zvp rfl) dX10_man_54 ?_
          refine z_iload_n (pc := 55) C dX10_man_55 rfl ?_
          refine z_iconst (pc := 56) (v := 1) C dX10_man_56 (by decide) ?_
          refine z_icmp_ne (pc := 57) 64 C dX10_man_57 (by decide) (fun h57 => ?_) (fun h57 => absurd h57 (of_decide_eq_true rfl))
          refine z_iload_n (pc := 64) C dX10_man_64 rfl ?_
          exact z_iret (pc := 65) C hr dX10_man_65 (by congr 2; rw [eq_comm]; rw [if_pos (by (try simp only [z32lt, z32le, z32eq, z64, Int32.reduceToInt, Int32.toInt_zero, Int32.toInt_one, Int64.reduceToInt, Int64.toInt_zero, Int64.toInt_one, true_and, and_true, false_and, and_false, or_false, false_or, true_or, or_true] at *) <;> omega)]; rfl)
      · skip
        refine z_if_eq (pc := 26) 39 C dX10_man_26 (by decide) (fun h26 => ?_) (fun h26 => absurd (of_decide_eq_true rfl) h26)
        refine z_iconst (pc := 39) (v := -1) C dX10_man_39 (by decide) ?_
        exact z_iret (pc := 40) C hr dX10_man_40 (by first | rfl | (congr 2; rw [eq_comm]; first | (rw [if_neg (by (try simp only [z32lt, z32le, z32eq, z64, Int32.reduceToInt, Int32.toInt_zero, Int32.toInt_one, Int64.reduceToInt, Int64.toInt_zero, Int64.toInt_one, true_and, and_true, false_and, and_false, or_false, false_or, true_or, or_true] at *) <;> omega)]; done) | (rw [if_pos (by (try simp only [z32lt, z32le, z32eq, z64, Int32.reduceToInt, Int32.toInt_zero, Int32.toInt_one, Int64.reduceToInt, Int64.toInt_zero, Int64.toInt_one, true_and, and_true, false_and, and_false, or_false, false_or, true_or, or_true] at *) <;> omega)] <;> simp [zup, zmix, z0])))
  · skip
    refine z_if_eq (pc := 9) 39 C dX10_man_9 (by decide) (fun h9 => ?_) (fun h9 => absurd (of_decide_eq_true rfl) h9)
    refine z_iconst (pc := 39) (v := -1) C dX10_man_39 (by decide) ?_
    exact z_iret (pc := 40) C hr dX10_man_40 (by first | rfl | (congr 2; rw [eq_comm]; first | (rw [if_neg (by (try simp only [z32lt, z32le, z32eq, z64, Int32.reduceToInt, Int32.toInt_zero, Int32.toInt_one, Int64.reduceToInt, Int64.toInt_zero, Int64.toInt_one, true_and, and_true, false_and, and_false, or_false, false_or, true_or, or_true] at *) <;> omega)]; done) | (rw [if_pos (by (try simp only [z32lt, z32le, z32eq, z64, Int32.reduceToInt, Int32.toInt_zero, Int32.toInt_one, Int64.reduceToInt, Int64.toInt_zero, Int64.toInt_one, true_and, and_true, false_and, and_false, or_false, false_or, true_or, or_true] at *) <;> omega)] <;> simp [zup, zmix, z0])))

set_option maxRecDepth 100000 in
set_option maxHeartbeats 4000000 in
theorem m_X10_allDeeds (d : Nat) (f : zM) : ZM d yX10_allDeeds cX10_allDeeds 1 (some .int) [zr 25 0] f (fun r g => r = some (zi ((1 <<< (f 25 0 2 &&& 31)) - 1)) ∧ g = f) := by
  refine ZM.intro (by decide +kernel) (Nat.le_of_ble_eq_true rfl) ?_
  intro X C hr hn
  show Z X 0 [some (zr 25 0)] [] f
  refine z_iconst (pc := 0) (v := 1) C dX10_allDeeds_0 (by decide) ?_
  refine z_aload_n (pc := 1) C dX10_allDeeds_1 rfl ?_
  refine z_getI (pc := 2) C zf_X10_73 rfl rfl (by decide) dX10_allDeeds_2 ?_
  refine z_ishl (pc := 5) C dX10_allDeeds_5 ?_
  refine z_iconst (pc := 6) (v := 1) C dX10_allDeeds_6 (by decide) ?_
  refine z_isub (pc := 7) C dX10_allDeeds_7 ?_
  exact z_iret (pc := 8) C hr dX10_allDeeds_8 (⟨rfl, rfl⟩)

set_option maxRecDepth 100000 in
set_option maxHeartbeats 4000000 in
theorem p_X10_bound (d : Nat) (f : zM) (a1 : Int32) : ZM (d + 1) yX10_bound cX10_bound 2 (some .int) [zr 25 0, zi a1] (zmix f) (fun r _ => r = some (zi (if a1.toInt = 0 then 0 else if a1.toInt = 1 then -4 else if a1.toInt = 2 then 0 else if a1.toInt = 3 then 0 else -1))) := by
  refine ZM.intro (by decide +kernel) (Nat.le_of_ble_eq_true rfl) ?_
  intro X C hr hn
  show Z X 0 [some (zr 25 0), some (zi a1)] [] (zmix f)
  refine z_iload_n (pc := 0) C dX10_bound_0 rfl ?_
  refine z_if_ne (pc := 1) 13 C dX10_bound_1 (by decide) (fun h1 => ?_) (fun h1 => ?_)
  · skip
    refine z_iload_n (pc := 13) C dX10_bound_13 rfl ?_
    refine z_iconst (pc := 14) (v := 1) C dX10_bound_14 (by decide) ?_
    refine z_icmp_ne (pc := 15) 27 C dX10_bound_15 (by decide) (fun h15 => ?_) (fun h15 => ?_)
    · skip
      refine z_iload_n (pc := 27) C dX10_bound_27 rfl ?_
      refine z_iconst (pc := 28) (v := 2) C dX10_bound_28 (by decide) ?_
      refine z_icmp_ne (pc := 29) 46 C dX10_bound_29 (by decide) (fun h29 => ?_) (fun h29 => ?_)
      · skip
        refine z_iload_n (pc := 46) C dX10_bound_46 rfl ?_
        refine z_iconst (pc := 47) (v := 3) C dX10_bound_47 (by decide) ?_
        refine z_icmp_ne (pc := 48) 60 C dX10_bound_48 (by decide) (fun h48 => ?_) (fun h48 => ?_)
        · skip
          refine z_iconst (pc := 60) (v := -1) C dX10_bound_60 (by decide) ?_
          exact z_iret (pc := 61) C hr dX10_bound_61 (by first | (subst h1; rfl) | (subst h15; rfl) | (subst h48; rfl) | (subst h29; rw [show zmix f 25 0 2 = 0 from rfl, show zmix f 30 0 (Int32.toNatClampNeg 5) = 255 from rfl]; rfl) | (congr 2; rw [if_neg (by (try simp only [z32lt, z32le, z32eq, z64, Int32.reduceToInt, Int32.toInt_zero, Int32.toInt_one, Int64.reduceToInt, Int64.toInt_zero, Int64.toInt_one, true_and, and_true, false_and, and_false, or_false, false_or, true_or, or_true] at *) <;> omega), if_neg (by (try simp only [z32lt, z32le, z32eq, z64, Int32.reduceToInt, Int32.toInt_zero, Int32.toInt_one, Int64.reduceToInt, Int64.toInt_zero, Int64.toInt_one, true_and, and_true, false_and, and_false, or_false, false_or, true_or, or_true] at *) <;> omega), if_neg (by (try simp only [z32lt, z32le, z32eq, z64, Int32.reduceToInt, Int32.toInt_zero, Int32.toInt_one, Int64.reduceToInt, Int64.toInt_zero, Int64.toInt_one, true_and, and_true, false_and, and_false, or_false, false_or, true_or, or_true] at *) <;> omega), if_neg (by (try simp only [z32lt, z32le, z32eq, z64, Int32.reduceToInt, Int32.toInt_zero, Int32.toInt_one, Int64.reduceToInt, Int64.toInt_zero, Int64.toInt_one, true_and, and_true, false_and, and_false, or_false, false_or, true_or, or_true] at *) <;> omega)]))
        · skip
          refine z_aload_n (pc := 51) C dX10_bound_51 rfl ?_
          refine z_getR (pc := 52) C zf_X10_22 rfl rfl (by decide) dX10_bound_52 ?_
          refine z_iconst (pc := 55) (v := 1) C dX10_bound_55 (by decide) ?_
          refine z_iald (pc := 56) C rfl (by decide) (zvp rfl) dX10_bound_56 ?_
          refine z_goto (pc := 57) 61 C dX10_bound_57 (by decide) ?_
          exact z_iret (pc := 61) C hr dX10_bound_61 (by first | (subst h1; rfl) | (subst h15; rfl) | (subst h48; rfl) | (subst h29; rw [show zmix f 25 0 2 = 0 from rfl, show zmix f 30 0 (Int32.toNatClampNeg 5) = 255 from rfl]; rfl) | (congr 2; rw [if_neg (by (try simp only [z32lt, z32le, z32eq, z64, Int32.reduceToInt, Int32.toInt_zero, Int32.toInt_one, Int64.reduceToInt, Int64.toInt_zero, Int64.toInt_one, true_and, and_true, false_and, and_false, or_false, false_or, true_or, or_true] at *) <;> omega), if_neg (by (try simp only [z32lt, z32le, z32eq, z64, Int32.reduceToInt, Int32.toInt_zero, Int32.toInt_one, Int64.reduceToInt, Int64.toInt_zero, Int64.toInt_one, true_and, and_true, false_and, and_false, or_false, false_or, true_or, or_true] at *) <;> omega), if_neg (by (try simp only [z32lt, z32le, z32eq, z64, Int32.reduceToInt, Int32.toInt_zero, Int32.toInt_one, Int64.reduceToInt, Int64.toInt_zero, Int64.toInt_one, true_and, and_true, false_and, and_false, or_false, false_or, true_or, or_true] at *) <;> omega), if_neg (by (try simp only [z32lt, z32le, z32eq, z64, Int32.reduceToInt, Int32.toInt_zero, Int32.toInt_one, Int64.reduceToInt, Int64.toInt_zero, Int64.toInt_one, true_and, and_true, false_and, and_false, or_false, false_or, true_or, or_true] at *) <;> omega)]))
      · skip
        refine z_aload_n (pc := 32) C dX10_bound_32 rfl ?_
        refine z_getR (pc := 33) C zf_X10_22 rfl rfl (by decide) dX10_bound_33 ?_
        refine z_iconst (pc := 36) (v := 5) C dX10_bound_36 (by decide) ?_
        refine z_iald (pc := 37) C rfl (by decide) (zvp rfl) dX10_bound_37 ?_
        refine z_aload_n (pc := 38) C dX10_bound_38 rfl ?_
        refine z_callVx (pc := 39) C zk_X10_131 (m_X10_allDeeds _ _) rfl rfl (by decide) rfl rfl (Nat.le_of_ble_eq_true rfl) dX10_bound_39 ?_
        simp only [Option.toList, List.cons_append, List.nil_append]
        refine z_iand (pc := 42) C dX10_bound_42 ?_
        refine z_goto (pc := 43) 61 C dX10_bound_43 (by decide) ?_
        exact z_iret (pc := 61) C hr dX10_bound_61 (by first | (subst h1; rfl) | (subst h15; rfl) | (subst h48; rfl) | (subst h29; rw [show zmix f 25 0 2 = 0 from rfl, show zmix f 30 0 (Int32.toNatClampNeg 5) = 255 from rfl]; rfl) | (congr 2; rw [if_neg (by (try simp only [z32lt, z32le, z32eq, z64, Int32.reduceToInt, Int32.toInt_zero, Int32.toInt_one, Int64.reduceToInt, Int64.toInt_zero, Int64.toInt_one, true_and, and_true, false_and, and_false, or_false, false_or, true_or, or_true] at *) <;> omega), if_neg (by (try simp only [z32lt, z32le, z32eq, z64, Int32.reduceToInt, Int32.toInt_zero, Int32.toInt_one, Int64.reduceToInt, Int64.toInt_zero, Int64.toInt_one, true_and, and_true, false_and, and_false, or_false, false_or, true_or, or_true] at *) <;> omega), if_neg (by (try simp only [z32lt, z32le, z32eq, z64, Int32.reduceToInt, Int32.toInt_zero, Int32.toInt_one, Int64.reduceToInt, Int64.toInt_zero, Int64.toInt_one, true_and, and_true, false_and, and_false, or_false, false_or, true_or, or_true] at *) <;> omega), if_neg (by (try simp only [z32lt, z32le, z32eq, z64, Int32.reduceToInt, Int32.toInt_zero, Int32.toInt_one, Int64.reduceToInt, Int64.toInt_zero, Int64.toInt_one, true_and, and_true, false_and, and_false, or_false, false_or, true_or, or_true] at *) <;> omega)]))
    · skip
      refine z_aload_n (pc := 18) C dX10_bound_18 rfl ?_
      refine z_getR (pc := 19) C zf_X10_22 rfl rfl (by decide) dX10_bound_19 ?_
      refine z_iconst (pc := 22) (v := 4) C dX10_bound_22 (by decide) ?_
      refine z_iald (pc := 23) C rfl (by decide) (zvp rfl) dX10_bound_23 ?_
      refine z_goto (pc := 24) 61 C dX10_bound_24 (by decide) ?_
      exact z_iret (pc := 61) C hr dX10_bound_61 (by first | (subst h1; rfl) | (subst h15; rfl) | (subst h48; rfl) | (subst h29; rw [show zmix f 25 0 2 = 0 from rfl, show zmix f 30 0 (Int32.toNatClampNeg 5) = 255 from rfl]; rfl) | (congr 2; rw [if_neg (by (try simp only [z32lt, z32le, z32eq, z64, Int32.reduceToInt, Int32.toInt_zero, Int32.toInt_one, Int64.reduceToInt, Int64.toInt_zero, Int64.toInt_one, true_and, and_true, false_and, and_false, or_false, false_or, true_or, or_true] at *) <;> omega), if_neg (by (try simp only [z32lt, z32le, z32eq, z64, Int32.reduceToInt, Int32.toInt_zero, Int32.toInt_one, Int64.reduceToInt, Int64.toInt_zero, Int64.toInt_one, true_and, and_true, false_and, and_false, or_false, false_or, true_or, or_true] at *) <;> omega), if_neg (by (try simp only [z32lt, z32le, z32eq, z64, Int32.reduceToInt, Int32.toInt_zero, Int32.toInt_one, Int64.reduceToInt, Int64.toInt_zero, Int64.toInt_one, true_and, and_true, false_and, and_false, or_false, false_or, true_or, or_true] at *) <;> omega), if_neg (by (try simp only [z32lt, z32le, z32eq, z64, Int32.reduceToInt, Int32.toInt_zero, Int32.toInt_one, Int64.reduceToInt, Int64.toInt_zero, Int64.toInt_one, true_and, and_true, false_and, and_false, or_false, false_or, true_or, or_true] at *) <;> omega)]))
  · skip
    refine z_aload_n (pc := 4) C dX10_bound_4 rfl ?_
    refine z_getR (pc := 5) C zf_X10_22 rfl rfl (by decide) dX10_bound_5 ?_
    refine z_iconst (pc := 8) (v := 3) C dX10_bound_8 (by decide) ?_
    refine z_iald (pc := 9) C rfl (by decide) (zvp rfl) dX10_bound_9 ?_
    refine z_goto (pc := 10) 61 C dX10_bound_10 (by decide) ?_
    exact z_iret (pc := 61) C hr dX10_bound_61 (by first | (subst h1; rfl) | (subst h15; rfl) | (subst h48; rfl) | (subst h29; rw [show zmix f 25 0 2 = 0 from rfl, show zmix f 30 0 (Int32.toNatClampNeg 5) = 255 from rfl]; rfl) | (congr 2; rw [if_neg (by (try simp only [z32lt, z32le, z32eq, z64, Int32.reduceToInt, Int32.toInt_zero, Int32.toInt_one, Int64.reduceToInt, Int64.toInt_zero, Int64.toInt_one, true_and, and_true, false_and, and_false, or_false, false_or, true_or, or_true] at *) <;> omega), if_neg (by (try simp only [z32lt, z32le, z32eq, z64, Int32.reduceToInt, Int32.toInt_zero, Int32.toInt_one, Int64.reduceToInt, Int64.toInt_zero, Int64.toInt_one, true_and, and_true, false_and, and_false, or_false, false_or, true_or, or_true] at *) <;> omega), if_neg (by (try simp only [z32lt, z32le, z32eq, z64, Int32.reduceToInt, Int32.toInt_zero, Int32.toInt_one, Int64.reduceToInt, Int64.toInt_zero, Int64.toInt_one, true_and, and_true, false_and, and_false, or_false, false_or, true_or, or_true] at *) <;> omega), if_neg (by (try simp only [z32lt, z32le, z32eq, z64, Int32.reduceToInt, Int32.toInt_zero, Int32.toInt_one, Int64.reduceToInt, Int64.toInt_zero, Int64.toInt_one, true_and, and_true, false_and, and_false, or_false, false_or, true_or, or_true] at *) <;> omega)]))

set_option maxRecDepth 100000 in
set_option maxHeartbeats 4000000 in
theorem p_X10_send (d : Nat) (f : zM) (a1 : Int32) : ZM (d + 3) yX10_send cX10_send 4 (some .int) [zr 25 0, zi a1] (zmix f) (fun r _ => r = some (zi (-1))) := by
  refine ZM.intro (by decide +kernel) (Nat.le_of_ble_eq_true rfl) ?_
  intro X C hr hn
  show Z X 0 [some (zr 25 0), some (zi a1), none, none] [] (zmix f)
  refine z_aload_n (pc := 0) C dX10_send_0 rfl ?_
  refine z_iload_n (pc := 1) C dX10_send_1 rfl ?_
  refine z_callV (pc := 2) C zk_X10_158 (p_X10_lets _ _ _) rfl rfl (by decide) rfl rfl (Nat.le_of_ble_eq_true rfl) dX10_send_2 (fun r2 g2 q2 => ?_)
  subst q2
  simp only [Option.toList, List.cons_append, List.nil_append]
  refine z_istore_n (pc := 5) C dX10_send_5 (by rw [hn]; decide) rfl ?_
  refine z_iload_n (pc := 6) C dX10_send_6 rfl ?_
  refine z_if_ge (pc := 7) 12 C dX10_send_7 (by decide) (fun h7 => absurd h7 (of_decide_eq_true rfl)) (fun h7 => ?_)
  refine z_iload_n (pc := 10) C dX10_send_10 rfl ?_
  exact z_iret (pc := 11) C hr dX10_send_11 (rfl)

set_option maxRecDepth 100000 in
set_option maxHeartbeats 4000000 in
theorem p_X10_triedAt (d : Nat) (f : zM) (h0 : f 25 0 2 = 0) (a1 a2 : Int32) : ZM d yX10_triedAt cX10_triedAt 5 (some .int) [zr 25 0, zi a1, zi a2] f (fun r g => r = some (zi 0) ∧ g = f) := by
  refine ZM.intro (by decide +kernel) (Nat.le_of_ble_eq_true rfl) ?_
  intro X C hr hn
  show Z X 0 [some (zr 25 0), some (zi a1), some (zi a2), none, none] [] f
  refine z_iconst (pc := 0) (v := 0) C dX10_triedAt_0 (by decide) ?_
  refine z_istore_n (pc := 1) C dX10_triedAt_1 (by rw [hn]; decide) rfl ?_
  refine z_iconst (pc := 2) (v := 0) C dX10_triedAt_2 (by decide) ?_
  refine z_istore (pc := 3) C dX10_triedAt_3 (by rw [hn]; decide) rfl ?_
  refine z_iload (pc := 5) C dX10_triedAt_5 rfl ?_
  refine z_aload_n (pc := 7) C dX10_triedAt_7 rfl ?_
  refine z_getI (pc := 8) C zf_X10_73 rfl rfl (by decide) dX10_triedAt_8 ?_
  refine z_icmp_ge (pc := 11) 42 C dX10_triedAt_11 (by decide) (fun h11 => ?_) (fun h11 => absurd (by rw [h0]; decide) h11)
  refine z_iload_n (pc := 42) C dX10_triedAt_42 rfl ?_
  exact z_iret (pc := 43) C hr dX10_triedAt_43 (⟨rfl, rfl⟩)

set_option maxRecDepth 100000 in
set_option maxHeartbeats 4000000 in
theorem p_X10_tried (d : Nat) (f : zM)  : ZM (d + 1) yX10_tried cX10_tried 1 (some .int) [zr 25 0] (zmix f) (fun r _ => r = some (zi (0))) := by
  refine ZM.intro (by decide +kernel) (Nat.le_of_ble_eq_true rfl) ?_
  intro X C hr hn
  show Z X 0 [some (zr 25 0)] [] (zmix f)
  refine z_aload_n (pc := 0) C dX10_tried_0 rfl ?_
  refine z_aload_n (pc := 1) C dX10_tried_1 rfl ?_
  refine z_getR (pc := 2) C zf_X10_22 rfl rfl (by decide) dX10_tried_2 ?_
  refine z_iconst (pc := 5) (v := 1) C dX10_tried_5 (by decide) ?_
  refine z_iald (pc := 6) C rfl (by decide) (zvp rfl) dX10_tried_6 ?_
  refine z_aload_n (pc := 7) C dX10_tried_7 rfl ?_
  refine z_getR (pc := 8) C zf_X10_22 rfl rfl (by decide) dX10_tried_8 ?_
  refine z_iconst (pc := 11) (v := 5) C dX10_tried_11 (by decide) ?_
  refine z_iald (pc := 12) C rfl (by decide) (zvp rfl) dX10_tried_12 ?_
  refine z_callVx (pc := 13) C zk_X10_165 (p_X10_triedAt _ _ rfl _ _) rfl rfl (by decide) rfl rfl (Nat.le_of_ble_eq_true rfl) dX10_tried_13 ?_
  simp only [Option.toList, List.cons_append, List.nil_append]
  exact z_iret (pc := 16) C hr dX10_tried_16 (rfl)

set_option maxRecDepth 100000 in
set_option maxHeartbeats 4000000 in
theorem p_X10_road (d : Nat) (f : zM) (a1 a2 a3 : Int32) : ZM (d + 2) yX10_road cX10_road 8 (some .int) [zr 25 0, zi a1, zi a2, zi a3] (zmix f) (fun r _ => r = some (zi (-1))) := by
  refine ZM.intro (by decide +kernel) (Nat.le_of_ble_eq_true rfl) ?_
  intro X C hr hn
  show Z X 0 [some (zr 25 0), some (zi a1), some (zi a2), some (zi a3), none, none, none, none] [] (zmix f)
  refine z_iload_n (pc := 0) C dX10_road_0 rfl ?_
  refine z_callSb (pc := 1) C zk_X10_83 (m_X10_isLand _ _ _) rfl rfl (Nat.le_of_ble_eq_true rfl) dX10_road_1 (fun h1 => ?_) (fun h1 => ?_)
  · skip
    refine z_if_eq (pc := 4) 20 C dX10_road_4 (by decide) (fun h4 => absurd h4 (of_decide_eq_true rfl)) (fun h4 => ?_)
    refine z_aload_n (pc := 7) C dX10_road_7 rfl ?_
    refine z_iload_n (pc := 8) C dX10_road_8 rfl ?_
    refine z_callVx (pc := 9) C zk_X10_120 (p_X10_isDeed _ _ _) rfl rfl (by decide) rfl rfl (Nat.le_of_ble_eq_true rfl) dX10_road_9 ?_
    simp only [Option.toList, List.cons_append, List.nil_append]
    refine z_if_eq (pc := 12) 20 C dX10_road_12 (by decide) (fun h12 => ?_) (fun h12 => absurd (of_decide_eq_true rfl) h12)
    refine z_iconst (pc := 20) (v := -1) C dX10_road_20 (by decide) ?_
    exact z_iret (pc := 21) C hr dX10_road_21 (rfl)
  · skip
    refine z_if_eq (pc := 4) 20 C dX10_road_4 (by decide) (fun h4 => ?_) (fun h4 => absurd (of_decide_eq_true rfl) h4)
    refine z_iconst (pc := 20) (v := -1) C dX10_road_20 (by decide) ?_
    exact z_iret (pc := 21) C hr dX10_road_21 (rfl)

set_option maxRecDepth 100000 in
set_option maxHeartbeats 4000000 in
theorem p_X10_findOpen (d : Nat) (f : zM) (h0 : f 25 0 4 = 0) : ZM d yX10_findOpen cX10_findOpen 3 none [zr 25 0] f (fun r g => r = none ∧ g = f) := by
  refine ZM.intro (by decide +kernel) (Nat.le_of_ble_eq_true rfl) ?_
  intro X C hr hn
  show Z X 0 [some (zr 25 0), none, none] [] f
  refine z_iconst (pc := 0) (v := 0) C dX10_findOpen_0 (by decide) ?_
  refine z_istore_n (pc := 1) C dX10_findOpen_1 (by rw [hn]; decide) rfl ?_
  refine z_iload_n (pc := 2) C dX10_findOpen_2 rfl ?_
  refine z_aload_n (pc := 3) C dX10_findOpen_3 rfl ?_
  refine z_getI (pc := 4) C zf_X10_77 rfl rfl (by decide) dX10_findOpen_4 ?_
  refine z_icmp_ge (pc := 7) 73 C dX10_findOpen_7 (by decide) (fun h7 => ?_) (fun h7 => absurd (by rw [h0]; decide) h7)
  exact z_vret (pc := 73) C hr dX10_findOpen_73 (⟨by simp, rfl⟩)

set_option maxRecDepth 100000 in
set_option maxHeartbeats 4000000 in
theorem p_X10_ahead (d : Nat) (f : zM) (a1 : Int32) : ZM (d + 1) yX10_ahead cX10_ahead 5 (some .int) [zr 25 0, zi a1] (zmix f) (fun r _ => r = some (zi (if 0 ≤ a1.toInt then -4 else -1))) := by
  refine ZM.intro (by decide +kernel) (Nat.le_of_ble_eq_true rfl) ?_
  intro X C hr hn
  show Z X 0 [some (zr 25 0), some (zi a1), none, none, none] [] (zmix f)
  refine z_iload_n (pc := 0) C dX10_ahead_0 rfl ?_
  refine z_if_ge (pc := 1) 6 C dX10_ahead_1 (by decide) (fun h1 => ?_) (fun h1 => ?_)
  · skip
    refine z_aload_n (pc := 6) C dX10_ahead_6 rfl ?_
    refine z_callVx (pc := 7) C zk_X10_151 (p_X10_findOpen _ _ rfl) rfl rfl (by decide) rfl rfl (Nat.le_of_ble_eq_true rfl) dX10_ahead_7 ?_
    simp only [Option.toList, List.cons_append, List.nil_append]
    refine z_iconst (pc := 10) (v := 0) C dX10_ahead_10 (by decide) ?_
    refine z_istore_n (pc := 11) C dX10_ahead_11 (by rw [hn]; decide) rfl ?_
    refine z_iload_n (pc := 12) C dX10_ahead_12 rfl ?_
    refine z_aload_n (pc := 13) C dX10_ahead_13 rfl ?_
    refine z_getI (pc := 14) C zf_X10_126 rfl rfl (by decide) dX10_ahead_14 ?_
    refine z_icmp_ge (pc := 17) 94 C dX10_ahead_17 (by decide) (fun h17 => ?_) (fun h17 => absurd (of_decide_eq_true rfl) h17)
    refine z_bipush (pc := 94) (v := -4) C dX10_ahead_94 (by decide) ?_
    exact z_iret (pc := 96) C hr dX10_ahead_96 (by first | rfl | (congr 2; rw [eq_comm]; first | (rw [if_neg (by (try simp only [z32lt, z32le, z32eq, z64, Int32.reduceToInt, Int32.toInt_zero, Int32.toInt_one, Int64.reduceToInt, Int64.toInt_zero, Int64.toInt_one, true_and, and_true, false_and, and_false, or_false, false_or, true_or, or_true] at *) <;> omega)]; done) | (rw [if_pos (by (try simp only [z32lt, z32le, z32eq, z64, Int32.reduceToInt, Int32.toInt_zero, Int32.toInt_one, Int64.reduceToInt, Int64.toInt_zero, Int64.toInt_one, true_and, and_true, false_and, and_false, or_false, false_or, true_or, or_true] at *) <;> omega)] <;> simp [zup, zmix, z0])))
  · skip
    refine z_iconst (pc := 4) (v := -1) C dX10_ahead_4 (by decide) ?_
    exact z_iret (pc := 5) C hr dX10_ahead_5 (by first | rfl | (congr 2; rw [eq_comm]; first | (rw [if_neg (by (try simp only [z32lt, z32le, z32eq, z64, Int32.reduceToInt, Int32.toInt_zero, Int32.toInt_one, Int64.reduceToInt, Int64.toInt_zero, Int64.toInt_one, true_and, and_true, false_and, and_false, or_false, false_or, true_or, or_true] at *) <;> omega)]; done) | (rw [if_pos (by (try simp only [z32lt, z32le, z32eq, z64, Int32.reduceToInt, Int32.toInt_zero, Int32.toInt_one, Int64.reduceToInt, Int64.toInt_zero, Int64.toInt_one, true_and, and_true, false_and, and_false, or_false, false_or, true_or, or_true] at *) <;> omega)] <;> simp [zup, zmix, z0])))

set_option maxRecDepth 100000 in
set_option maxHeartbeats 4000000 in
theorem p_X10_promises (d : Nat) (f : zM) (a1 a2 : Int32) : ZM (d + 2) yX10_promises cX10_promises 6 (some .int) [zr 25 0, zi a1, zi a2] (zmix f) (fun r _ => r = some (zi (-1))) := by
  refine ZM.intro (by decide +kernel) (Nat.le_of_ble_eq_true rfl) ?_
  intro X C hr hn
  show Z X 0 [some (zr 25 0), some (zi a1), some (zi a2), none, none, none] [] (zmix f)
  refine z_iload_n (pc := 0) C dX10_promises_0 rfl ?_
  refine z_callSb (pc := 1) C zk_X10_83 (m_X10_isLand _ _ _) rfl rfl (Nat.le_of_ble_eq_true rfl) dX10_promises_1 (fun h1 => ?_) (fun h1 => ?_)
  · skip
    refine z_if_eq (pc := 4) 15 C dX10_promises_4 (by decide) (fun h4 => absurd h4 (of_decide_eq_true rfl)) (fun h4 => ?_)
    refine z_aload_n (pc := 7) C dX10_promises_7 rfl ?_
    refine z_iload_n (pc := 8) C dX10_promises_8 rfl ?_
    refine z_callVx (pc := 9) C zk_X10_120 (p_X10_isDeed _ _ _) rfl rfl (by decide) rfl rfl (Nat.le_of_ble_eq_true rfl) dX10_promises_9 ?_
    simp only [Option.toList, List.cons_append, List.nil_append]
    refine z_if_ne (pc := 12) 17 C dX10_promises_12 (by decide) (fun h12 => absurd (of_decide_eq_true rfl) h12) (fun h12 => ?_)
    refine z_iconst (pc := 15) (v := -1) C dX10_promises_15 (by decide) ?_
    exact z_iret (pc := 16) C hr dX10_promises_16 (rfl)
  · skip
    refine z_if_eq (pc := 4) 15 C dX10_promises_4 (by decide) (fun h4 => ?_) (fun h4 => absurd (of_decide_eq_true rfl) h4)
    refine z_iconst (pc := 15) (v := -1) C dX10_promises_15 (by decide) ?_
    exact z_iret (pc := 16) C hr dX10_promises_16 (rfl)

set_option maxRecDepth 100000 in
set_option maxHeartbeats 4000000 in
theorem p_X10_mended (d : Nat) (f : zM) (a1 a2 : Int32) : ZM (d + 2) yX10_mended cX10_mended 9 (some .int) [zr 25 0, zi a1, zi a2] (zmix f) (fun r _ => r = some (zi (-1))) := by
  refine ZM.intro (by decide +kernel) (Nat.le_of_ble_eq_true rfl) ?_
  intro X C hr hn
  show Z X 0 [some (zr 25 0), some (zi a1), some (zi a2), none, none, none, none, none, none] [] (zmix f)
  refine z_iload_n (pc := 0) C dX10_mended_0 rfl ?_
  refine z_callSb (pc := 1) C zk_X10_83 (m_X10_isLand _ _ _) rfl rfl (Nat.le_of_ble_eq_true rfl) dX10_mended_1 (fun h1 => ?_) (fun h1 => ?_)
  · skip
    refine z_if_eq (pc := 4) 15 C dX10_mended_4 (by decide) (fun h4 => absurd h4 (of_decide_eq_true rfl)) (fun h4 => ?_)
    refine z_aload_n (pc := 7) C dX10_mended_7 rfl ?_
    refine z_iload_n (pc := 8) C dX10_mended_8 rfl ?_
    refine z_callVx (pc := 9) C zk_X10_120 (p_X10_isDeed _ _ _) rfl rfl (by decide) rfl rfl (Nat.le_of_ble_eq_true rfl) dX10_mended_9 ?_
    simp only [Option.toList, List.cons_append, List.nil_append]
    refine z_if_ne (pc := 12) 17 C dX10_mended_12 (by decide) (fun h12 => absurd (of_decide_eq_true rfl) h12) (fun h12 => ?_)
    refine z_iconst (pc := 15) (v := -1) C dX10_mended_15 (by decide) ?_
    exact z_iret (pc := 16) C hr dX10_mended_16 (rfl)
  · skip
    refine z_if_eq (pc := 4) 15 C dX10_mended_4 (by decide) (fun h4 => ?_) (fun h4 => absurd (of_decide_eq_true rfl) h4)
    refine z_iconst (pc := 15) (v := -1) C dX10_mended_15 (by decide) ?_
    exact z_iret (pc := 16) C hr dX10_mended_16 (rfl)

set_option maxRecDepth 100000 in
set_option maxHeartbeats 4000000 in
theorem p_X10_demand (d : Nat) (f : zM) (a1 a2 a3 : Int32) : ZM (d + 2) yX10_demand cX10_demand 4 (some .int) [zr 25 0, zi a1, zi a2, zi a3] (zmix f) (fun r _ => r = some (zi (-1))) := by
  refine ZM.intro (by decide +kernel) (Nat.le_of_ble_eq_true rfl) ?_
  intro X C hr hn
  show Z X 0 [some (zr 25 0), some (zi a1), some (zi a2), some (zi a3)] [] (zmix f)
  refine z_iload_n (pc := 0) C dX10_demand_0 rfl ?_
  refine z_callSb (pc := 1) C zk_X10_83 (m_X10_isLand _ _ _) rfl rfl (Nat.le_of_ble_eq_true rfl) dX10_demand_1 (fun h1 => ?_) (fun h1 => ?_)
  · skip
    refine z_if_eq (pc := 4) 33 C dX10_demand_4 (by decide) (fun h4 => absurd h4 (of_decide_eq_true rfl)) (fun h4 => ?_)
    refine z_iload_n (pc := 7) C dX10_demand_7 rfl ?_
    refine z_i2l (pc := 8) C dX10_demand_8 ?_
    refine z_lconst (pc := 9) (v := 1) C dX10_demand_9 (by decide) ?_
    refine z_aload_n (pc := 10) C dX10_demand_10 rfl ?_
    refine z_callVx (pc := 11) C zk_X10_131 (m_X10_allDeeds _ _) rfl rfl (by decide) rfl rfl (Nat.le_of_ble_eq_true rfl) dX10_demand_11 ?_
    simp only [Option.toList, List.cons_append, List.nil_append]
    refine z_i2l (pc := 14) C dX10_demand_14 ?_
    refine z_callSx (pc := 15) C zk_X10_69 (m_X10_in _ _ _ _ _) rfl rfl (Nat.le_of_ble_eq_true rfl) dX10_demand_15 ?_
    simp only [Option.toList, List.cons_append, List.nil_append]
    refine z_if_eq (pc := 18) 33 C dX10_demand_18 (by decide) (fun h18 => ?_) (fun h18 => absurd (by rw [if_neg (by rw [show (1 <<< (zmix f 25 0 2 &&& 31) - 1 : Int32).toInt64.toInt = 0 from by rw [show zmix f 25 0 2 = 0 from rfl]; decide, Int64.toInt_one]; omega)]) h18)
    refine z_iconst (pc := 33) (v := -1) C dX10_demand_33 (by decide) ?_
    exact z_iret (pc := 34) C hr dX10_demand_34 (rfl)
  · skip
    refine z_if_eq (pc := 4) 33 C dX10_demand_4 (by decide) (fun h4 => ?_) (fun h4 => absurd (of_decide_eq_true rfl) h4)
    refine z_iconst (pc := 33) (v := -1) C dX10_demand_33 (by decide) ?_
    exact z_iret (pc := 34) C hr dX10_demand_34 (rfl)

set_option maxRecDepth 100000 in
set_option maxHeartbeats 4000000 in
theorem p_X10_restore (d : Nat) (f : zM)  : ZM d yX10_restore cX10_restore 1 (some .int) [zr 25 0] (zmix f) (fun r _ => r = some (zi (-4))) := by
  refine ZM.intro (by decide +kernel) (Nat.le_of_ble_eq_true rfl) ?_
  intro X C hr hn
  show Z X 0 [some (zr 25 0)] [] (zmix f)
  refine z_aload_n (pc := 0) C dX10_restore_0 rfl ?_
  refine z_getI (pc := 1) C zf_X10_259 rfl rfl (by decide) dX10_restore_1 ?_
  refine z_if_ne (pc := 4) 10 C dX10_restore_4 (by decide) (fun h4 => absurd (of_decide_eq_true rfl) h4) (fun h4 => ?_)
  refine z_bipush (pc := 7) (v := -4) C dX10_restore_7 (by decide) ?_
  exact z_iret (pc := 9) C hr dX10_restore_9 (rfl)

set_option maxRecDepth 100000 in
set_option maxHeartbeats 4000000 in
theorem p_X10_drop (d : Nat) (f : zM) (a1 : Int32) : ZM (d + 1) yX10_drop cX10_drop 2 (some .int) [zr 25 0, zi a1] (zmix f) (fun r _ => r = some (zi (if 0 ≤ a1.toInt ∧ a1.toInt ≤ 3 then -11 else -1))) := by
  refine ZM.intro (by decide +kernel) (Nat.le_of_ble_eq_true rfl) ?_
  intro X C hr hn
  show Z X 0 [some (zr 25 0), some (zi a1)] [] (zmix f)
  refine z_iload_n (pc := 0) C dX10_drop_0 rfl ?_
  refine z_i2l (pc := 1) C dX10_drop_1 ?_
  refine z_lconst (pc := 2) (v := 0) C dX10_drop_2 (by decide) ?_
  refine z_ldc2 (pc := 3) C zw_1415 dX10_drop_3 ?_
  refine z_callSb (pc := 6) C zk_X10_69 (m_X10_in _ _ _ _ _) rfl rfl (Nat.le_of_ble_eq_true rfl) dX10_drop_6 (fun h6 => ?_) (fun h6 => ?_)
  · skip
    refine z_if_ne (pc := 9) 14 C dX10_drop_9 (by decide) (fun h9 => ?_) (fun h9 => absurd h9 (of_decide_eq_true rfl))
    rcases (show a1.toInt = 0 ∨ a1.toInt = 1 ∨ a1.toInt = 2 ∨ a1.toInt = 3 by (try simp only [z32lt, z32le, z32eq, z64, Int32.reduceToInt, Int32.toInt_zero, Int32.toInt_one, Int64.reduceToInt, Int64.toInt_zero, Int64.toInt_one, true_and, and_true, false_and, and_false, or_false, false_or, true_or, or_true] at *) <;> omega) with hsv | hsv | hsv | hsv
    · skip
      obtain rfl : a1 = 0 := (z32eq a1 0).mpr (by rw [hsv]; decide)
      refine z_aload_n (pc := 14) C dX10_drop_14 rfl ?_
      refine z_getR (pc := 15) C zf_X10_55 rfl rfl (by decide) dX10_drop_15 ?_
      refine z_iload_n (pc := 18) C dX10_drop_18 rfl ?_
      refine z_iald (pc := 19) C rfl (by decide) (zvp rfl) dX10_drop_19 ?_
      refine z_if_ge (pc := 20) 26 C dX10_drop_20 (by decide) (fun h20 => absurd h20 (of_decide_eq_true rfl)) (fun h20 => ?_)
      refine z_bipush (pc := 23) (v := -11) C dX10_drop_23 (by decide) ?_
      exact z_iret (pc := 25) C hr dX10_drop_25 (by first | rfl | (congr 2; rw [eq_comm]; first | (rw [if_neg (by (try simp only [z32lt, z32le, z32eq, z64, Int32.reduceToInt, Int32.toInt_zero, Int32.toInt_one, Int64.reduceToInt, Int64.toInt_zero, Int64.toInt_one, true_and, and_true, false_and, and_false, or_false, false_or, true_or, or_true] at *) <;> omega)]; done) | (rw [if_pos (by (try simp only [z32lt, z32le, z32eq, z64, Int32.reduceToInt, Int32.toInt_zero, Int32.toInt_one, Int64.reduceToInt, Int64.toInt_zero, Int64.toInt_one, true_and, and_true, false_and, and_false, or_false, false_or, true_or, or_true] at *) <;> omega)] <;> simp [zup, zmix, z0])))
    · skip
      obtain rfl : a1 = 1 := (z32eq a1 1).mpr (by rw [hsv]; decide)
      refine z_aload_n (pc := 14) C dX10_drop_14 rfl ?_
      refine z_getR (pc := 15) C zf_X10_55 rfl rfl (by decide) dX10_drop_15 ?_
      refine z_iload_n (pc := 18) C dX10_drop_18 rfl ?_
      refine z_iald (pc := 19) C rfl (by decide) (zvp rfl) dX10_drop_19 ?_
      refine z_if_ge (pc := 20) 26 C dX10_drop_20 (by decide) (fun h20 => absurd h20 (of_decide_eq_true rfl)) (fun h20 => ?_)
      refine z_bipush (pc := 23) (v := -11) C dX10_drop_23 (by decide) ?_
      exact z_iret (pc := 25) C hr dX10_drop_25 (by first | rfl | (congr 2; rw [eq_comm]; first | (rw [if_neg (by (try simp only [z32lt, z32le, z32eq, z64, Int32.reduceToInt, Int32.toInt_zero, Int32.toInt_one, Int64.reduceToInt, Int64.toInt_zero, Int64.toInt_one, true_and, and_true, false_and, and_false, or_false, false_or, true_or, or_true] at *) <;> omega)]; done) | (rw [if_pos (by (try simp only [z32lt, z32le, z32eq, z64, Int32.reduceToInt, Int32.toInt_zero, Int32.toInt_one, Int64.reduceToInt, Int64.toInt_zero, Int64.toInt_one, true_and, and_true, false_and, and_false, or_false, false_or, true_or, or_true] at *) <;> omega)] <;> simp [zup, zmix, z0])))
    · skip
      obtain rfl : a1 = 2 := (z32eq a1 2).mpr (by rw [hsv]; decide)
      refine z_aload_n (pc := 14) C dX10_drop_14 rfl ?_
      refine z_getR (pc := 15) C zf_X10_55 rfl rfl (by decide) dX10_drop_15 ?_
      refine z_iload_n (pc := 18) C dX10_drop_18 rfl ?_
      refine z_iald (pc := 19) C rfl (by decide) (zvp rfl) dX10_drop_19 ?_
      refine z_if_ge (pc := 20) 26 C dX10_drop_20 (by decide) (fun h20 => absurd h20 (of_decide_eq_true rfl)) (fun h20 => ?_)
      refine z_bipush (pc := 23) (v := -11) C dX10_drop_23 (by decide) ?_
      exact z_iret (pc := 25) C hr dX10_drop_25 (by first | rfl | (congr 2; rw [eq_comm]; first | (rw [if_neg (by (try simp only [z32lt, z32le, z32eq, z64, Int32.reduceToInt, Int32.toInt_zero, Int32.toInt_one, Int64.reduceToInt, Int64.toInt_zero, Int64.toInt_one, true_and, and_true, false_and, and_false, or_false, false_or, true_or, or_true] at *) <;> omega)]; done) | (rw [if_pos (by (try simp only [z32lt, z32le, z32eq, z64, Int32.reduceToInt, Int32.toInt_zero, Int32.toInt_one, Int64.reduceToInt, Int64.toInt_zero, Int64.toInt_one, true_and, and_true, false_and, and_false, or_false, false_or, true_or, or_true] at *) <;> omega)] <;> simp [zup, zmix, z0])))
    · skip
      obtain rfl : a1 = 3 := (z32eq a1 3).mpr (by rw [hsv]; decide)
      refine z_aload_n (pc := 14) C dX10_drop_14 rfl ?_
      refine z_getR (pc := 15) C zf_X10_55 rfl rfl (by decide) dX10_drop_15 ?_
      refine z_iload_n (pc := 18) C dX10_drop_18 rfl ?_
      refine z_iald (pc := 19) C rfl (by decide) (zvp rfl) dX10_drop_19 ?_
      refine z_if_ge (pc := 20) 26 C dX10_drop_20 (by decide) (fun h20 => absurd h20 (of_decide_eq_true rfl)) (fun h20 => ?_)
      refine z_bipush (pc := 23) (v := -11) C dX10_drop_23 (by decide) ?_
      exact z_iret (pc := 25) C hr dX10_drop_25 (by first | rfl | (congr 2; rw [eq_comm]; first | (rw [if_neg (by (try simp only [z32lt, z32le, z32eq, z64, Int32.reduceToInt, Int32.toInt_zero, Int32.toInt_one, Int64.reduceToInt, Int64.toInt_zero, Int64.toInt_one, true_and, and_true, false_and, and_false, or_false, false_or, true_or, or_true] at *) <;> omega)]; done) | (rw [if_pos (by (try simp only [z32lt, z32le, z32eq, z64, Int32.reduceToInt, Int32.toInt_zero, Int32.toInt_one, Int64.reduceToInt, Int64.toInt_zero, Int64.toInt_one, true_and, and_true, false_and, and_false, or_false, false_or, true_or, or_true] at *) <;> omega)] <;> simp [zup, zmix, z0])))
  · skip
    refine z_if_ne (pc := 9) 14 C dX10_drop_9 (by decide) (fun h9 => absurd (of_decide_eq_true rfl) h9) (fun h9 => ?_)
    refine z_iconst (pc := 12) (v := -1) C dX10_drop_12 (by decide) ?_
    exact z_iret (pc := 13) C hr dX10_drop_13 (by first | rfl | (congr 2; rw [eq_comm]; first | (rw [if_neg (by (try simp only [z32lt, z32le, z32eq, z64, Int32.reduceToInt, Int32.toInt_zero, Int32.toInt_one, Int64.reduceToInt, Int64.toInt_zero, Int64.toInt_one, true_and, and_true, false_and, and_false, or_false, false_or, true_or, or_true] at *) <;> omega)]; done) | (rw [if_pos (by (try simp only [z32lt, z32le, z32eq, z64, Int32.reduceToInt, Int32.toInt_zero, Int32.toInt_one, Int64.reduceToInt, Int64.toInt_zero, Int64.toInt_one, true_and, and_true, false_and, and_false, or_false, false_or, true_or, or_true] at *) <;> omega)] <;> simp [zup, zmix, z0])))

set_option maxRecDepth 100000 in
set_option maxHeartbeats 4000000 in
theorem p_X10_lacksRow (d : Nat) (f : zM) (a1 a2 a3 a4 : Int32) (h1 : 0 ≤ a1.toInt ∧ a1.toInt ≤ 3) (h2 : 0 ≤ a2.toInt) : ZM d yX10_lacksRow cX10_lacksRow 5 (some .int) [zr 25 0, zi a1, zi a2, zi a3, zi a4] (zmix f) (fun r g => r = some (zi (-11)) ∧ g = zmix f) := by
  refine ZM.intro (by decide +kernel) (Nat.le_of_ble_eq_true rfl) ?_
  intro X C hr hn
  show Z X 0 [some (zr 25 0), some (zi a1), some (zi a2), some (zi a3), some (zi a4)] [] (zmix f)
  rcases (show a1.toInt = 0 ∨ a1.toInt = 1 ∨ a1.toInt = 2 ∨ a1.toInt = 3 by (try simp only [z32lt, z32le, z32eq, z64, Int32.reduceToInt, Int32.toInt_zero, Int32.toInt_one, Int64.reduceToInt, Int64.toInt_zero, Int64.toInt_one, true_and, and_true, false_and, and_false, or_false, false_or, true_or, or_true] at *) <;> omega) with hsv | hsv | hsv | hsv
  · skip
    obtain rfl : a1 = 0 := (z32eq a1 0).mpr (by rw [hsv]; decide)
    refine z_aload_n (pc := 0) C dX10_lacksRow_0 rfl ?_
    refine z_getR (pc := 1) C zf_X10_55 rfl rfl (by decide) dX10_lacksRow_1 ?_
    refine z_iload_n (pc := 4) C dX10_lacksRow_4 rfl ?_
    refine z_iald (pc := 5) C rfl (by decide) (zvp rfl) dX10_lacksRow_5 ?_
    refine z_iload_n (pc := 6) C dX10_lacksRow_6 rfl ?_
    refine z_icmp_eq (pc := 7) 27 C dX10_lacksRow_7 (by decide) (fun h7 => absurd h7 (fun h => absurd h2 (by rw [← h]; exact of_decide_eq_true rfl))) (fun h7 => ?_)
    refine z_aload_n (pc := 10) C dX10_lacksRow_10 rfl ?_
    refine z_getR (pc := 11) C zf_X10_55 rfl rfl (by decide) dX10_lacksRow_11 ?_
    refine z_iload_n (pc := 14) C dX10_lacksRow_14 rfl ?_
    refine z_iald (pc := 15) C rfl (by decide) (zvp rfl) dX10_lacksRow_15 ?_
    refine z_if_ge (pc := 16) 24 C dX10_lacksRow_16 (by decide) (fun h16 => absurd h16 (of_decide_eq_true rfl)) (fun h16 => ?_)
    refine z_bipush (pc := 19) (v := -11) C dX10_lacksRow_19 (by decide) ?_
    refine z_goto (pc := 21) 26 C dX10_lacksRow_21 (by decide) ?_
    exact z_iret (pc := 26) C hr dX10_lacksRow_26 (⟨rfl, rfl⟩)
  · skip
    obtain rfl : a1 = 1 := (z32eq a1 1).mpr (by rw [hsv]; decide)
    refine z_aload_n (pc := 0) C dX10_lacksRow_0 rfl ?_
    refine z_getR (pc := 1) C zf_X10_55 rfl rfl (by decide) dX10_lacksRow_1 ?_
    refine z_iload_n (pc := 4) C dX10_lacksRow_4 rfl ?_
    refine z_iald (pc := 5) C rfl (by decide) (zvp rfl) dX10_lacksRow_5 ?_
    refine z_iload_n (pc := 6) C dX10_lacksRow_6 rfl ?_
    refine z_icmp_eq (pc := 7) 27 C dX10_lacksRow_7 (by decide) (fun h7 => absurd h7 (fun h => absurd h2 (by rw [← h]; exact of_decide_eq_true rfl))) (fun h7 => ?_)
    refine z_aload_n (pc := 10) C dX10_lacksRow_10 rfl ?_
    refine z_getR (pc := 11) C zf_X10_55 rfl rfl (by decide) dX10_lacksRow_11 ?_
    refine z_iload_n (pc := 14) C dX10_lacksRow_14 rfl ?_
    refine z_iald (pc := 15) C rfl (by decide) (zvp rfl) dX10_lacksRow_15 ?_
    refine z_if_ge (pc := 16) 24 C dX10_lacksRow_16 (by decide) (fun h16 => absurd h16 (of_decide_eq_true rfl)) (fun h16 => ?_)
    refine z_bipush (pc := 19) (v := -11) C dX10_lacksRow_19 (by decide) ?_
    refine z_goto (pc := 21) 26 C dX10_lacksRow_21 (by decide) ?_
    exact z_iret (pc := 26) C hr dX10_lacksRow_26 (⟨rfl, rfl⟩)
  · skip
    obtain rfl : a1 = 2 := (z32eq a1 2).mpr (by rw [hsv]; decide)
    refine z_aload_n (pc := 0) C dX10_lacksRow_0 rfl ?_
    refine z_getR (pc := 1) C zf_X10_55 rfl rfl (by decide) dX10_lacksRow_1 ?_
    refine z_iload_n (pc := 4) C dX10_lacksRow_4 rfl ?_
    refine z_iald (pc := 5) C rfl (by decide) (zvp rfl) dX10_lacksRow_5 ?_
    refine z_iload_n (pc := 6) C dX10_lacksRow_6 rfl ?_
    refine z_icmp_eq (pc := 7) 27 C dX10_lacksRow_7 (by decide) (fun h7 => absurd h7 (fun h => absurd h2 (by rw [← h]; exact of_decide_eq_true rfl))) (fun h7 => ?_)
    refine z_aload_n (pc := 10) C dX10_lacksRow_10 rfl ?_
    refine z_getR (pc := 11) C zf_X10_55 rfl rfl (by decide) dX10_lacksRow_11 ?_
    refine z_iload_n (pc := 14) C dX10_lacksRow_14 rfl ?_
    refine z_iald (pc := 15) C rfl (by decide) (zvp rfl) dX10_lacksRow_15 ?_
    refine z_if_ge (pc := 16) 24 C dX10_lacksRow_16 (by decide) (fun h16 => absurd h16 (of_decide_eq_true rfl)) (fun h16 => ?_)
    refine z_bipush (pc := 19) (v := -11) C dX10_lacksRow_19 (by decide) ?_
    refine z_goto (pc := 21) 26 C dX10_lacksRow_21 (by decide) ?_
    exact z_iret (pc := 26) C hr dX10_lacksRow_26 (⟨rfl, rfl⟩)
  · skip
    obtain rfl : a1 = 3 := (z32eq a1 3).mpr (by rw [hsv]; decide)
    refine z_aload_n (pc := 0) C dX10_lacksRow_0 rfl ?_
    refine z_getR (pc := 1) C zf_X10_55 rfl rfl (by decide) dX10_lacksRow_1 ?_
    refine z_iload_n (pc := 4) C dX10_lacksRow_4 rfl ?_
    refine z_iald (pc := 5) C rfl (by decide) (zvp rfl) dX10_lacksRow_5 ?_
    refine z_iload_n (pc := 6) C dX10_lacksRow_6 rfl ?_
    refine z_icmp_eq (pc := 7) 27 C dX10_lacksRow_7 (by decide) (fun h7 => absurd h7 (fun h => absurd h2 (by rw [← h]; exact of_decide_eq_true rfl))) (fun h7 => ?_)
    refine z_aload_n (pc := 10) C dX10_lacksRow_10 rfl ?_
    refine z_getR (pc := 11) C zf_X10_55 rfl rfl (by decide) dX10_lacksRow_11 ?_
    refine z_iload_n (pc := 14) C dX10_lacksRow_14 rfl ?_
    refine z_iald (pc := 15) C rfl (by decide) (zvp rfl) dX10_lacksRow_15 ?_
    refine z_if_ge (pc := 16) 24 C dX10_lacksRow_16 (by decide) (fun h16 => absurd h16 (of_decide_eq_true rfl)) (fun h16 => ?_)
    refine z_bipush (pc := 19) (v := -11) C dX10_lacksRow_19 (by decide) ?_
    refine z_goto (pc := 21) 26 C dX10_lacksRow_21 (by decide) ?_
    exact z_iret (pc := 26) C hr dX10_lacksRow_26 (⟨rfl, rfl⟩)

set_option maxRecDepth 100000 in
set_option maxHeartbeats 4000000 in
theorem p_X10_item (d : Nat) (f : zM) (a1 a2 a3 a4 : Int32) : ZM (d + 2) yX10_item cX10_item 6 (some .int) [zr 25 0, zi a1, zi a2, zi a3, zi a4] (zmix f) (fun r _ => r = some (zi (if (0 ≤ a1.toInt ∧ a1.toInt ≤ 3) ∧ (0 ≤ a2.toInt ∧ a2.toInt ≤ 2) then -11 else -1))) := by
  refine ZM.intro (by decide +kernel) (Nat.le_of_ble_eq_true rfl) ?_
  intro X C hr hn
  show Z X 0 [some (zr 25 0), some (zi a1), some (zi a2), some (zi a3), some (zi a4), none] [] (zmix f)
  refine z_iload_n (pc := 0) C dX10_item_0 rfl ?_
  refine z_iload_n (pc := 1) C dX10_item_1 rfl ?_
  refine z_callSb (pc := 2) C zk_X10_268 (m_X10_isSheet _ _ _ _) rfl rfl (Nat.le_of_ble_eq_true rfl) dX10_item_2 (fun h2 => ?_) (fun h2 => ?_)
  · skip
    refine z_if_ne (pc := 5) 10 C dX10_item_5 (by decide) (fun h5 => ?_) (fun h5 => absurd h5 (of_decide_eq_true rfl))
    refine z_aload_n (pc := 10) C dX10_item_10 rfl ?_
    refine z_iload_n (pc := 11) C dX10_item_11 rfl ?_
    refine z_iload_n (pc := 12) C dX10_item_12 rfl ?_
    refine z_iload_n (pc := 13) C dX10_item_13 rfl ?_
    refine z_iconst (pc := 14) (v := 1) C dX10_item_14 (by decide) ?_
    refine z_callVx (pc := 15) C zk_X10_271 (p_X10_lacksRow _ _ _ _ _ _ h2.1 h2.2.1) rfl rfl (by decide) rfl rfl (Nat.le_of_ble_eq_true rfl) dX10_item_15 ?_
    simp only [Option.toList, List.cons_append, List.nil_append]
    refine z_istore (pc := 18) C dX10_item_18 (by rw [hn]; decide) rfl ?_
    refine z_iload (pc := 20) C dX10_item_20 rfl ?_
    refine z_if_ge (pc := 22) 28 C dX10_item_22 (by decide) (fun h22 => absurd h22 (of_decide_eq_true rfl)) (fun h22 => ?_)
    refine z_iload (pc := 25) C dX10_item_25 rfl ?_
    exact z_iret (pc := 27) C hr dX10_item_27 (by first | rfl | (congr 2; rw [eq_comm]; first | (rw [if_neg (by (try simp only [z32lt, z32le, z32eq, z64, Int32.reduceToInt, Int32.toInt_zero, Int32.toInt_one, Int64.reduceToInt, Int64.toInt_zero, Int64.toInt_one, true_and, and_true, false_and, and_false, or_false, false_or, true_or, or_true] at *) <;> omega)]; done) | (rw [if_pos (by (try simp only [z32lt, z32le, z32eq, z64, Int32.reduceToInt, Int32.toInt_zero, Int32.toInt_one, Int64.reduceToInt, Int64.toInt_zero, Int64.toInt_one, true_and, and_true, false_and, and_false, or_false, false_or, true_or, or_true] at *) <;> omega)] <;> simp [zup, zmix, z0])))
  · skip
    refine z_if_ne (pc := 5) 10 C dX10_item_5 (by decide) (fun h5 => absurd (of_decide_eq_true rfl) h5) (fun h5 => ?_)
    refine z_iconst (pc := 8) (v := -1) C dX10_item_8 (by decide) ?_
    exact z_iret (pc := 9) C hr dX10_item_9 (by first | rfl | (congr 2; rw [eq_comm]; first | (rw [if_neg (by (try simp only [z32lt, z32le, z32eq, z64, Int32.reduceToInt, Int32.toInt_zero, Int32.toInt_one, Int64.reduceToInt, Int64.toInt_zero, Int64.toInt_one, true_and, and_true, false_and, and_false, or_false, false_or, true_or, or_true] at *) <;> omega)]; done) | (rw [if_pos (by (try simp only [z32lt, z32le, z32eq, z64, Int32.reduceToInt, Int32.toInt_zero, Int32.toInt_one, Int64.reduceToInt, Int64.toInt_zero, Int64.toInt_one, true_and, and_true, false_and, and_false, or_false, false_or, true_or, or_true] at *) <;> omega)] <;> simp [zup, zmix, z0])))
