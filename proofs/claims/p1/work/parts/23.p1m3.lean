set_option maxRecDepth 100000 in
set_option maxHeartbeats 4000000 in
theorem p_X10_crimesOf (d : Nat) (f : zM) (h0 : f 25 0 0 = 0) (a1 a2 : Int32) : ZM d yX10_crimesOf cX10_crimesOf 5 (some .int) [zr 25 0, zi a1, zi a2] f (fun r g => r = some (zi 0) ∧ g = f) := by
  refine ZM.intro (by decide +kernel) (Nat.le_of_ble_eq_true rfl) ?_
  intro X C hr hn
  show Z X 0 [some (zr 25 0), some (zi a1), some (zi a2), none, none] [] f
  refine z_iconst (pc := 0) (v := 0) C dX10_crimesOf_0 (by decide) ?_
  refine z_istore_n (pc := 1) C dX10_crimesOf_1 (by rw [hn]; decide) rfl ?_
  refine z_iconst (pc := 2) (v := 0) C dX10_crimesOf_2 (by decide) ?_
  refine z_istore (pc := 3) C dX10_crimesOf_3 (by rw [hn]; decide) rfl ?_
  refine z_iload (pc := 5) C dX10_crimesOf_5 rfl ?_
  refine z_aload_n (pc := 7) C dX10_crimesOf_7 rfl ?_
  refine z_getI (pc := 8) C zf_X10_80 rfl rfl (by decide) dX10_crimesOf_8 ?_
  refine z_icmp_ge (pc := 11) 55 C dX10_crimesOf_11 (by decide) (fun h11 => ?_) (fun h11 => absurd (by rw [h0]; decide) h11)
  refine z_iload_n (pc := 55) C dX10_crimesOf_55 rfl ?_
  exact z_iret (pc := 56) C hr dX10_crimesOf_56 (⟨rfl, rfl⟩)

set_option maxRecDepth 100000 in
set_option maxHeartbeats 4000000 in
theorem partm_loop {X : zX} {d : Nat} {f : zM} {a1 a2 a3 : Int32} (C : zC X cX10_part yX10_part.cls (d + 1)) (hn : znL X = 7) (kk : Z X 93 [some (zr 25 0), some (zi a1), some (zi a2), some (zi a3), some (zi (-4)), some (zi 0), some (zi (nI 0))] [] (zmix f)) :
    ∀ (m : Nat), m ≤ 63 → Z X 42 [some (zr 25 0), some (zi a1), some (zi a2), some (zi a3), some (zi (-4)), some (zi 0), some (zi (nI m))] [] (zmix f) := by
  intro m
  induction m with
  | zero =>
    intro hm
    refine z_iload (pc := 42) C dX10_part_42 rfl ?_
    exact z_if_le (pc := 44) 93 C dX10_part_44 (by decide) (fun _ => kk) (fun h => absurd (by decide) h)
  | succ m ih =>
    intro hm
    refine z_iload (pc := 42) C dX10_part_42 rfl ?_
    refine z_if_le (pc := 44) 93 C dX10_part_44 (by decide) (fun h => absurd h (nI_nle (n := m + 1) (by omega) (by omega))) (fun _ => ?_)
    refine z_aload_n (pc := 47) C dX10_part_47 rfl ?_
    refine z_iload (pc := 48) C dX10_part_48 rfl ?_
    refine z_iload_n (pc := 50) C dX10_part_50 rfl ?_
    refine z_callVx (pc := 51) C zk_X10_116 (p_X10_crimesOf _ _ rfl _ _) rfl rfl (by decide) rfl rfl (Nat.le_of_ble_eq_true rfl) dX10_part_51 ?_
    simp only [Option.toList, List.cons_append, List.nil_append]
    refine z_if_eq (pc := 54) 61 C dX10_part_54 (by decide) (fun h54 => ?_) (fun h54 => absurd (of_decide_eq_true rfl) h54)
    refine z_iconst (pc := 61) (v := 0) C dX10_part_61 (by decide) ?_
    refine z_aload_n (pc := 62) C dX10_part_62 rfl ?_
    refine z_iload (pc := 63) C dX10_part_63 rfl ?_
    refine z_iload_n (pc := 65) C dX10_part_65 rfl ?_
    refine z_callVx (pc := 66) C zk_X10_116 (p_X10_crimesOf _ _ rfl _ _) rfl rfl (by decide) rfl rfl (Nat.le_of_ble_eq_true rfl) dX10_part_66 ?_
    simp only [Option.toList, List.cons_append, List.nil_append]
    refine z_if_eq (pc := 69) 76 C dX10_part_69 (by decide) (fun h69 => ?_) (fun h69 => absurd (of_decide_eq_true rfl) h69)
    refine z_iconst (pc := 76) (v := 0) C dX10_part_76 (by decide) ?_
    refine z_icmp_eq (pc := 77) 87 C dX10_part_77 (by decide) (fun h77 => ?_) (fun h77 => absurd (of_decide_eq_true rfl) h77)
    refine z_iinc (pc := 87) (v := -1) C dX10_part_87 rfl (by decide) (by rw [hn]; decide) rfl ?_
    refine z_goto (pc := 90) 42 C dX10_part_90 (by decide) ?_
    rw [nI_dec]
    exact ih (by omega)
set_option maxRecDepth 100000 in
set_option maxHeartbeats 4000000 in
theorem p_X10_part (d : Nat) (f : zM) (a1 a2 a3 : Int32) : ZM (d + 2) yX10_part cX10_part 7 (some .int) [zr 25 0, zi a1, zi a2, zi a3] (zmix f) (fun r _ => r = some (zi (if (0 ≤ a1.toInt ∧ a1.toInt ≤ 5) ∧ (0 ≤ a2.toInt ∧ a2.toInt ≤ 5) ∧ ¬ a1.toInt = a2.toInt ∧ (0 ≤ a3.toInt ∧ a3.toInt ≤ 1) then (if a3 = 0 then -4 else 0) else -1))) := by
  refine ZM.intro (by decide +kernel) (Nat.le_of_ble_eq_true rfl) ?_
  intro X C hr hn
  show Z X 0 [some (zr 25 0), some (zi a1), some (zi a2), some (zi a3), none, none, none] [] (zmix f)
  refine z_iload_n (pc := 0) C dX10_part_0 rfl ?_
  refine z_callSb (pc := 1) C zk_X10_83 (m_X10_isLand _ _ _) rfl rfl (Nat.le_of_ble_eq_true rfl) dX10_part_1 (fun h1 => ?_) (fun h1 => ?_)
  · skip
    refine z_if_eq (pc := 4) 29 C dX10_part_4 (by decide) (fun h4 => absurd h4 (of_decide_eq_true rfl)) (fun h4 => ?_)
    refine z_iload_n (pc := 7) C dX10_part_7 rfl ?_
    refine z_callSb (pc := 8) C zk_X10_83 (m_X10_isLand _ _ _) rfl rfl (Nat.le_of_ble_eq_true rfl) dX10_part_8 (fun h8 => ?_) (fun h8 => ?_)
    · skip
      refine z_if_eq (pc := 11) 29 C dX10_part_11 (by decide) (fun h11 => absurd h11 (of_decide_eq_true rfl)) (fun h11 => ?_)
      refine z_iload_n (pc := 14) C dX10_part_14 rfl ?_
      refine z_iload_n (pc := 15) C dX10_part_15 rfl ?_
      refine z_icmp_eq (pc := 16) 29 C dX10_part_16 (by decide) (fun h16 => ?_) (fun h16 => ?_)
      · skip
        refine z_iconst (pc := 29) (v := -1) C dX10_part_29 (by decide) ?_
        exact z_iret (pc := 30) C hr dX10_part_30 (by first | rfl | (congr 2; rw [eq_comm]; first | (rw [if_neg (by (try simp only [z32lt, z32le, z32eq, z64, Int32.reduceToInt, Int32.toInt_zero, Int32.toInt_one, Int64.reduceToInt, Int64.toInt_zero, Int64.toInt_one, true_and, and_true, false_and, and_false, or_false, false_or, true_or, or_true] at *) <;> omega)]; done) | (rw [if_pos (by (try simp only [z32lt, z32le, z32eq, z64, Int32.reduceToInt, Int32.toInt_zero, Int32.toInt_one, Int64.reduceToInt, Int64.toInt_zero, Int64.toInt_one, true_and, and_true, false_and, and_false, or_false, false_or, true_or, or_true] at *) <;> omega)] <;> simp [zup, zmix, z0])))
      · skip
        refine z_iload_n (pc := 19) C dX10_part_19 rfl ?_
        refine z_i2l (pc := 20) C dX10_part_20 ?_
        refine z_lconst (pc := 21) (v := 0) C dX10_part_21 (by decide) ?_
        refine z_lconst (pc := 22) (v := 1) C dX10_part_22 (by decide) ?_
        refine z_callSb (pc := 23) C zk_X10_69 (m_X10_in _ _ _ _ _) rfl rfl (Nat.le_of_ble_eq_true rfl) dX10_part_23 (fun h23 => ?_) (fun h23 => ?_)
        · skip
          refine z_if_ne (pc := 26) 31 C dX10_part_26 (by decide) (fun h26 => ?_) (fun h26 => absurd h26 (of_decide_eq_true rfl))
          refine z_bipush (pc := 31) (v := -4) C dX10_part_31 (by decide) ?_
          refine z_istore (pc := 33) C dX10_part_33 (by rw [hn]; decide) rfl ?_
          refine z_iconst (pc := 35) (v := 0) C dX10_part_35 (by decide) ?_
          refine z_istore (pc := 36) C dX10_part_36 (by rw [hn]; decide) rfl ?_
          refine z_bipush (pc := 38) (v := 63) C dX10_part_38 (by decide) ?_
          refine z_istore (pc := 40) C dX10_part_40 (by rw [hn]; decide) rfl ?_
          refine partm_loop C hn ?_ 63 (by decide)
          refine z_iload_n (pc := 93) C dX10_part_93 rfl ?_
          refine z_if_ne (pc := 94) 102 C dX10_part_94 (by decide) (fun h94 => ?_) (fun h94 => ?_)
          · skip
            refine z_iload (pc := 102) C dX10_part_102 rfl ?_
            exact z_iret (pc := 104) C hr dX10_part_104 (by congr 2; rw [eq_comm, if_pos (by (try simp only [z32lt, z32le, z32eq, z64, Int32.reduceToInt, Int32.toInt_zero, Int32.toInt_one, Int64.reduceToInt, Int64.toInt_zero, Int64.toInt_one, true_and, and_true, false_and, and_false, or_false, false_or, true_or, or_true] at *) <;> omega)]; first | (rw [if_pos h94]; done) | (rw [if_neg h94]; done))
          · skip
            refine z_iload (pc := 97) C dX10_part_97 rfl ?_
            refine z_goto (pc := 99) 104 C dX10_part_99 (by decide) ?_
            exact z_iret (pc := 104) C hr dX10_part_104 (by congr 2; rw [eq_comm, if_pos (by (try simp only [z32lt, z32le, z32eq, z64, Int32.reduceToInt, Int32.toInt_zero, Int32.toInt_one, Int64.reduceToInt, Int64.toInt_zero, Int64.toInt_one, true_and, and_true, false_and, and_false, or_false, false_or, true_or, or_true] at *) <;> omega)]; first | (rw [if_pos h94]; done) | (rw [if_neg h94]; done))
        · skip
          refine z_if_ne (pc := 26) 31 C dX10_part_26 (by decide) (fun h26 => absurd (of_decide_eq_true rfl) h26) (fun h26 => ?_)
          refine z_iconst (pc := 29) (v := -1) C dX10_part_29 (by decide) ?_
          exact z_iret (pc := 30) C hr dX10_part_30 (by first | rfl | (congr 2; rw [eq_comm]; first | (rw [if_neg (by (try simp only [z32lt, z32le, z32eq, z64, Int32.reduceToInt, Int32.toInt_zero, Int32.toInt_one, Int64.reduceToInt, Int64.toInt_zero, Int64.toInt_one, true_and, and_true, false_and, and_false, or_false, false_or, true_or, or_true] at *) <;> omega)]; done) | (rw [if_pos (by (try simp only [z32lt, z32le, z32eq, z64, Int32.reduceToInt, Int32.toInt_zero, Int32.toInt_one, Int64.reduceToInt, Int64.toInt_zero, Int64.toInt_one, true_and, and_true, false_and, and_false, or_false, false_or, true_or, or_true] at *) <;> omega)] <;> simp [zup, zmix, z0])))
    · skip
      refine z_if_eq (pc := 11) 29 C dX10_part_11 (by decide) (fun h11 => ?_) (fun h11 => absurd (of_decide_eq_true rfl) h11)
      refine z_iconst (pc := 29) (v := -1) C dX10_part_29 (by decide) ?_
      exact z_iret (pc := 30) C hr dX10_part_30 (by first | rfl | (congr 2; rw [eq_comm]; first | (rw [if_neg (by (try simp only [z32lt, z32le, z32eq, z64, Int32.reduceToInt, Int32.toInt_zero, Int32.toInt_one, Int64.reduceToInt, Int64.toInt_zero, Int64.toInt_one, true_and, and_true, false_and, and_false, or_false, false_or, true_or, or_true] at *) <;> omega)]; done) | (rw [if_pos (by (try simp only [z32lt, z32le, z32eq, z64, Int32.reduceToInt, Int32.toInt_zero, Int32.toInt_one, Int64.reduceToInt, Int64.toInt_zero, Int64.toInt_one, true_and, and_true, false_and, and_false, or_false, false_or, true_or, or_true] at *) <;> omega)] <;> simp [zup, zmix, z0])))
  · skip
    refine z_if_eq (pc := 4) 29 C dX10_part_4 (by decide) (fun h4 => ?_) (fun h4 => absurd (of_decide_eq_true rfl) h4)
    refine z_iconst (pc := 29) (v := -1) C dX10_part_29 (by decide) ?_
    exact z_iret (pc := 30) C hr dX10_part_30 (by first | rfl | (congr 2; rw [eq_comm]; first | (rw [if_neg (by (try simp only [z32lt, z32le, z32eq, z64, Int32.reduceToInt, Int32.toInt_zero, Int32.toInt_one, Int64.reduceToInt, Int64.toInt_zero, Int64.toInt_one, true_and, and_true, false_and, and_false, or_false, false_or, true_or, or_true] at *) <;> omega)]; done) | (rw [if_pos (by (try simp only [z32lt, z32le, z32eq, z64, Int32.reduceToInt, Int32.toInt_zero, Int32.toInt_one, Int64.reduceToInt, Int64.toInt_zero, Int64.toInt_one, true_and, and_true, false_and, and_false, or_false, false_or, true_or, or_true] at *) <;> omega)] <;> simp [zup, zmix, z0])))

set_option maxRecDepth 100000 in
set_option maxHeartbeats 4000000 in
theorem p_X10_safe (d : Nat) (f : zM) (a1 : Int32) : ZM (d + 1) yX10_safe cX10_safe 6 (some .int) [zr 25 0, zi a1] (zmix f) (fun r _ => r = some (zi (if 0 ≤ a1.toInt ∧ a1.toInt ≤ 1 then 63 else -1))) := by
  refine ZM.intro (by decide +kernel) (Nat.le_of_ble_eq_true rfl) ?_
  intro X C hr hn
  show Z X 0 [some (zr 25 0), some (zi a1), none, none, none, none] [] (zmix f)
  refine z_iload_n (pc := 0) C dX10_safe_0 rfl ?_
  refine z_i2l (pc := 1) C dX10_safe_1 ?_
  refine z_lconst (pc := 2) (v := 0) C dX10_safe_2 (by decide) ?_
  refine z_lconst (pc := 3) (v := 1) C dX10_safe_3 (by decide) ?_
  refine z_callSb (pc := 4) C zk_X10_69 (m_X10_in _ _ _ _ _) rfl rfl (Nat.le_of_ble_eq_true rfl) dX10_safe_4 (fun h4 => ?_) (fun h4 => ?_)
  · skip
    refine z_if_ne (pc := 7) 12 C dX10_safe_7 (by decide) (fun h7 => ?_) (fun h7 => absurd h7 (of_decide_eq_true rfl))
    rcases (show a1.toInt = 0 ∨ a1.toInt = 1 by (try simp only [z32lt, z32le, z32eq, z64, Int32.reduceToInt, Int32.toInt_zero, Int32.toInt_one, Int64.reduceToInt, Int64.toInt_zero, Int64.toInt_one, true_and, and_true, false_and, and_false, or_false, false_or, true_or, or_true] at *) <;> omega) with hsv | hsv
    · skip
      obtain rfl : a1 = 0 := (z32eq a1 0).mpr (by rw [hsv]; decide)
      refine z_aload_n (pc := 12) C dX10_safe_12 rfl ?_
      refine z_callVx (pc := 13) C zk_X10_151 (p_X10_findOpen _ _ rfl) rfl rfl (by decide) rfl rfl (Nat.le_of_ble_eq_true rfl) dX10_safe_13 ?_
      simp only [Option.toList, List.cons_append, List.nil_append]
      refine z_iconst (pc := 16) (v := 0) C dX10_safe_16 (by decide) ?_
      refine z_istore_n (pc := 17) C dX10_safe_17 (by rw [hn]; decide) rfl ?_
      refine z_iconst (pc := 18) (v := 0) C dX10_safe_18 (by decide) ?_
      refine z_istore_n (pc := 19) C dX10_safe_19 (by rw [hn]; decide) rfl ?_
      refine z_iload_n (pc := 20) C dX10_safe_20 rfl ?_
      refine z_bipush (pc := 21) (v := 6) C dX10_safe_21 (by decide) ?_
      refine z_icmp_ge (pc := 23) 115 C dX10_safe_23 (by decide) (fun h23 => absurd h23 (of_decide_eq_true rfl)) (fun h23 => ?_)
      refine z_iload_n (pc := 26) C dX10_safe_26 rfl ?_
      refine z_if_eq (pc := 27) 41 C dX10_safe_27 (by decide) (fun h27 => ?_) (fun h27 => absurd (of_decide_eq_true rfl) h27)
      refine z_iconst (pc := 41) (v := 1) C dX10_safe_41 (by decide) ?_
      refine z_goto (pc := 42) 46 C dX10_safe_42 (by decide) ?_
      refine z_istore (pc := 46) C dX10_safe_46 (by rw [hn]; decide) rfl ?_
      refine z_iconst (pc := 48) (v := 0) C dX10_safe_48 (by decide) ?_
      refine z_istore (pc := 49) C dX10_safe_49 (by rw [hn]; decide) rfl ?_
      refine z_iload (pc := 51) C dX10_safe_51 rfl ?_
      refine z_aload_n (pc := 53) C dX10_safe_53 rfl ?_
      refine z_getI (pc := 54) C zf_X10_77 rfl rfl (by decide) dX10_safe_54 ?_
      refine z_icmp_ge (pc := 57) 94 C dX10_safe_57 (by decide) (fun h57 => ?_) (fun h57 => absurd (of_decide_eq_true rfl) h57)
      refine z_iload_n (pc := 94) C dX10_safe_94 rfl ?_
      refine z_iload (pc := 95) C dX10_safe_95 rfl ?_
      refine z_if_eq (pc := 97) 106 C dX10_safe_97 (by decide) (fun h97 => absurd h97 (of_decide_eq_true rfl)) (fun h97 => ?_)
      refine z_iconst (pc := 100) (v := 1) C dX10_safe_100 (by decide) ?_
      refine z_iload_n (pc := 101) C dX10_safe_101 rfl ?_
      refine z_ishl (pc := 102) C dX10_safe_102 ?_
      refine z_goto (pc := 103) 107 C dX10_safe_103 (by decide) ?_
      refine z_ior (pc := 107) C dX10_safe_107 ?_
      refine z_istore_n (pc := 108) C dX10_safe_108 (by rw [hn]; decide) rfl ?_
      refine z_iinc (pc := 109) (v := 1) C dX10_safe_109 rfl (by decide) (by rw [hn]; decide) rfl ?_
      refine z_goto (pc := 112) 20 C dX10_safe_112 (by decide) ?_
      refine z_iload_n (pc := 20) C dX10_safe_20 rfl ?_
      refine z_bipush (pc := 21) (v := 6) C dX10_safe_21 (by decide) ?_
      refine z_icmp_ge (pc := 23) 115 C dX10_safe_23 (by decide) (fun h23 => absurd h23 (of_decide_eq_true rfl)) (fun h23 => ?_)
      refine z_iload_n (pc := 26) C dX10_safe_26 rfl ?_
      refine z_if_eq (pc := 27) 41 C dX10_safe_27 (by decide) (fun h27 => ?_) (fun h27 => absurd (of_decide_eq_true rfl) h27)
      refine z_iconst (pc := 41) (v := 1) C dX10_safe_41 (by decide) ?_
      refine z_goto (pc := 42) 46 C dX10_safe_42 (by decide) ?_
      refine z_istore (pc := 46) C dX10_safe_46 (by rw [hn]; decide) rfl ?_
      refine z_iconst (pc := 48) (v := 0) C dX10_safe_48 (by decide) ?_
      refine z_istore (pc := 49) C dX10_safe_49 (by rw [hn]; decide) rfl ?_
      refine z_iload (pc := 51) C dX10_safe_51 rfl ?_
      refine z_aload_n (pc := 53) C dX10_safe_53 rfl ?_
      refine z_getI (pc := 54) C zf_X10_77 rfl rfl (by decide) dX10_safe_54 ?_
      refine z_icmp_ge (pc := 57) 94 C dX10_safe_57 (by decide) (fun h57 => ?_) (fun h57 => absurd (of_decide_eq_true rfl) h57)
      refine z_iload_n (pc := 94) C dX10_safe_94 rfl ?_
      refine z_iload (pc := 95) C dX10_safe_95 rfl ?_
      refine z_if_eq (pc := 97) 106 C dX10_safe_97 (by decide) (fun h97 => absurd h97 (of_decide_eq_true rfl)) (fun h97 => ?_)
      refine z_iconst (pc := 100) (v := 1) C dX10_safe_100 (by decide) ?_
      refine z_iload_n (pc := 101) C dX10_safe_101 rfl ?_
      refine z_ishl (pc := 102) C dX10_safe_102 ?_
      refine z_goto (pc := 103) 107 C dX10_safe_103 (by decide) ?_
      refine z_ior (pc := 107) C dX10_safe_107 ?_
      refine z_istore_n (pc := 108) C dX10_safe_108 (by rw [hn]; decide) rfl ?_
      refine z_iinc (pc := 109) (v := 1) C dX10_safe_109 rfl (by decide) (by rw [hn]; decide) rfl ?_
      refine z_goto (pc := 112) 20 C dX10_safe_112 (by decide) ?_
      refine z_iload_n (pc := 20) C dX10_safe_20 rfl ?_
      refine z_bipush (pc := 21) (v := 6) C dX10_safe_21 (by decide) ?_
      refine z_icmp_ge (pc := 23) 115 C dX10_safe_23 (by decide) (fun h23 => absurd h23 (of_decide_eq_true rfl)) (fun h23 => ?_)
      refine z_iload_n (pc := 26) C dX10_safe_26 rfl ?_
      refine z_if_eq (pc := 27) 41 C dX10_safe_27 (by decide) (fun h27 => ?_) (fun h27 => absurd (of_decide_eq_true rfl) h27)
      refine z_iconst (pc := 41) (v := 1) C dX10_safe_41 (by decide) ?_
      refine z_goto (pc := 42) 46 C dX10_safe_42 (by decide) ?_
      refine z_istore (pc := 46) C dX10_safe_46 (by rw [hn]; decide) rfl ?_
      refine z_iconst (pc := 48) (v := 0) C dX10_safe_48 (by decide) ?_
      refine z_istore (pc := 49) C dX10_safe_49 (by rw [hn]; decide) rfl ?_
      refine z_iload (pc := 51) C dX10_safe_51 rfl ?_
      refine z_aload_n (pc := 53) C dX10_safe_53 rfl ?_
      refine z_getI (pc := 54) C zf_X10_77 rfl rfl (by decide) dX10_safe_54 ?_
      refine z_icmp_ge (pc := 57) 94 C dX10_safe_57 (by decide) (fun h57 => ?_) (fun h57 => absurd (of_decide_eq_true rfl) h57)
      refine z_iload_n (pc := 94) C dX10_safe_94 rfl ?_
      refine z_iload (pc := 95) C dX10_safe_95 rfl ?_
      refine z_if_eq (pc := 97) 106 C dX10_safe_97 (by decide) (fun h97 => absurd h97 (of_decide_eq_true rfl)) (fun h97 => ?_)
      refine z_iconst (pc := 100) (v := 1) C dX10_safe_100 (by decide) ?_
      refine z_iload_n (pc := 101) C dX10_safe_101 rfl ?_
      refine z_ishl (pc := 102) C dX10_safe_102 ?_
      refine z_goto (pc := 103) 107 C dX10_safe_103 (by decide) ?_
      refine z_ior (pc := 107) C dX10_safe_107 ?_
      refine z_istore_n (pc := 108) C dX10_safe_108 (by rw [hn]; decide) rfl ?_
      refine z_iinc (pc := 109) (v := 1) C dX10_safe_109 rfl (by decide) (by rw [hn]; decide) rfl ?_
      refine z_goto (pc := 112) 20 C dX10_safe_112 (by decide) ?_
      refine z_iload_n (pc := 20) C dX10_safe_20 rfl ?_
      refine z_bipush (pc := 21) (v := 6) C dX10_safe_21 (by decide) ?_
      refine z_icmp_ge (pc := 23) 115 C dX10_safe_23 (by decide) (fun h23 => absurd h23 (of_decide_eq_true rfl)) (fun h23 => ?_)
      refine z_iload_n (pc := 26) C dX10_safe_26 rfl ?_
      refine z_if_eq (pc := 27) 41 C dX10_safe_27 (by decide) (fun h27 => ?_) (fun h27 => absurd (of_decide_eq_true rfl) h27)
      refine z_iconst (pc := 41) (v := 1) C dX10_safe_41 (by decide) ?_
      refine z_goto (pc := 42) 46 C dX10_safe_42 (by decide) ?_
      refine z_istore (pc := 46) C dX10_safe_46 (by rw [hn]; decide) rfl ?_
      refine z_iconst (pc := 48) (v := 0) C dX10_safe_48 (by decide) ?_
      refine z_istore (pc := 49) C dX10_safe_49 (by rw [hn]; decide) rfl ?_
      refine z_iload (pc := 51) C dX10_safe_51 rfl ?_
      refine z_aload_n (pc := 53) C dX10_safe_53 rfl ?_
      refine z_getI (pc := 54) C zf_X10_77 rfl rfl (by decide) dX10_safe_54 ?_
      refine z_icmp_ge (pc := 57) 94 C dX10_safe_57 (by decide) (fun h57 => ?_) (fun h57 => absurd (of_decide_eq_true rfl) h57)
      refine z_iload_n (pc := 94) C dX10_safe_94 rfl ?_
      refine z_iload (pc := 95) C dX10_safe_95 rfl ?_
      refine z_if_eq (pc := 97) 106 C dX10_safe_97 (by decide) (fun h97 => absurd h97 (of_decide_eq_true rfl)) (fun h97 => ?_)
      refine z_iconst (pc := 100) (v := 1) C dX10_safe_100 (by decide) ?_
      refine z_iload_n (pc := 101) C dX10_safe_101 rfl ?_
      refine z_ishl (pc := 102) C dX10_safe_102 ?_
      refine z_goto (pc := 103) 107 C dX10_safe_103 (by decide) ?_
      refine z_ior (pc := 107) C dX10_safe_107 ?_
      refine z_istore_n (pc := 108) C dX10_safe_108 (by rw [hn]; decide) rfl ?_
      refine z_iinc (pc := 109) (v := 1) C dX10_safe_109 rfl (by decide) (by rw [hn]; decide) rfl ?_
      refine z_goto (pc := 112) 20 C dX10_safe_112 (by decide) ?_
      refine z_iload_n (pc := 20) C dX10_safe_20 rfl ?_
      refine z_bipush (pc := 21) (v := 6) C dX10_safe_21 (by decide) ?_
      refine z_icmp_ge (pc := 23) 115 C dX10_safe_23 (by decide) (fun h23 => absurd h23 (of_decide_eq_true rfl)) (fun h23 => ?_)
      refine z_iload_n (pc := 26) C dX10_safe_26 rfl ?_
      refine z_if_eq (pc := 27) 41 C dX10_safe_27 (by decide) (fun h27 => ?_) (fun h27 => absurd (of_decide_eq_true rfl) h27)
      refine z_iconst (pc := 41) (v := 1) C dX10_safe_41 (by decide) ?_
      refine z_goto (pc := 42) 46 C dX10_safe_42 (by decide) ?_
      refine z_istore (pc := 46) C dX10_safe_46 (by rw [hn]; decide) rfl ?_
      refine z_iconst (pc := 48) (v := 0) C dX10_safe_48 (by decide) ?_
      refine z_istore (pc := 49) C dX10_safe_49 (by rw [hn]; decide) rfl ?_
      refine z_iload (pc := 51) C dX10_safe_51 rfl ?_
      refine z_aload_n (pc := 53) C dX10_safe_53 rfl ?_
      refine z_getI (pc := 54) C zf_X10_77 rfl rfl (by decide) dX10_safe_54 ?_
      refine z_icmp_ge (pc := 57) 94 C dX10_safe_57 (by decide) (fun h57 => ?_) (fun h57 => absurd (of_decide_eq_true rfl) h57)
      refine z_iload_n (pc := 94) C dX10_safe_94 rfl ?_
      refine z_iload (pc := 95) C dX10_safe_95 rfl ?_
      refine z_if_eq (pc := 97) 106 C dX10_safe_97 (by decide) (fun h97 => absurd h97 (of_decide_eq_true rfl)) (fun h97 => ?_)
      refine z_iconst (pc := 100) (v := 1) C dX10_safe_100 (by decide) ?_
      refine z_iload_n (pc := 101) C dX10_safe_101 rfl ?_
      refine z_ishl (pc := 102) C dX10_safe_102 ?_
      refine z_goto (pc := 103) 107 C dX10_safe_103 (by decide) ?_
      refine z_ior (pc := 107) C dX10_safe_107 ?_
      refine z_istore_n (pc := 108) C dX10_safe_108 (by rw [hn]; decide) rfl ?_
      refine z_iinc (pc := 109) (v := 1) C dX10_safe_109 rfl (by decide) (by rw [hn]; decide) rfl ?_
      refine z_goto (pc := 112) 20 C dX10_safe_112 (by decide) ?_
      refine z_iload_n (pc := 20) C dX10_safe_20 rfl ?_
      refine z_bipush (pc := 21) (v := 6) C dX10_safe_21 (by decide) ?_
      refine z_icmp_ge (pc := 23) 115 C dX10_safe_23 (by decide) (fun h23 => absurd h23 (of_decide_eq_true rfl)) (fun h23 => ?_)
      refine z_iload_n (pc := 26) C dX10_safe_26 rfl ?_
      refine z_if_eq (pc := 27) 41 C dX10_safe_27 (by decide) (fun h27 => ?_) (fun h27 => absurd (of_decide_eq_true rfl) h27)
      refine z_iconst (pc := 41) (v := 1) C dX10_safe_41 (by decide) ?_
      refine z_goto (pc := 42) 46 C dX10_safe_42 (by decide) ?_
      refine z_istore (pc := 46) C dX10_safe_46 (by rw [hn]; decide) rfl ?_
      refine z_iconst (pc := 48) (v := 0) C dX10_safe_48 (by decide) ?_
      refine z_istore (pc := 49) C dX10_safe_49 (by rw [hn]; decide) rfl ?_
      refine z_iload (pc := 51) C dX10_safe_51 rfl ?_
      refine z_aload_n (pc := 53) C dX10_safe_53 rfl ?_
      refine z_getI (pc := 54) C zf_X10_77 rfl rfl (by decide) dX10_safe_54 ?_
      refine z_icmp_ge (pc := 57) 94 C dX10_safe_57 (by decide) (fun h57 => ?_) (fun h57 => absurd (of_decide_eq_true rfl) h57)
      refine z_iload_n (pc := 94) C dX10_safe_94 rfl ?_
      refine z_iload (pc := 95) C dX10_safe_95 rfl ?_
      refine z_if_eq (pc := 97) 106 C dX10_safe_97 (by decide) (fun h97 => absurd h97 (of_decide_eq_true rfl)) (fun h97 => ?_)
      refine z_iconst (pc := 100) (v := 1) C dX10_safe_100 (by decide) ?_
      refine z_iload_n (pc := 101) C dX10_safe_101 rfl ?_
      refine z_ishl (pc := 102) C dX10_safe_102 ?_
      refine z_goto (pc := 103) 107 C dX10_safe_103 (by decide) ?_
      refine z_ior (pc := 107) C dX10_safe_107 ?_
      refine z_istore_n (pc := 108) C dX10_safe_108 (by rw [hn]; decide) rfl ?_
      refine z_iinc (pc := 109) (v := 1) C dX10_safe_109 rfl (by decide) (by rw [hn]; decide) rfl ?_
      refine z_goto (pc := 112) 20 C dX10_safe_112 (by decide) ?_
      refine z_iload_n (pc := 20) C dX10_safe_20 rfl ?_
      refine z_bipush (pc := 21) (v := 6) C dX10_safe_21 (by decide) ?_
      refine z_icmp_ge (pc := 23) 115 C dX10_safe_23 (by decide) (fun h23 => ?_) (fun h23 => absurd (of_decide_eq_true rfl) h23)
      refine z_iload_n (pc := 115) C dX10_safe_115 rfl ?_
      exact z_iret (pc := 116) C hr dX10_safe_116 (by first | rfl | (congr 2; rw [eq_comm]; first | (rw [if_neg (by (try simp only [z32lt, z32le, z32eq, z64, Int32.reduceToInt, Int32.toInt_zero, Int32.toInt_one, Int64.reduceToInt, Int64.toInt_zero, Int64.toInt_one, true_and, and_true, false_and, and_false, or_false, false_or, true_or, or_true] at *) <;> omega)]; done) | (rw [if_pos (by (try simp only [z32lt, z32le, z32eq, z64, Int32.reduceToInt, Int32.toInt_zero, Int32.toInt_one, Int64.reduceToInt, Int64.toInt_zero, Int64.toInt_one, true_and, and_true, false_and, and_false, or_false, false_or, true_or, or_true] at *) <;> omega)] <;> simp [zup, zmix, z0])))
    · skip
      obtain rfl : a1 = 1 := (z32eq a1 1).mpr (by rw [hsv]; decide)
      refine z_aload_n (pc := 12) C dX10_safe_12 rfl ?_
      refine z_callVx (pc := 13) C zk_X10_151 (p_X10_findOpen _ _ rfl) rfl rfl (by decide) rfl rfl (Nat.le_of_ble_eq_true rfl) dX10_safe_13 ?_
      simp only [Option.toList, List.cons_append, List.nil_append]
      refine z_iconst (pc := 16) (v := 0) C dX10_safe_16 (by decide) ?_
      refine z_istore_n (pc := 17) C dX10_safe_17 (by rw [hn]; decide) rfl ?_
      refine z_iconst (pc := 18) (v := 0) C dX10_safe_18 (by decide) ?_
      refine z_istore_n (pc := 19) C dX10_safe_19 (by rw [hn]; decide) rfl ?_
      refine z_iload_n (pc := 20) C dX10_safe_20 rfl ?_
      refine z_bipush (pc := 21) (v := 6) C dX10_safe_21 (by decide) ?_
      refine z_icmp_ge (pc := 23) 115 C dX10_safe_23 (by decide) (fun h23 => absurd h23 (of_decide_eq_true rfl)) (fun h23 => ?_)
      refine z_iload_n (pc := 26) C dX10_safe_26 rfl ?_
      refine z_if_eq (pc := 27) 41 C dX10_safe_27 (by decide) (fun h27 => absurd h27 (of_decide_eq_true rfl)) (fun h27 => ?_)
      refine z_aload_n (pc := 30) C dX10_safe_30 rfl ?_
      refine z_iload_n (pc := 31) C dX10_safe_31 rfl ?_
      refine z_sipush (pc := 32) (v := 255) C dX10_safe_32 (by decide) ?_
      refine z_callVx (pc := 35) C zk_X10_165 (p_X10_triedAt _ _ rfl _ _) rfl rfl (by decide) rfl rfl (Nat.le_of_ble_eq_true rfl) dX10_safe_35 ?_
      simp only [Option.toList, List.cons_append, List.nil_append]
      refine z_if_ne (pc := 38) 45 C dX10_safe_38 (by decide) (fun h38 => absurd (of_decide_eq_true rfl) h38) (fun h38 => ?_)
      refine z_iconst (pc := 41) (v := 1) C dX10_safe_41 (by decide) ?_
      refine z_goto (pc := 42) 46 C dX10_safe_42 (by decide) ?_
      refine z_istore (pc := 46) C dX10_safe_46 (by rw [hn]; decide) rfl ?_
      refine z_iconst (pc := 48) (v := 0) C dX10_safe_48 (by decide) ?_
      refine z_istore (pc := 49) C dX10_safe_49 (by rw [hn]; decide) rfl ?_
      refine z_iload (pc := 51) C dX10_safe_51 rfl ?_
      refine z_aload_n (pc := 53) C dX10_safe_53 rfl ?_
      refine z_getI (pc := 54) C zf_X10_77 rfl rfl (by decide) dX10_safe_54 ?_
      refine z_icmp_ge (pc := 57) 94 C dX10_safe_57 (by decide) (fun h57 => ?_) (fun h57 => absurd (of_decide_eq_true rfl) h57)
      refine z_iload_n (pc := 94) C dX10_safe_94 rfl ?_
      refine z_iload (pc := 95) C dX10_safe_95 rfl ?_
      refine z_if_eq (pc := 97) 106 C dX10_safe_97 (by decide) (fun h97 => absurd h97 (of_decide_eq_true rfl)) (fun h97 => ?_)
      refine z_iconst (pc := 100) (v := 1) C dX10_safe_100 (by decide) ?_
      refine z_iload_n (pc := 101) C dX10_safe_101 rfl ?_
      refine z_ishl (pc := 102) C dX10_safe_102 ?_
      refine z_goto (pc := 103) 107 C dX10_safe_103 (by decide) ?_
      refine z_ior (pc := 107) C dX10_safe_107 ?_
      refine z_istore_n (pc := 108) C dX10_safe_108 (by rw [hn]; decide) rfl ?_
      refine z_iinc (pc := 109) (v := 1) C dX10_safe_109 rfl (by decide) (by rw [hn]; decide) rfl ?_
      refine z_goto (pc := 112) 20 C dX10_safe_112 (by decide) ?_
      refine z_iload_n (pc := 20) C dX10_safe_20 rfl ?_
      refine z_bipush (pc := 21) (v := 6) C dX10_safe_21 (by decide) ?_
      refine z_icmp_ge (pc := 23) 115 C dX10_safe_23 (by decide) (fun h23 => absurd h23 (of_decide_eq_true rfl)) (fun h23 => ?_)
      refine z_iload_n (pc := 26) C dX10_safe_26 rfl ?_
      refine z_if_eq (pc := 27) 41 C dX10_safe_27 (by decide) (fun h27 => absurd h27 (of_decide_eq_true rfl)) (fun h27 => ?_)
      refine z_aload_n (pc := 30) C dX10_safe_30 rfl ?_
      refine z_iload_n (pc := 31) C dX10_safe_31 rfl ?_
      refine z_sipush (pc := 32) (v := 255) C dX10_safe_32 (by decide) ?_
      refine z_callVx (pc := 35) C zk_X10_165 (p_X10_triedAt _ _ rfl _ _) rfl rfl (by decide) rfl rfl (Nat.le_of_ble_eq_true rfl) dX10_safe_35 ?_
      simp only [Option.toList, List.cons_append, List.nil_append]
      refine z_if_ne (pc := 38) 45 C dX10_safe_38 (by decide) (fun h38 => absurd (of_decide_eq_true rfl) h38) (fun h38 => ?_)
      refine z_iconst (pc := 41) (v := 1) C dX10_safe_41 (by decide) ?_
      refine z_goto (pc := 42) 46 C dX10_safe_42 (by decide) ?_
      refine z_istore (pc := 46) C dX10_safe_46 (by rw [hn]; decide) rfl ?_
      refine z_iconst (pc := 48) (v := 0) C dX10_safe_48 (by decide) ?_
      refine z_istore (pc := 49) C dX10_safe_49 (by rw [hn]; decide) rfl ?_
      refine z_iload (pc := 51) C dX10_safe_51 rfl ?_
      refine z_aload_n (pc := 53) C dX10_safe_53 rfl ?_
      refine z_getI (pc := 54) C zf_X10_77 rfl rfl (by decide) dX10_safe_54 ?_
      refine z_icmp_ge (pc := 57) 94 C dX10_safe_57 (by decide) (fun h57 => ?_) (fun h57 => absurd (of_decide_eq_true rfl) h57)
      refine z_iload_n (pc := 94) C dX10_safe_94 rfl ?_
      refine z_iload (pc := 95) C dX10_safe_95 rfl ?_
      refine z_if_eq (pc := 97) 106 C dX10_safe_97 (by decide) (fun h97 => absurd h97 (of_decide_eq_true rfl)) (fun h97 => ?_)
      refine z_iconst (pc := 100) (v := 1) C dX10_safe_100 (by decide) ?_
      refine z_iload_n (pc := 101) C dX10_safe_101 rfl ?_
      refine z_ishl (pc := 102) C dX10_safe_102 ?_
      refine z_goto (pc := 103) 107 C dX10_safe_103 (by decide) ?_
      refine z_ior (pc := 107) C dX10_safe_107 ?_
      refine z_istore_n (pc := 108) C dX10_safe_108 (by rw [hn]; decide) rfl ?_
      refine z_iinc (pc := 109) (v := 1) C dX10_safe_109 rfl (by decide) (by rw [hn]; decide) rfl ?_
      refine z_goto (pc := 112) 20 C dX10_safe_112 (by decide) ?_
      refine z_iload_n (pc := 20) C dX10_safe_20 rfl ?_
      refine z_bipush (pc := 21) (v := 6) C dX10_safe_21 (by decide) ?_
      refine z_icmp_ge (pc := 23) 115 C dX10_safe_23 (by decide) (fun h23 => absurd h23 (of_decide_eq_true rfl)) (fun h23 => ?_)
      refine z_iload_n (pc := 26) C dX10_safe_26 rfl ?_
      refine z_if_eq (pc := 27) 41 C dX10_safe_27 (by decide) (fun h27 => absurd h27 (of_decide_eq_true rfl)) (fun h27 => ?_)
      refine z_aload_n (pc := 30) C dX10_safe_30 rfl ?_
      refine z_iload_n (pc := 31) C dX10_safe_31 rfl ?_
      refine z_sipush (pc := 32) (v := 255) C dX10_safe_32 (by decide) ?_
      refine z_callVx (pc := 35) C zk_X10_165 (p_X10_triedAt _ _ rfl _ _) rfl rfl (by decide) rfl rfl (Nat.le_of_ble_eq_true rfl) dX10_safe_35 ?_
      simp only [Option.toList, List.cons_append, List.nil_append]
      refine z_if_ne (pc := 38) 45 C dX10_safe_38 (by decide) (fun h38 => absurd (of_decide_eq_true rfl) h38) (fun h38 => ?_)
      refine z_iconst (pc := 41) (v := 1) C dX10_safe_41 (by decide) ?_
      refine z_goto (pc := 42) 46 C dX10_safe_42 (by decide) ?_
      refine z_istore (pc := 46) C dX10_safe_46 (by rw [hn]; decide) rfl ?_
      refine z_iconst (pc := 48) (v := 0) C dX10_safe_48 (by decide) ?_
      refine z_istore (pc := 49) C dX10_safe_49 (by rw [hn]; decide) rfl ?_
      refine z_iload (pc := 51) C dX10_safe_51 rfl ?_
      refine z_aload_n (pc := 53) C dX10_safe_53 rfl ?_
      refine z_getI (pc := 54) C zf_X10_77 rfl rfl (by decide) dX10_safe_54 ?_
      refine z_icmp_ge (pc := 57) 94 C dX10_safe_57 (by decide) (fun h57 => ?_) (fun h57 => absurd (of_decide_eq_true rfl) h57)
      refine z_iload_n (pc := 94) C dX10_safe_94 rfl ?_
      refine z_iload (pc := 95) C dX10_safe_95 rfl ?_
      refine z_if_eq (pc := 97) 106 C dX10_safe_97 (by decide) (fun h97 => absurd h97 (of_decide_eq_true rfl)) (fun h97 => ?_)
      refine z_iconst (pc := 100) (v := 1) C dX10_safe_100 (by decide) ?_
      refine z_iload_n (pc := 101) C dX10_safe_101 rfl ?_
      refine z_ishl (pc := 102) C dX10_safe_102 ?_
      refine z_goto (pc := 103) 107 C dX10_safe_103 (by decide) ?_
      refine z_ior (pc := 107) C dX10_safe_107 ?_
      refine z_istore_n (pc := 108) C dX10_safe_108 (by rw [hn]; decide) rfl ?_
      refine z_iinc (pc := 109) (v := 1) C dX10_safe_109 rfl (by decide) (by rw [hn]; decide) rfl ?_
      refine z_goto (pc := 112) 20 C dX10_safe_112 (by decide) ?_
      refine z_iload_n (pc := 20) C dX10_safe_20 rfl ?_
      refine z_bipush (pc := 21) (v := 6) C dX10_safe_21 (by decide) ?_
      refine z_icmp_ge (pc := 23) 115 C dX10_safe_23 (by decide) (fun h23 => absurd h23 (of_decide_eq_true rfl)) (fun h23 => ?_)
      refine z_iload_n (pc := 26) C dX10_safe_26 rfl ?_
      refine z_if_eq (pc := 27) 41 C dX10_safe_27 (by decide) (fun h27 => absurd h27 (of_decide_eq_true rfl)) (fun h27 => ?_)
      refine z_aload_n (pc := 30) C dX10_safe_30 rfl ?_
      refine z_iload_n (pc := 31) C dX10_safe_31 rfl ?_
      refine z_sipush (pc := 32) (v := 255) C dX10_safe_32 (by decide) ?_
      refine z_callVx (pc := 35) C zk_X10_165 (p_X10_triedAt _ _ rfl _ _) rfl rfl (by decide) rfl rfl (Nat.le_of_ble_eq_true rfl) dX10_safe_35 ?_
      simp only [Option.toList, List.cons_append, List.nil_append]
      refine z_if_ne (pc := 38) 45 C dX10_safe_38 (by decide) (fun h38 => absurd (of_decide_eq_true rfl) h38) (fun h38 => ?_)
      refine z_iconst (pc := 41) (v := 1) C dX10_safe_41 (by decide) ?_
      refine z_goto (pc := 42) 46 C dX10_safe_42 (by decide) ?_
      refine z_istore (pc := 46) C dX10_safe_46 (by rw [hn]; decide) rfl ?_
      refine z_iconst (pc := 48) (v := 0) C dX10_safe_48 (by decide) ?_
      refine z_istore (pc := 49) C dX10_safe_49 (by rw [hn]; decide) rfl ?_
      refine z_iload (pc := 51) C dX10_safe_51 rfl ?_
      refine z_aload_n (pc := 53) C dX10_safe_53 rfl ?_
      refine z_getI (pc := 54) C zf_X10_77 rfl rfl (by decide) dX10_safe_54 ?_
      refine z_icmp_ge (pc := 57) 94 C dX10_safe_57 (by decide) (fun h57 => ?_) (fun h57 => absurd (of_decide_eq_true rfl) h57)
      refine z_iload_n (pc := 94) C dX10_safe_94 rfl ?_
      refine z_iload (pc := 95) C dX10_safe_95 rfl ?_
      refine z_if_eq (pc := 97) 106 C dX10_safe_97 (by decide) (fun h97 => absurd h97 (of_decide_eq_true rfl)) (fun h97 => ?_)
      refine z_iconst (pc := 100) (v := 1) C dX10_safe_100 (by decide) ?_
      refine z_iload_n (pc := 101) C dX10_safe_101 rfl ?_
      refine z_ishl (pc := 102) C dX10_safe_102 ?_
      refine z_goto (pc := 103) 107 C dX10_safe_103 (by decide) ?_
      refine z_ior (pc := 107) C dX10_safe_107 ?_
      refine z_istore_n (pc := 108) C dX10_safe_108 (by rw [hn]; decide) rfl ?_
      refine z_iinc (pc := 109) (v := 1) C dX10_safe_109 rfl (by decide) (by rw [hn]; decide) rfl ?_
      refine z_goto (pc := 112) 20 C dX10_safe_112 (by decide) ?_
      refine z_iload_n (pc := 20) C dX10_safe_20 rfl ?_
      refine z_bipush (pc := 21) (v := 6) C dX10_safe_21 (by decide) ?_
      refine z_icmp_ge (pc := 23) 115 C dX10_safe_23 (by decide) (fun h23 => absurd h23 (of_decide_eq_true rfl)) (fun h23 => ?_)
      refine z_iload_n (pc := 26) C dX10_safe_26 rfl ?_
      refine z_if_eq (pc := 27) 41 C dX10_safe_27 (by decide) (fun h27 => absurd h27 (of_decide_eq_true rfl)) (fun h27 => ?_)
      refine z_aload_n (pc := 30) C dX10_safe_30 rfl ?_
      refine z_iload_n (pc := 31) C dX10_safe_31 rfl ?_
      refine z_sipush (pc := 32) (v := 255) C dX10_safe_32 (by decide) ?_
      refine z_callVx (pc := 35) C zk_X10_165 (p_X10_triedAt _ _ rfl _ _) rfl rfl (by decide) rfl rfl (Nat.le_of_ble_eq_true rfl) dX10_safe_35 ?_
      simp only [Option.toList, List.cons_append, List.nil_append]
      refine z_if_ne (pc := 38) 45 C dX10_safe_38 (by decide) (fun h38 => absurd (of_decide_eq_true rfl) h38) (fun h38 => ?_)
      refine z_iconst (pc := 41) (v := 1) C dX10_safe_41 (by decide) ?_
      refine z_goto (pc := 42) 46 C dX10_safe_42 (by decide) ?_
      refine z_istore (pc := 46) C dX10_safe_46 (by rw [hn]; decide) rfl ?_
      refine z_iconst (pc := 48) (v := 0) C dX10_safe_48 (by decide) ?_
      refine z_istore (pc := 49) C dX10_safe_49 (by rw [hn]; decide) rfl ?_
      refine z_iload (pc := 51) C dX10_safe_51 rfl ?_
      refine z_aload_n (pc := 53) C dX10_safe_53 rfl ?_
      refine z_getI (pc := 54) C zf_X10_77 rfl rfl (by decide) dX10_safe_54 ?_
      refine z_icmp_ge (pc := 57) 94 C dX10_safe_57 (by decide) (fun h57 => ?_) (fun h57 => absurd (of_decide_eq_true rfl) h57)
      refine z_iload_n (pc := 94) C dX10_safe_94 rfl ?_
      refine z_iload (pc := 95) C dX10_safe_95 rfl ?_
      refine z_if_eq (pc := 97) 106 C dX10_safe_97 (by decide) (fun h97 => absurd h97 (of_decide_eq_true rfl)) (fun h97 => ?_)
      refine z_iconst (pc := 100) (v := 1) C dX10_safe_100 (by decide) ?_
      refine z_iload_n (pc := 101) C dX10_safe_101 rfl ?_
      refine z_ishl (pc := 102) C dX10_safe_102 ?_
      refine z_goto (pc := 103) 107 C dX10_safe_103 (by decide) ?_
      refine z_ior (pc := 107) C dX10_safe_107 ?_
      refine z_istore_n (pc := 108) C dX10_safe_108 (by rw [hn]; decide) rfl ?_
      refine z_iinc (pc := 109) (v := 1) C dX10_safe_109 rfl (by decide) (by rw [hn]; decide) rfl ?_
      refine z_goto (pc := 112) 20 C dX10_safe_112 (by decide) ?_
      refine z_iload_n (pc := 20) C dX10_safe_20 rfl ?_
      refine z_bipush (pc := 21) (v := 6) C dX10_safe_21 (by decide) ?_
      refine z_icmp_ge (pc := 23) 115 C dX10_safe_23 (by decide) (fun h23 => absurd h23 (of_decide_eq_true rfl)) (fun h23 => ?_)
      refine z_iload_n (pc := 26) C dX10_safe_26 rfl ?_
      refine z_if_eq (pc := 27) 41 C dX10_safe_27 (by decide) (fun h27 => absurd h27 (of_decide_eq_true rfl)) (fun h27 => ?_)
      refine z_aload_n (pc := 30) C dX10_safe_30 rfl ?_
      refine z_iload_n (pc := 31) C dX10_safe_31 rfl ?_
      refine z_sipush (pc := 32) (v := 255) C dX10_safe_32 (by decide) ?_
      refine z_callVx (pc := 35) C zk_X10_165 (p_X10_triedAt _ _ rfl _ _) rfl rfl (by decide) rfl rfl (Nat.le_of_ble_eq_true rfl) dX10_safe_35 ?_
      simp only [Option.toList, List.cons_append, List.nil_append]
      refine z_if_ne (pc := 38) 45 C dX10_safe_38 (by decide) (fun h38 => absurd (of_decide_eq_true rfl) h38) (fun h38 => ?_)
      refine z_iconst (pc := 41) (v := 1) C dX10_safe_41 (by decide) ?_
      refine z_goto (pc := 42) 46 C dX10_safe_42 (by decide) ?_
      refine z_istore (pc := 46) C dX10_safe_46 (by rw [hn]; decide) rfl ?_
      refine z_iconst (pc := 48) (v := 0) C dX10_safe_48 (by decide) ?_
      refine z_istore (pc := 49) C dX10_safe_49 (by rw [hn]; decide) rfl ?_
      refine z_iload (pc := 51) C dX10_safe_51 rfl ?_
      refine z_aload_n (pc := 53) C dX10_safe_53 rfl ?_
      refine z_getI (pc := 54) C zf_X10_77 rfl rfl (by decide) dX10_safe_54 ?_
      refine z_icmp_ge (pc := 57) 94 C dX10_safe_57 (by decide) (fun h57 => ?_) (fun h57 => absurd (of_decide_eq_true rfl) h57)
      refine z_iload_n (pc := 94) C dX10_safe_94 rfl ?_
      refine z_iload (pc := 95) C dX10_safe_95 rfl ?_
      refine z_if_eq (pc := 97) 106 C dX10_safe_97 (by decide) (fun h97 => absurd h97 (of_decide_eq_true rfl)) (fun h97 => ?_)
      refine z_iconst (pc := 100) (v := 1) C dX10_safe_100 (by decide) ?_
      refine z_iload_n (pc := 101) C dX10_safe_101 rfl ?_
      refine z_ishl (pc := 102) C dX10_safe_102 ?_
      refine z_goto (pc := 103) 107 C dX10_safe_103 (by decide) ?_
      refine z_ior (pc := 107) C dX10_safe_107 ?_
      refine z_istore_n (pc := 108) C dX10_safe_108 (by rw [hn]; decide) rfl ?_
      refine z_iinc (pc := 109) (v := 1) C dX10_safe_109 rfl (by decide) (by rw [hn]; decide) rfl ?_
      refine z_goto (pc := 112) 20 C dX10_safe_112 (by decide) ?_
      refine z_iload_n (pc := 20) C dX10_safe_20 rfl ?_
      refine z_bipush (pc := 21) (v := 6) C dX10_safe_21 (by decide) ?_
      refine z_icmp_ge (pc := 23) 115 C dX10_safe_23 (by decide) (fun h23 => ?_) (fun h23 => absurd (of_decide_eq_true rfl) h23)
      refine z_iload_n (pc := 115) C dX10_safe_115 rfl ?_
      exact z_iret (pc := 116) C hr dX10_safe_116 (by first | rfl | (congr 2; rw [eq_comm]; first | (rw [if_neg (by (try simp only [z32lt, z32le, z32eq, z64, Int32.reduceToInt, Int32.toInt_zero, Int32.toInt_one, Int64.reduceToInt, Int64.toInt_zero, Int64.toInt_one, true_and, and_true, false_and, and_false, or_false, false_or, true_or, or_true] at *) <;> omega)]; done) | (rw [if_pos (by (try simp only [z32lt, z32le, z32eq, z64, Int32.reduceToInt, Int32.toInt_zero, Int32.toInt_one, Int64.reduceToInt, Int64.toInt_zero, Int64.toInt_one, true_and, and_true, false_and, and_false, or_false, false_or, true_or, or_true] at *) <;> omega)] <;> simp [zup, zmix, z0])))
  · skip
    refine z_if_ne (pc := 7) 12 C dX10_safe_7 (by decide) (fun h7 => absurd (of_decide_eq_true rfl) h7) (fun h7 => ?_)
    refine z_iconst (pc := 10) (v := -1) C dX10_safe_10 (by decide) ?_
    exact z_iret (pc := 11) C hr dX10_safe_11 (by first | rfl | (congr 2; rw [eq_comm]; first | (rw [if_neg (by (try simp only [z32lt, z32le, z32eq, z64, Int32.reduceToInt, Int32.toInt_zero, Int32.toInt_one, Int64.reduceToInt, Int64.toInt_zero, Int64.toInt_one, true_and, and_true, false_and, and_false, or_false, false_or, true_or, or_true] at *) <;> omega)]; done) | (rw [if_pos (by (try simp only [z32lt, z32le, z32eq, z64, Int32.reduceToInt, Int32.toInt_zero, Int32.toInt_one, Int64.reduceToInt, Int64.toInt_zero, Int64.toInt_one, true_and, and_true, false_and, and_false, or_false, false_or, true_or, or_true] at *) <;> omega)] <;> simp [zup, zmix, z0])))

set_option maxRecDepth 100000 in
set_option maxHeartbeats 4000000 in
theorem p_X10_next (d : Nat) (f : zM) (h0 : f 25 0 16 ≤ f 25 0 17) : ZM d yX10_next cX10_next 1 (some .int) [zr 25 0] f (fun r g => r = some (zi (-1)) ∧ g = f) := by
  refine ZM.intro (by decide +kernel) (Nat.le_of_ble_eq_true rfl) ?_
  intro X C hr hn
  show Z X 0 [some (zr 25 0)] [] f
  refine z_aload_n (pc := 0) C dX10_next_0 rfl ?_
  refine z_getI (pc := 1) C zf_X10_211 rfl rfl (by decide) dX10_next_1 ?_
  refine z_aload_n (pc := 4) C dX10_next_4 rfl ?_
  refine z_getI (pc := 5) C zf_X10_208 rfl rfl (by decide) dX10_next_5 ?_
  refine z_icmp_ge (pc := 8) 38 C dX10_next_8 (by decide) (fun h8 => ?_) (fun h8 => absurd h0 h8)
  refine z_aload_n (pc := 38) C dX10_next_38 rfl ?_
  refine z_getI (pc := 39) C zf_X10_211 rfl rfl (by decide) dX10_next_39 ?_
  refine z_aload_n (pc := 42) C dX10_next_42 rfl ?_
  refine z_getI (pc := 43) C zf_X10_208 rfl rfl (by decide) dX10_next_43 ?_
  refine z_icmp_ge (pc := 46) 61 C dX10_next_46 (by decide) (fun h46 => ?_) (fun h46 => absurd h0 h46)
  refine z_iconst (pc := 61) (v := -1) C dX10_next_61 (by decide) ?_
  exact z_iret (pc := 62) C hr dX10_next_62 (⟨rfl, rfl⟩)

set_option maxRecDepth 100000 in
set_option maxHeartbeats 4000000 in
theorem p_X10_readWorld (d : Nat) (f : zM) : ZM (d + 2) yX10_readWorld cX10_readWorld 4 (some .boolean) [zr 25 0] (zmix f) (fun r g => r = some (zi 0) ∧ g 25 0 17 = 0) := by
  refine ZM.intro (by decide +kernel) (Nat.le_of_ble_eq_true rfl) ?_
  intro X C hr hn
  show Z X 0 [some (zr 25 0), none, none, none] [] (zmix f)
  refine z_aload_n (pc := 0) C dX10_readWorld_0 rfl ?_
  refine z_iconst (pc := 1) (v := 0) C dX10_readWorld_1 (by decide) ?_
  refine z_putI (pc := 2) C zf_X10_211 zp_10_17 rfl rfl (by decide) dX10_readWorld_2 ?_
  refine z_aload_n (pc := 5) C dX10_readWorld_5 rfl ?_
  refine z_iconst (pc := 6) (v := 0) C dX10_readWorld_6 (by decide) ?_
  refine z_putI (pc := 7) C zf_X10_221 zp_10_18 rfl rfl (by decide) dX10_readWorld_7 ?_
  refine z_aload_n (pc := 10) C dX10_readWorld_10 rfl ?_
  refine z_iconst (pc := 11) (v := 0) C dX10_readWorld_11 (by decide) ?_
  refine z_putI (pc := 12) C zf_X10_233 zp_10_20 rfl rfl (by decide) dX10_readWorld_12 ?_
  refine z_iconst (pc := 15) (v := 0) C dX10_readWorld_15 (by decide) ?_
  refine z_istore_n (pc := 16) C dX10_readWorld_16 (by rw [hn]; decide) rfl ?_
  refine z_iload_n (pc := 17) C dX10_readWorld_17 rfl ?_
  refine z_bipush (pc := 18) (v := 12) C dX10_readWorld_18 (by decide) ?_
  refine z_icmp_ge (pc := 20) 129 C dX10_readWorld_20 (by decide) (fun h20 => absurd h20 (of_decide_eq_true rfl)) (fun h20 => ?_)
  refine z_aload_n (pc := 23) C dX10_readWorld_23 rfl ?_
  refine z_callVx (pc := 24) C zk_X10_214 (p_X10_next _ _ (of_decide_eq_true rfl)) rfl rfl (by decide) rfl rfl (Nat.le_of_ble_eq_true rfl) dX10_readWorld_24 ?_
  simp only [Option.toList, List.cons_append, List.nil_append]
  refine z_bipush (pc := 27) (v := 65) C dX10_readWorld_27 (by decide) ?_
  refine z_isub (pc := 29) C dX10_readWorld_29 ?_
  refine z_istore_n (pc := 30) C dX10_readWorld_30 (by rw [hn]; decide) rfl ?_
  refine z_iload_n (pc := 31) C dX10_readWorld_31 rfl ?_
  refine z_callSx (pc := 32) C zk_X10_83 (m_X10_isLand _ _ _) rfl rfl (Nat.le_of_ble_eq_true rfl) dX10_readWorld_32 ?_
  simp only [Option.toList, List.cons_append, List.nil_append]
  refine z_if_ne (pc := 35) 40 C dX10_readWorld_35 (by decide) (fun h35 => absurd (by decide) h35) (fun h35 => ?_)
  refine z_iconst (pc := 38) (v := 0) C dX10_readWorld_38 (by decide) ?_
  exact z_zret (pc := 39) C hr (by decide) dX10_readWorld_39 (⟨rfl, rfl⟩)

set_option maxRecDepth 100000 in
set_option maxHeartbeats 4000000 in
theorem p_X10_world (d : Nat) (f : zM)  : ZM (d + 3) yX10_world cX10_world 4 (some .int) [zr 25 0] (zmix f) (fun r _ => r = some (zi (-20))) := by
  refine ZM.intro (by decide +kernel) (Nat.le_of_ble_eq_true rfl) ?_
  intro X C hr hn
  show Z X 0 [some (zr 25 0), none, none, none] [] (zmix f)
  refine z_aload_n (pc := 0) C dX10_world_0 rfl ?_
  refine z_callV (pc := 1) C zk_X10_248 (p_X10_readWorld _ _) rfl rfl (by decide) rfl rfl (Nat.le_of_ble_eq_true rfl) dX10_world_1 (fun r1 g1 q1 => ?_)
  obtain ⟨rfl, hg1⟩ := q1
  simp only [Option.toList, List.cons_append, List.nil_append]
  refine z_istore_n (pc := 4) C dX10_world_4 (by rw [hn]; decide) rfl ?_
  refine z_aload_n (pc := 5) C dX10_world_5 rfl ?_
  refine z_iconst (pc := 6) (v := 0) C dX10_world_6 (by decide) ?_
  refine z_putI (pc := 7) C zf_X10_208 zp_10_16 rfl rfl (by decide) dX10_world_7 ?_
  refine z_iload_n (pc := 10) C dX10_world_10 rfl ?_
  refine z_if_ne (pc := 11) 22 C dX10_world_11 (by decide) (fun h11 => absurd (of_decide_eq_true rfl) h11) (fun h11 => ?_)
  refine z_bipush (pc := 14) (v := -20) C dX10_world_14 (by decide) ?_
  refine z_aload_n (pc := 16) C dX10_world_16 rfl ?_
  refine z_getI (pc := 17) C zf_X10_211 rfl rfl (by decide) dX10_world_17 ?_
  refine z_isub (pc := 20) C dX10_world_20 ?_
  exact z_iret (pc := 21) C hr dX10_world_21 (by rw [zup_ne _ _ (by decide), hg1]; rfl)

/-- a run of items of a row, all v -/
def zfo (f : zM) (k n a len : Nat) (v : Int32) : zM := fun x y z => if x = k ∧ y = n ∧ a ≤ z ∧ z < a + len then v else f x y z
theorem zfo_0 (f : zM) (k n a : Nat) (v : Int32) : zfo f k n a 0 v = f := by
  funext x y z
  unfold zfo
  rw [if_neg (by omega)]
theorem zfo_s (f : zM) (k n a i : Nat) (v : Int32) : zup (zfo f k n a i v) k n (a + i) v = zfo f k n a (i + 1) v := by
  funext x y z
  unfold zup zfo
  by_cases q1 : x = k ∧ y = n ∧ z = a + i
  · rw [if_pos q1, if_pos (by omega)]
  · rw [if_neg q1]
    by_cases q2 : x = k ∧ y = n ∧ a ≤ z ∧ z < a + i
    · rw [if_pos q2, if_pos (by omega)]
    · rw [if_neg q2, if_neg (by omega)]
set_option maxRecDepth 100000 in
set_option maxHeartbeats 4000000 in
theorem sheetm_loop {X : zX} {d s : Nat} {f : zM} {a2 a3 : Int32} (h4 : s < 4) (C : zC X cX10_sheet yX10_sheet.cls d) (hn : znL X = 5) (kk : Z X 66 [some (zr 25 0), some (zi (nI s)), some (zi a2), some (zi a3), some (zi (nI 16))] [] (zfo f 43 0 (16 * s) 16 0)) :
    ∀ m i : Nat, i + m = 16 → Z X 40 [some (zr 25 0), some (zi (nI s)), some (zi a2), some (zi a3), some (zi (nI i))] [] (zfo f 43 0 (16 * s) i 0) := by
  have e16 : (16 : Int32) * nI s = nI (16 * s) := by
    rcases (show s = 0 ∨ s = 1 ∨ s = 2 ∨ s = 3 by omega) with rfl | rfl | rfl | rfl <;> decide
  intro m
  induction m with
  | zero =>
    intro i hi
    obtain rfl : i = 16 := by omega
    refine z_iload (pc := 40) C dX10_sheet_40 rfl ?_
    refine z_bipush (pc := 42) (v := nI 16) C dX10_sheet_42 (by decide) ?_
    exact z_icmp_ge (pc := 44) 66 C dX10_sheet_44 (by decide) (fun _ => kk) (fun h => absurd (Int32.le_refl _) h)
  | succ m ih =>
    intro i hi
    refine z_iload (pc := 40) C dX10_sheet_40 rfl ?_
    refine z_bipush (pc := 42) (v := nI 16) C dX10_sheet_42 (by decide) ?_
    refine z_icmp_ge (pc := 44) 66 C dX10_sheet_44 (by decide) (fun h => absurd h (nI_ge (by omega) (by omega))) (fun _ => ?_)
    refine z_aload_n (pc := 47) C dX10_sheet_47 rfl ?_
    refine z_getR (pc := 48) C zf_X10_61 rfl rfl (by decide) dX10_sheet_48 ?_
    refine z_bipush (pc := 51) (v := 16) C dX10_sheet_51 (by decide) ?_
    refine z_iload_n (pc := 53) C dX10_sheet_53 rfl ?_
    refine z_imul (pc := 54) C dX10_sheet_54 ?_
    refine z_iload (pc := 55) C dX10_sheet_55 rfl ?_
    refine z_iadd (pc := 57) C dX10_sheet_57 ?_
    rw [e16, nI_add]
    refine z_iconst (pc := 58) (v := 0) C dX10_sheet_58 (by decide) ?_
    refine z_iast (pc := 59) C rfl (by decide) (nI_in (N := 64) (by omega) (by omega)) dX10_sheet_59 ?_
    rw [nI_clamp (by omega), zfo_s]
    refine z_iinc (pc := 60) (v := 1) C dX10_sheet_60 rfl (by decide) (by rw [hn]; decide) rfl ?_
    rw [← nI_succ]
    refine z_goto (pc := 63) 40 C dX10_sheet_63 (by decide) ?_
    exact ih (i + 1) (by omega)
set_option maxRecDepth 100000 in
set_option maxHeartbeats 4000000 in
theorem p_X10_sheet (d : Nat) (f : zM) (a1 a2 a3 : Int32) : ZM (d + 2) yX10_sheet cX10_sheet 5 (some .int) [zr 25 0, zi a1, zi a2, zi a3] (zmix f) (fun r _ => r = some (zi (if (0 ≤ a1.toInt ∧ a1.toInt ≤ 3) ∧ (0 ≤ a2.toInt ∧ a2.toInt ≤ 2) ∧ a3.toInt ≤ 16 then (if a3.toInt < 0 then -14 else a3) else -1))) := by
  refine ZM.intro (by decide +kernel) (Nat.le_of_ble_eq_true rfl) ?_
  intro X C hr hn
  show Z X 0 [some (zr 25 0), some (zi a1), some (zi a2), some (zi a3), none] [] (zmix f)
  refine z_iload_n (pc := 0) C dX10_sheet_0 rfl ?_
  refine z_iload_n (pc := 1) C dX10_sheet_1 rfl ?_
  refine z_callSb (pc := 2) C zk_X10_268 (m_X10_isSheet _ _ _ _) rfl rfl (Nat.le_of_ble_eq_true rfl) dX10_sheet_2 (fun h2 => ?_) (fun h2 => ?_)
  · skip
    refine z_if_eq (pc := 5) 14 C dX10_sheet_5 (by decide) (fun h5 => absurd h5 (of_decide_eq_true rfl)) (fun h5 => ?_)
    refine z_iload_n (pc := 8) C dX10_sheet_8 rfl ?_
    refine z_bipush (pc := 9) (v := 16) C dX10_sheet_9 (by decide) ?_
    refine z_icmp_le (pc := 11) 16 C dX10_sheet_11 (by decide) (fun h11 => ?_) (fun h11 => ?_)
    · skip
      refine z_iload_n (pc := 16) C dX10_sheet_16 rfl ?_
      refine z_if_ge (pc := 17) 23 C dX10_sheet_17 (by decide) (fun h17 => ?_) (fun h17 => ?_)
      · skip
        refine z_aload_n (pc := 23) C dX10_sheet_23 rfl ?_
        refine z_getR (pc := 24) C zf_X10_55 rfl rfl (by decide) dX10_sheet_24 ?_
        refine z_iload_n (pc := 27) C dX10_sheet_27 rfl ?_
        refine z_iload_n (pc := 28) C dX10_sheet_28 rfl ?_
        refine z_iast (pc := 29) C rfl (by decide) (zidx h2.1.1 (by omega)).1 dX10_sheet_29 ?_
        refine z_aload_n (pc := 30) C dX10_sheet_30 rfl ?_
        refine z_getR (pc := 31) C zf_X10_58 rfl rfl (by decide) dX10_sheet_31 ?_
        refine z_iload_n (pc := 34) C dX10_sheet_34 rfl ?_
        refine z_iload_n (pc := 35) C dX10_sheet_35 rfl ?_
        refine z_iast (pc := 36) C rfl (by decide) (zidx h2.1.1 (by omega)).1 dX10_sheet_36 ?_
        refine z_iconst (pc := 37) (v := 0) C dX10_sheet_37 (by decide) ?_
        refine z_istore (pc := 38) C dX10_sheet_38 (by rw [hn]; decide) rfl ?_
        obtain ⟨e1, e2⟩ := nI_of2 (x := a1) (M := 3) (n := 3) rfl (by (try simp only [z32lt, z32le, z32eq, z64, Int32.reduceToInt, Int32.toInt_zero, Int32.toInt_one, Int64.reduceToInt, Int64.toInt_zero, Int64.toInt_one, true_and, and_true, false_and, and_false, or_false, false_or, true_or, or_true] at *) <;> omega) (by (try simp only [z32lt, z32le, z32eq, z64, Int32.reduceToInt, Int32.toInt_zero, Int32.toInt_one, Int64.reduceToInt, Int64.toInt_zero, Int64.toInt_one, true_and, and_true, false_and, and_false, or_false, false_or, true_or, or_true] at *) <;> omega)
        obtain ⟨e2, rfl⟩ := e2
        rw [← zfo_0 (zup (zup (zmix f) 41 0 (Int32.toNatClampNeg (nI e1)) a2) 42 0 (Int32.toNatClampNeg (nI e1)) a3) 43 0 (16 * e1) 0]
        refine sheetm_loop (by omega) C hn ?_ 16 0 rfl
        refine z_iload_n (pc := 66) C dX10_sheet_66 rfl ?_
        exact z_iret (pc := 67) C hr dX10_sheet_67 (by congr 2; rw [if_pos (by (try simp only [z32lt, z32le, z32eq, z64, Int32.reduceToInt, Int32.toInt_zero, Int32.toInt_one, Int64.reduceToInt, Int64.toInt_zero, Int64.toInt_one, true_and, and_true, false_and, and_false, or_false, false_or, true_or, or_true] at *) <;> omega), if_neg (by (try simp only [z32lt, z32le, z32eq, z64, Int32.reduceToInt, Int32.toInt_zero, Int32.toInt_one, Int64.reduceToInt, Int64.toInt_zero, Int64.toInt_one, true_and, and_true, false_and, and_false, or_false, false_or, true_or, or_true] at *) <;> omega)])
      · skip
        refine z_bipush (pc := 20) (v := -14) C dX10_sheet_20 (by decide) ?_
        exact z_iret (pc := 22) C hr dX10_sheet_22 (by congr 2; rw [if_pos (by (try simp only [z32lt, z32le, z32eq, z64, Int32.reduceToInt, Int32.toInt_zero, Int32.toInt_one, Int64.reduceToInt, Int64.toInt_zero, Int64.toInt_one, true_and, and_true, false_and, and_false, or_false, false_or, true_or, or_true] at *) <;> omega), if_pos (by (try simp only [z32lt, z32le, z32eq, z64, Int32.reduceToInt, Int32.toInt_zero, Int32.toInt_one, Int64.reduceToInt, Int64.toInt_zero, Int64.toInt_one, true_and, and_true, false_and, and_false, or_false, false_or, true_or, or_true] at *) <;> omega)])
    · skip
      refine z_iconst (pc := 14) (v := -1) C dX10_sheet_14 (by decide) ?_
      exact z_iret (pc := 15) C hr dX10_sheet_15 (by first | rfl | (congr 2; rw [eq_comm]; first | (rw [if_neg (by (try simp only [z32lt, z32le, z32eq, z64, Int32.reduceToInt, Int32.toInt_zero, Int32.toInt_one, Int64.reduceToInt, Int64.toInt_zero, Int64.toInt_one, true_and, and_true, false_and, and_false, or_false, false_or, true_or, or_true] at *) <;> omega)]; done) | (rw [if_pos (by (try simp only [z32lt, z32le, z32eq, z64, Int32.reduceToInt, Int32.toInt_zero, Int32.toInt_one, Int64.reduceToInt, Int64.toInt_zero, Int64.toInt_one, true_and, and_true, false_and, and_false, or_false, false_or, true_or, or_true] at *) <;> omega)] <;> simp [zup, zmix, z0])))
  · skip
    refine z_if_eq (pc := 5) 14 C dX10_sheet_5 (by decide) (fun h5 => ?_) (fun h5 => absurd (of_decide_eq_true rfl) h5)
    refine z_iconst (pc := 14) (v := -1) C dX10_sheet_14 (by decide) ?_
    exact z_iret (pc := 15) C hr dX10_sheet_15 (by first | rfl | (congr 2; rw [eq_comm]; first | (rw [if_neg (by (try simp only [z32lt, z32le, z32eq, z64, Int32.reduceToInt, Int32.toInt_zero, Int32.toInt_one, Int64.reduceToInt, Int64.toInt_zero, Int64.toInt_one, true_and, and_true, false_and, and_false, or_false, false_or, true_or, or_true] at *) <;> omega)]; done) | (rw [if_pos (by (try simp only [z32lt, z32le, z32eq, z64, Int32.reduceToInt, Int32.toInt_zero, Int32.toInt_one, Int64.reduceToInt, Int64.toInt_zero, Int64.toInt_one, true_and, and_true, false_and, and_false, or_false, false_or, true_or, or_true] at *) <;> omega)] <;> simp [zup, zmix, z0])))
