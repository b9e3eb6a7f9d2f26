set_option maxRecDepth 100000 in
set_option maxHeartbeats 4000000 in
theorem p_X7_next (d : Nat) (f : zM) (h0 : f 18 0 3 ≤ f 18 0 6) : ZM d yX7_next cX7_next 1 (some .int) [zr 18 0] f (fun r g => r = some (zi (-1)) ∧ g = f) := by
  refine ZM.intro (by decide +kernel) (Nat.le_of_ble_eq_true rfl) ?_
  intro X C hr hn
  show Z X 0 [some (zr 18 0)] [] f
  refine z_aload_n (pc := 0) C dX7_next_0 rfl ?_
  refine z_getI (pc := 1) C zf_X7_33 rfl rfl (by decide) dX7_next_1 ?_
  refine z_aload_n (pc := 4) C dX7_next_4 rfl ?_
  refine z_getI (pc := 5) C zf_X7_29 rfl rfl (by decide) dX7_next_5 ?_
  refine z_icmp_ge (pc := 8) 38 C dX7_next_8 (by decide) (fun h8 => ?_) (fun h8 => absurd h0 h8)
  refine z_aload_n (pc := 38) C dX7_next_38 rfl ?_
  refine z_getI (pc := 39) C zf_X7_33 rfl rfl (by decide) dX7_next_39 ?_
  refine z_aload_n (pc := 42) C dX7_next_42 rfl ?_
  refine z_getI (pc := 43) C zf_X7_29 rfl rfl (by decide) dX7_next_43 ?_
  refine z_icmp_ge (pc := 46) 61 C dX7_next_46 (by decide) (fun h46 => ?_) (fun h46 => absurd h0 h46)
  refine z_iconst (pc := 61) (v := -1) C dX7_next_61 (by decide) ?_
  exact z_iret (pc := 62) C hr dX7_next_62 (⟨rfl, rfl⟩)

set_option maxRecDepth 100000 in
set_option maxHeartbeats 4000000 in
theorem p_X7_takes (d : Nat) (f : zM) (h0 : f 18 0 3 ≤ f 18 0 6) (c : Int32) (hc : ¬ (-1 : Int32) = c) : ZM (d + 1) yX7_takes cX7_takes 3 (some .boolean) [zr 18 0, zi c] f (fun r g => r = some (zi 0) ∧ g = f) := by
  refine ZM.intro (by decide +kernel) (Nat.le_of_ble_eq_true rfl) ?_
  intro X C hr hn
  show Z X 0 [some (zr 18 0), some (zi c), none] [] f
  refine z_aload_n (pc := 0) C dX7_takes_0 rfl ?_
  refine z_callVx (pc := 1) C zk_X7_52 (p_X7_next _ _ h0) rfl rfl (by decide) rfl rfl (Nat.le_of_ble_eq_true rfl) dX7_takes_1 ?_
  simp only [Option.toList, List.cons_append, List.nil_append]
  refine z_iload_n (pc := 4) C dX7_takes_4 rfl ?_
  refine z_icmp_ne (pc := 5) 12 C dX7_takes_5 (by decide) (fun h5 => ?_) (fun h5 => absurd h5 hc)
  refine z_iconst (pc := 12) (v := 0) C dX7_takes_12 (by decide) ?_
  refine z_istore_n (pc := 13) C dX7_takes_13 (by rw [hn]; decide) rfl ?_
  refine z_iload_n (pc := 14) C dX7_takes_14 rfl ?_
  refine z_if_eq (pc := 15) 28 C dX7_takes_15 (by decide) (fun h15 => ?_) (fun h15 => absurd (by decide) h15)
  refine z_iload_n (pc := 28) C dX7_takes_28 rfl ?_
  exact z_zret (pc := 29) C hr (by decide) dX7_takes_29 (⟨rfl, rfl⟩)

set_option maxRecDepth 100000 in
set_option maxHeartbeats 4000000 in
theorem p_X7_fail1 (d : Nat) (f : zM) (h0 : f 18 0 7 = -1) (v : Int32) : ZM d yX7_fail cX7_fail 2 none [zr 18 0, zi v] f (fun r g => r = none ∧ g = zup f 18 0 7 v) := by
  refine ZM.intro (by decide +kernel) (Nat.le_of_ble_eq_true rfl) ?_
  intro X C hr hn
  show Z X 0 [some (zr 18 0), some (zi v)] [] f
  refine z_aload_n (pc := 0) C dX7_fail_0 rfl ?_
  refine z_getI (pc := 1) C zf_X7_36 rfl rfl (by decide) dX7_fail_1 ?_
  refine z_iconst (pc := 4) (v := -1) C dX7_fail_4 (by decide) ?_
  refine z_icmp_ne (pc := 5) 13 C dX7_fail_5 (by decide) (fun h5 => absurd (by rw [h0]) h5) (fun h5 => ?_)
  refine z_aload_n (pc := 8) C dX7_fail_8 rfl ?_
  refine z_iload_n (pc := 9) C dX7_fail_9 rfl ?_
  refine z_putI (pc := 10) C zf_X7_36 zp_7_7 rfl rfl (by decide) dX7_fail_10 ?_
  exact z_vret (pc := 13) C hr dX7_fail_13 (⟨by simp, rfl⟩)

set_option maxRecDepth 100000 in
set_option maxHeartbeats 4000000 in
theorem p_X7_fail2 (d : Nat) (f : zM) (h0 : ¬ f 18 0 7 = -1) (v : Int32) : ZM d yX7_fail cX7_fail 2 none [zr 18 0, zi v] f (fun r g => r = none ∧ g = f) := by
  refine ZM.intro (by decide +kernel) (Nat.le_of_ble_eq_true rfl) ?_
  intro X C hr hn
  show Z X 0 [some (zr 18 0), some (zi v)] [] f
  refine z_aload_n (pc := 0) C dX7_fail_0 rfl ?_
  refine z_getI (pc := 1) C zf_X7_36 rfl rfl (by decide) dX7_fail_1 ?_
  refine z_iconst (pc := 4) (v := -1) C dX7_fail_4 (by decide) ?_
  refine z_icmp_ne (pc := 5) 13 C dX7_fail_5 (by decide) (fun h5 => ?_) (fun h5 => absurd h5 h0)
  exact z_vret (pc := 13) C hr dX7_fail_13 (⟨by simp, rfl⟩)

set_option maxRecDepth 100000 in
set_option maxHeartbeats 4000000 in
theorem p_X7_readLand (d : Nat) (f : zM) (h0 : f 18 0 3 ≤ f 18 0 6) (h1 : f 18 0 7 = -1) (v : Int32) : ZM (d + 1) yX7_readLand cX7_readLand 3 (some .int) [zr 18 0, zi v] f (fun r g => r = some (zi 0) ∧ g = zup f 18 0 7 (f 18 0 6)) := by
  refine ZM.intro (by decide +kernel) (Nat.le_of_ble_eq_true rfl) ?_
  intro X C hr hn
  show Z X 0 [some (zr 18 0), some (zi v), none] [] f
  refine z_aload_n (pc := 0) C dX7_readLand_0 rfl ?_
  refine z_callVx (pc := 1) C zk_X7_52 (p_X7_next _ _ h0) rfl rfl (by decide) rfl rfl (Nat.le_of_ble_eq_true rfl) dX7_readLand_1 ?_
  simp only [Option.toList, List.cons_append, List.nil_append]
  refine z_bipush (pc := 4) (v := 65) C dX7_readLand_4 (by decide) ?_
  refine z_isub (pc := 6) C dX7_readLand_6 ?_
  refine z_istore_n (pc := 7) C dX7_readLand_7 (by rw [hn]; decide) rfl ?_
  refine z_iload_n (pc := 8) C dX7_readLand_8 rfl ?_
  refine z_callNx (pc := 9) C zk_nest (m_X9_isLand _ _ _) rfl rfl (Nat.le_of_ble_eq_true rfl) dX7_readLand_9 ?_
  simp only [Option.toList, List.cons_append, List.nil_append]
  refine z_if_eq (pc := 12) 20 C dX7_readLand_12 (by decide) (fun h12 => ?_) (fun h12 => absurd (by decide) h12)
  refine z_aload_n (pc := 20) C dX7_readLand_20 rfl ?_
  refine z_aload_n (pc := 21) C dX7_readLand_21 rfl ?_
  refine z_getI (pc := 22) C zf_X7_33 rfl rfl (by decide) dX7_readLand_22 ?_
  refine z_callVx (pc := 25) C zk_X7_56 (p_X7_fail1 _ _ h1 _) rfl rfl (by decide) rfl rfl (Nat.le_of_ble_eq_true rfl) dX7_readLand_25 ?_
  simp only [Option.toList, List.cons_append, List.nil_append]
  refine z_iconst (pc := 28) (v := 0) C dX7_readLand_28 (by decide) ?_
  exact z_iret (pc := 29) C hr dX7_readLand_29 (⟨rfl, rfl⟩)

set_option maxRecDepth 100000 in
set_option maxHeartbeats 4000000 in
theorem p_X7_readClause (d : Nat) (f : zM) (h0 : f 18 0 3 = 0) (h2 : f 18 0 6 = 0) (h1 : f 18 0 7 = -1) : ZM (d + 2) yX7_readClause cX7_readClause 2 none [zr 18 0] f (fun r g => r = none ∧ g = zup f 18 0 7 0) := by
  refine ZM.intro (by decide +kernel) (Nat.le_of_ble_eq_true rfl) ?_
  intro X C hr hn
  show Z X 0 [some (zr 18 0), none] [] f
  refine z_aload_n (pc := 0) C dX7_readClause_0 rfl ?_
  refine z_bipush (pc := 1) (v := -4) C dX7_readClause_1 (by decide) ?_
  refine z_callVx (pc := 3) C zk_X7_60 (p_X7_readLand _ _ (by rw [h0, h2]; decide) h1 _) rfl rfl (by decide) rfl rfl (Nat.le_of_ble_eq_true rfl) dX7_readClause_3 ?_
  simp only [Option.toList, List.cons_append, List.nil_append]
  refine z_istore_n (pc := 6) C dX7_readClause_6 (by rw [hn]; decide) rfl ?_
  refine z_aload_n (pc := 7) C dX7_readClause_7 rfl ?_
  refine z_bipush (pc := 8) (v := 58) C dX7_readClause_8 (by decide) ?_
  refine z_callVx (pc := 10) C zk_X7_48 (p_X7_takes _ _ (by simp only [zup]; simp [h0, h2]) _ (by decide)) rfl rfl (by decide) rfl rfl (Nat.le_of_ble_eq_true rfl) dX7_readClause_10 ?_
  simp only [Option.toList, List.cons_append, List.nil_append]
  refine z_if_eq (pc := 13) 24 C dX7_readClause_13 (by decide) (fun h13 => ?_) (fun h13 => absurd (by decide) h13)
  refine z_aload_n (pc := 24) C dX7_readClause_24 rfl ?_
  refine z_bipush (pc := 25) (v := 62) C dX7_readClause_25 (by decide) ?_
  refine z_callVx (pc := 27) C zk_X7_48 (p_X7_takes _ _ (by simp only [zup]; simp [h0, h2]) _ (by decide)) rfl rfl (by decide) rfl rfl (Nat.le_of_ble_eq_true rfl) dX7_readClause_27 ?_
  simp only [Option.toList, List.cons_append, List.nil_append]
  refine z_if_eq (pc := 30) 41 C dX7_readClause_30 (by decide) (fun h30 => ?_) (fun h30 => absurd (by decide) h30)
  refine z_aload_n (pc := 41) C dX7_readClause_41 rfl ?_
  refine z_aload_n (pc := 42) C dX7_readClause_42 rfl ?_
  refine z_getI (pc := 43) C zf_X7_33 rfl rfl (by decide) dX7_readClause_43 ?_
  refine z_callVx (pc := 46) C zk_X7_56 (p_X7_fail2 _ _ (by simp [zup, h2]) _) rfl rfl (by decide) rfl rfl (Nat.le_of_ble_eq_true rfl) dX7_readClause_46 ?_
  simp only [Option.toList, List.cons_append, List.nil_append]
  exact z_vret (pc := 49) C hr dX7_readClause_49 (⟨rfl, by rw [h2]⟩)

set_option maxRecDepth 100000 in
set_option maxHeartbeats 4000000 in
theorem p_X7_parse (d : Nat)  : ZM (d + 3) yX7_parse cX7_parse 2 (some .int) [zr 18 0] z0 (fun r g => r = some (zi (-20)) ∧ zKeep g) := by
  refine ZM.intro (by decide +kernel) (Nat.le_of_ble_eq_true rfl) ?_
  intro X C hr hn
  show Z X 0 [some (zr 18 0), none] [] z0
  refine z_aload_n (pc := 0) C dX7_parse_0 rfl ?_
  refine z_iconst (pc := 1) (v := 0) C dX7_parse_1 (by decide) ?_
  refine z_putI (pc := 2) C zf_X7_33 zp_7_6 rfl rfl (by decide) dX7_parse_2 ?_
  refine z_aload_n (pc := 5) C dX7_parse_5 rfl ?_
  refine z_iconst (pc := 6) (v := -1) C dX7_parse_6 (by decide) ?_
  refine z_putI (pc := 7) C zf_X7_36 zp_7_7 rfl rfl (by decide) dX7_parse_7 ?_
  refine z_aload_n (pc := 10) C dX7_parse_10 rfl ?_
  refine z_iconst (pc := 11) (v := 0) C dX7_parse_11 (by decide) ?_
  refine z_putI (pc := 12) C zf_X7_39 zp_7_4 rfl rfl (by decide) dX7_parse_12 ?_
  refine z_aload_n (pc := 15) C dX7_parse_15 rfl ?_
  refine z_iconst (pc := 16) (v := 0) C dX7_parse_16 (by decide) ?_
  refine z_putI (pc := 17) C zf_X7_42 zp_7_5 rfl rfl (by decide) dX7_parse_17 ?_
  refine z_iconst (pc := 20) (v := 0) C dX7_parse_20 (by decide) ?_
  refine z_istore_n (pc := 21) C dX7_parse_21 (by rw [hn]; decide) rfl ?_
  refine z_aload_n (pc := 22) C dX7_parse_22 rfl ?_
  refine z_callVx (pc := 23) C zk_X7_45 (p_X7_readClause _ _ (by decide) (by decide) (by decide)) rfl rfl (by decide) rfl rfl (Nat.le_of_ble_eq_true rfl) dX7_parse_23 ?_
  simp only [Option.toList, List.cons_append, List.nil_append]
  refine z_iinc (pc := 26) (v := 1) C dX7_parse_26 rfl (by decide) (by rw [hn]; decide) rfl ?_
  refine z_iload_n (pc := 29) C dX7_parse_29 rfl ?_
  refine z_bipush (pc := 30) (v := 12) C dX7_parse_30 (by decide) ?_
  refine z_icmp_ge (pc := 32) 52 C dX7_parse_32 (by decide) (fun h32 => absurd h32 (by decide)) (fun h32 => ?_)
  refine z_aload_n (pc := 35) C dX7_parse_35 rfl ?_
  refine z_getI (pc := 36) C zf_X7_36 rfl rfl (by decide) dX7_parse_36 ?_
  refine z_iconst (pc := 39) (v := -1) C dX7_parse_39 (by decide) ?_
  refine z_icmp_ne (pc := 40) 52 C dX7_parse_40 (by decide) (fun h40 => ?_) (fun h40 => absurd h40 (by decide))
  refine z_aload_n (pc := 52) C dX7_parse_52 rfl ?_
  refine z_callVx (pc := 53) C zk_X7_52 (p_X7_next _ _ (by decide)) rfl rfl (by decide) rfl rfl (Nat.le_of_ble_eq_true rfl) dX7_parse_53 ?_
  simp only [Option.toList, List.cons_append, List.nil_append]
  refine z_iconst (pc := 56) (v := -1) C dX7_parse_56 (by decide) ?_
  refine z_icmp_eq (pc := 57) 68 C dX7_parse_57 (by decide) (fun h57 => ?_) (fun h57 => absurd (by decide) h57)
  refine z_aload_n (pc := 68) C dX7_parse_68 rfl ?_
  refine z_getI (pc := 69) C zf_X7_36 rfl rfl (by decide) dX7_parse_69 ?_
  refine z_iconst (pc := 72) (v := -1) C dX7_parse_72 (by decide) ?_
  refine z_icmp_ne (pc := 73) 80 C dX7_parse_73 (by decide) (fun h73 => ?_) (fun h73 => absurd h73 (by decide))
  refine z_bipush (pc := 80) (v := -20) C dX7_parse_80 (by decide) ?_
  refine z_aload_n (pc := 82) C dX7_parse_82 rfl ?_
  refine z_getI (pc := 83) C zf_X7_36 rfl rfl (by decide) dX7_parse_83 ?_
  refine z_isub (pc := 86) C dX7_parse_86 ?_
  exact z_iret (pc := 87) C hr dX7_parse_87 (⟨congrArg (fun x => some (zi x)) (by decide), by repeat (first | exact zk0 | refine zKeep.up ?_ (by decide) | refine zKeep.fill ?_ (by decide))⟩)

set_option maxRecDepth 100000 in
set_option maxHeartbeats 4000000 in
theorem p_X9_world (d : Nat)  : ZM (d + 4) yX9_world cX9_world 3 (some .int) [zr 0 0] z0 (fun r g => r = some (zi (-20)) ∧ zKeep g) := by
  refine ZM.intro (by decide +kernel) (Nat.le_of_ble_eq_true rfl) ?_
  intro X C hr hn
  show Z X 0 [some (zr 0 0), none, none] [] z0
  refine z_aload_n (pc := 0) C dX9_world_0 rfl ?_
  refine z_getR (pc := 1) C zf_X9_31 rfl rfl (by decide) dX9_world_1 ?_
  refine z_callV (pc := 4) C zk_X9_115 (p_X7_parse _) rfl rfl (by decide) rfl rfl (Nat.le_of_ble_eq_true rfl) dX9_world_4 (fun r4 g4 q4 => ?_)
  obtain ⟨rfl, hk4⟩ := q4
  simp only [Option.toList, List.cons_append, List.nil_append]
  refine z_istore_n (pc := 7) C dX9_world_7 (by rw [hn]; decide) rfl ?_
  refine z_aload_n (pc := 8) C dX9_world_8 rfl ?_
  refine z_getR (pc := 9) C zf_X9_31 rfl rfl (by decide) dX9_world_9 ?_
  refine z_iconst (pc := 12) (v := 0) C dX9_world_12 (by decide) ?_
  refine z_putI (pc := 13) C zf_X9_108 zp_7_3 rfl rfl (by decide) dX9_world_13 ?_
  refine z_iload_n (pc := 16) C dX9_world_16 rfl ?_
  refine z_if_ge (pc := 17) 22 C dX9_world_17 (by decide) (fun h17 => absurd h17 (by decide)) (fun h17 => ?_)
  refine z_iload_n (pc := 20) C dX9_world_20 rfl ?_
  exact z_iret (pc := 21) C hr dX9_world_21 (⟨rfl, zKeep.up hk4 (by decide)⟩)

set_option maxRecDepth 100000 in
set_option maxHeartbeats 4000000 in
theorem p_X8_landsWhereCrime (d : Nat) (f : zM) (v : Int32) (h0 : f 1 0 5 = 0) : ZM d yX8_landsWhereCrime cX8_landsWhereCrime 4 (some .int) [zr 1 0, zi v] f (fun r g => r = some (zi 0) ∧ g = f) := by
  refine ZM.intro (by decide +kernel) (Nat.le_of_ble_eq_true rfl) ?_
  intro X C hr hn
  show Z X 0 [some (zr 1 0), some (zi v), none, none] [] f
  refine z_iconst (pc := 0) (v := 0) C dX8_landsWhereCrime_0 (by decide) ?_
  refine z_istore_n (pc := 1) C dX8_landsWhereCrime_1 (by rw [hn]; decide) rfl ?_
  refine z_iconst (pc := 2) (v := 0) C dX8_landsWhereCrime_2 (by decide) ?_
  refine z_istore_n (pc := 3) C dX8_landsWhereCrime_3 (by rw [hn]; decide) rfl ?_
  refine z_iload_n (pc := 4) C dX8_landsWhereCrime_4 rfl ?_
  refine z_aload_n (pc := 5) C dX8_landsWhereCrime_5 rfl ?_
  refine z_getI (pc := 6) C zf_X8_46 rfl rfl (by decide) dX8_landsWhereCrime_6 ?_
  refine z_icmp_ge (pc := 9) 49 C dX8_landsWhereCrime_9 (by decide) (fun h9 => ?_) (fun h9 => absurd (by rw [h0]; decide) h9)
  refine z_iload_n (pc := 49) C dX8_landsWhereCrime_49 rfl ?_
  exact z_iret (pc := 50) C hr dX8_landsWhereCrime_50 (⟨rfl, rfl⟩)

theorem nI_dec (m : Nat) : nI (m + 1) + (-1) = nI m := by
  rw [nI_succ, Int32.add_assoc, show (1 : Int32) + (-1) = 0 from by decide, Int32.add_zero]
set_option maxRecDepth 100000 in
set_option maxHeartbeats 4000000 in
theorem part_loop {X : zX} {d : Nat} {a1 a2 a3 : Int32} (C : zC X cX9_part yX9_part.cls (d + 1)) (hn : znL X = 8) (kk : ∀ o7 : Option zV, Z X 86 [some (zr 0 0), some (zi a1), some (zi a2), some (zi a3), some (zi (-4)), some (zi 0), some (zi (nI 0)), o7] [] z0) :
    ∀ (m : Nat) (o7 : Option zV), m ≤ 63 → Z X 41 [some (zr 0 0), some (zi a1), some (zi a2), some (zi a3), some (zi (-4)), some (zi 0), some (zi (nI m)), o7] [] z0 := by
  intro m
  induction m with
  | zero =>
    intro o7 hm
    refine z_iload (pc := 41) C dX9_part_41 rfl ?_
    refine z_iconst (pc := 43) (v := 1) C dX9_part_43 (by decide) ?_
    refine z_icmp_lt (pc := 44) 86 C dX9_part_44 (by decide) (fun _ => kk o7) (fun h => absurd (by decide) h)
  | succ m ih =>
    intro o7 hm
    refine z_iload (pc := 41) C dX9_part_41 rfl ?_
    refine z_iconst (pc := 43) (v := 1) C dX9_part_43 (by decide) ?_
    refine z_icmp_lt (pc := 44) 86 C dX9_part_44 (by decide) (fun h => absurd h (nI_nlt (a := m + 1) (b := 1) (by omega) (by omega))) (fun _ => ?_)
    refine z_aload_n (pc := 47) C dX9_part_47 rfl ?_
    refine z_getR (pc := 48) C zf_X9_10 rfl rfl (by decide) dX9_part_48 ?_
    refine z_iload (pc := 51) C dX9_part_51 rfl ?_
    refine z_callVx (pc := 53) C zk_X9_327 (p_X8_landsWhereCrime _ _ _ rfl) rfl rfl (by decide) rfl rfl (Nat.le_of_ble_eq_true rfl) dX9_part_53 ?_
    simp only [Option.toList, List.cons_append, List.nil_append]
    refine z_istore (pc := 56) C dX9_part_56 (by rw [hn]; decide) rfl ?_
    refine z_iload (pc := 58) C dX9_part_58 rfl ?_
    refine z_iload_n (pc := 60) C dX9_part_60 rfl ?_
    refine z_ishr (pc := 61) C dX9_part_61 ?_
    refine z_iconst (pc := 62) (v := 1) C dX9_part_62 (by decide) ?_
    refine z_iand (pc := 63) C dX9_part_63 ?_
    refine z_iload (pc := 64) C dX9_part_64 rfl ?_
    refine z_iload_n (pc := 66) C dX9_part_66 rfl ?_
    refine z_ishr (pc := 67) C dX9_part_67 ?_
    refine z_iconst (pc := 68) (v := 1) C dX9_part_68 (by decide) ?_
    refine z_iand (pc := 69) C dX9_part_69 ?_
    refine z_icmp_eq (pc := 70) 80 C dX9_part_70 (by decide) (fun h70 => ?_) (fun h70 => absurd (by simp) h70)
    refine z_iinc (pc := 80) (v := -1) C dX9_part_80 rfl (by decide) (by rw [hn]; decide) rfl ?_
    refine z_goto (pc := 83) 41 C dX9_part_83 (by decide) ?_
    rw [nI_dec]
    exact ih _ (by omega)
set_option maxRecDepth 100000 in
set_option maxHeartbeats 4000000 in
theorem p_X9_part (d : Nat) (a1 a2 a3 : Int32) : ZM (d + 1) yX9_part cX9_part 8 (some .int) [zr 0 0, zi a1, zi a2, zi a3] z0 (fun r g => r = some (zi (if (0 ≤ a1.toInt ∧ a1.toInt ≤ 5) ∧ (0 ≤ a2.toInt ∧ a2.toInt ≤ 5) ∧ ¬ a1.toInt = a2.toInt ∧ (0 ≤ a3.toInt ∧ a3.toInt ≤ 1) then (if a3 = 0 then -4 else 0) else -1)) ∧ zKeep g) := by
  refine ZM.intro (by decide +kernel) (Nat.le_of_ble_eq_true rfl) ?_
  intro X C hr hn
  show Z X 0 [some (zr 0 0), some (zi a1), some (zi a2), some (zi a3), none, none, none, none] [] z0
  refine z_iload_n (pc := 0) C dX9_part_0 rfl ?_
  refine z_callSb (pc := 1) C zk_X9_46 (m_X9_isLand _ _ _) rfl rfl (Nat.le_of_ble_eq_true rfl) dX9_part_1 (fun h1 => ?_) (fun h1 => ?_)
  · skip
    refine z_if_eq (pc := 4) 28 C dX9_part_4 (by decide) (fun h4 => absurd h4 (by decide)) (fun h4 => ?_)
    refine z_iload_n (pc := 7) C dX9_part_7 rfl ?_
    refine z_callSb (pc := 8) C zk_X9_46 (m_X9_isLand _ _ _) rfl rfl (Nat.le_of_ble_eq_true rfl) dX9_part_8 (fun h8 => ?_) (fun h8 => ?_)
    · skip
      refine z_if_eq (pc := 11) 28 C dX9_part_11 (by decide) (fun h11 => absurd h11 (by decide)) (fun h11 => ?_)
      refine z_iload_n (pc := 14) C dX9_part_14 rfl ?_
      refine z_iload_n (pc := 15) C dX9_part_15 rfl ?_
      refine z_icmp_eq (pc := 16) 28 C dX9_part_16 (by decide) (fun h16 => ?_) (fun h16 => ?_)
      · skip
        refine z_iconst (pc := 28) (v := -1) C dX9_part_28 (by decide) ?_
        exact z_iret (pc := 29) C hr dX9_part_29 (⟨by congr 2; first | (rw [if_neg (by simp only [z32lt, z32le, z32eq, Int32.reduceToInt, Int32.toInt_zero, Int32.toInt_one] at *; omega)]; done) | (rw [if_pos (by simp only [z32lt, z32le, z32eq, Int32.reduceToInt, Int32.toInt_zero, Int32.toInt_one] at *; omega)] <;> simp [zup, z0, zfill]), by repeat (first | exact zk0 | refine zKeep.up ?_ (by decide) | refine zKeep.fill ?_ (by decide))⟩)
      · skip
        refine z_iload_n (pc := 19) C dX9_part_19 rfl ?_
        refine z_if_lt (pc := 20) 28 C dX9_part_20 (by decide) (fun h20 => ?_) (fun h20 => ?_)
        · skip
          refine z_iconst (pc := 28) (v := -1) C dX9_part_28 (by decide) ?_
          exact z_iret (pc := 29) C hr dX9_part_29 (⟨by congr 2; first | (rw [if_neg (by simp only [z32lt, z32le, z32eq, Int32.reduceToInt, Int32.toInt_zero, Int32.toInt_one] at *; omega)]; done) | (rw [if_pos (by simp only [z32lt, z32le, z32eq, Int32.reduceToInt, Int32.toInt_zero, Int32.toInt_one] at *; omega)] <;> simp [zup, z0, zfill]), by repeat (first | exact zk0 | refine zKeep.up ?_ (by decide) | refine zKeep.fill ?_ (by decide))⟩)
        · skip
          refine z_iload_n (pc := 23) C dX9_part_23 rfl ?_
          refine z_iconst (pc := 24) (v := 1) C dX9_part_24 (by decide) ?_
          refine z_icmp_le (pc := 25) 30 C dX9_part_25 (by decide) (fun h25 => ?_) (fun h25 => ?_)
          · skip
            refine z_bipush (pc := 30) (v := -4) C dX9_part_30 (by decide) ?_
            refine z_istore (pc := 32) C dX9_part_32 (by rw [hn]; decide) rfl ?_
            refine z_iconst (pc := 34) (v := 0) C dX9_part_34 (by decide) ?_
            refine z_istore (pc := 35) C dX9_part_35 (by rw [hn]; decide) rfl ?_
            refine z_bipush (pc := 37) (v := 63) C dX9_part_37 (by decide) ?_
            refine z_istore (pc := 39) C dX9_part_39 (by rw [hn]; decide) rfl ?_
            refine part_loop C hn (fun o7 => ?_) 63 _ (by decide)
            refine z_iload_n (pc := 86) C dX9_part_86 rfl ?_
            refine z_if_ne (pc := 87) 95 C dX9_part_87 (by decide) (fun h87 => ?_) (fun h87 => ?_)
            · skip
              refine z_iload (pc := 95) C dX9_part_95 rfl ?_
              exact z_iret (pc := 97) C hr dX9_part_97 (⟨by congr 2; rw [if_pos (by simp only [z32lt, z32le, z32eq, Int32.reduceToInt, Int32.toInt_zero, Int32.toInt_one] at *; omega)]; first | (rw [if_pos h87]; done) | (rw [if_neg h87]; done), zk0⟩)
            · skip
              refine z_iload (pc := 90) C dX9_part_90 rfl ?_
              refine z_goto (pc := 92) 97 C dX9_part_92 (by decide) ?_
              exact z_iret (pc := 97) C hr dX9_part_97 (⟨by congr 2; rw [if_pos (by simp only [z32lt, z32le, z32eq, Int32.reduceToInt, Int32.toInt_zero, Int32.toInt_one] at *; omega)]; first | (rw [if_pos h87]; done) | (rw [if_neg h87]; done), zk0⟩)
          · skip
            refine z_iconst (pc := 28) (v := -1) C dX9_part_28 (by decide) ?_
            exact z_iret (pc := 29) C hr dX9_part_29 (⟨by congr 2; first | (rw [if_neg (by simp only [z32lt, z32le, z32eq, Int32.reduceToInt, Int32.toInt_zero, Int32.toInt_one] at *; omega)]; done) | (rw [if_pos (by simp only [z32lt, z32le, z32eq, Int32.reduceToInt, Int32.toInt_zero, Int32.toInt_one] at *; omega)] <;> simp [zup, z0, zfill]), by repeat (first | exact zk0 | refine zKeep.up ?_ (by decide) | refine zKeep.fill ?_ (by decide))⟩)
    · skip
      refine z_if_eq (pc := 11) 28 C dX9_part_11 (by decide) (fun h11 => ?_) (fun h11 => absurd (by decide) h11)
      refine z_iconst (pc := 28) (v := -1) C dX9_part_28 (by decide) ?_
      exact z_iret (pc := 29) C hr dX9_part_29 (⟨by congr 2; first | (rw [if_neg (by simp only [z32lt, z32le, z32eq, Int32.reduceToInt, Int32.toInt_zero, Int32.toInt_one] at *; omega)]; done) | (rw [if_pos (by simp only [z32lt, z32le, z32eq, Int32.reduceToInt, Int32.toInt_zero, Int32.toInt_one] at *; omega)] <;> simp [zup, z0, zfill]), by repeat (first | exact zk0 | refine zKeep.up ?_ (by decide) | refine zKeep.fill ?_ (by decide))⟩)
  · skip
    refine z_if_eq (pc := 4) 28 C dX9_part_4 (by decide) (fun h4 => ?_) (fun h4 => absurd (by decide) h4)
    refine z_iconst (pc := 28) (v := -1) C dX9_part_28 (by decide) ?_
    exact z_iret (pc := 29) C hr dX9_part_29 (⟨by congr 2; first | (rw [if_neg (by simp only [z32lt, z32le, z32eq, Int32.reduceToInt, Int32.toInt_zero, Int32.toInt_one] at *; omega)]; done) | (rw [if_pos (by simp only [z32lt, z32le, z32eq, Int32.reduceToInt, Int32.toInt_zero, Int32.toInt_one] at *; omega)] <;> simp [zup, z0, zfill]), by repeat (first | exact zk0 | refine zKeep.up ?_ (by decide) | refine zKeep.fill ?_ (by decide))⟩)
