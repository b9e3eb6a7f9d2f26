def zcp (f : zM) (k n n2 j : Nat) : zM := zup f k n j (f k n2 j)
set_option maxRecDepth 100000 in
set_option maxHeartbeats 4000000 in
theorem m_X3_stand (d : Nat) (f : zM) (n n2 : Nat) (hnn : n < zcnt 6) (hn2 : n2 < zcnt 6) (hb : f 6 n2 4 = 0 ∨ f 6 n2 4 = 1) : ZM d yX3_stand cX3_stand 2 none [zr 6 n, zr 6 n2] f (fun r g => r = none ∧ g = (zcp (zcp (zcp (zcp f 6 n n2 1) 6 n n2 4) 6 n n2 5) 6 n n2 6)) := by
  refine ZM.intro (by decide +kernel) (Nat.le_of_ble_eq_true rfl) ?_
  intro X C hr hn
  show Z X 0 [some (zr 6 n), some (zr 6 n2)] [] f
  refine z_aload_n (pc := 0) C dX3_stand_0 rfl ?_
  refine z_aload_n (pc := 1) C dX3_stand_1 rfl ?_
  refine z_getI (pc := 2) C zf_X3_18 rfl rfl hn2 dX3_stand_2 ?_
  refine z_putI (pc := 5) C zf_X3_18 zp_3_1 rfl rfl hnn dX3_stand_5 ?_
  refine z_aload_n (pc := 8) C dX3_stand_8 rfl ?_
  refine z_aload_n (pc := 9) C dX3_stand_9 rfl ?_
  refine z_getI (pc := 10) C zf_X3_21 rfl rfl hn2 dX3_stand_10 ?_
  refine z_putZ (pc := 13) C zf_X3_21 zp_3_4 (by rw [zup_ne _ _ (by omega)]; exact hb) rfl rfl hnn dX3_stand_13 ?_
  refine z_aload_n (pc := 16) C dX3_stand_16 rfl ?_
  refine z_aload_n (pc := 17) C dX3_stand_17 rfl ?_
  refine z_getI (pc := 18) C zf_X3_9 rfl rfl hn2 dX3_stand_18 ?_
  refine z_putI (pc := 21) C zf_X3_9 zp_3_5 rfl rfl hnn dX3_stand_21 ?_
  refine z_aload_n (pc := 24) C dX3_stand_24 rfl ?_
  refine z_aload_n (pc := 25) C dX3_stand_25 rfl ?_
  refine z_getI (pc := 26) C zf_X3_15 rfl rfl hn2 dX3_stand_26 ?_
  refine z_putI (pc := 29) C zf_X3_15 zp_3_6 rfl rfl hnn dX3_stand_29 ?_
  exact z_vret (pc := 32) C hr dX3_stand_32 (⟨by simp, rfl⟩)

set_option maxRecDepth 100000 in
set_option maxHeartbeats 4000000 in
theorem m_X3_copy (d : Nat) (f : zM) (n n2 : Nat) (hnn : n < zcnt 6) (hn2 : n2 < zcnt 6) (hb : f 6 n2 4 = 0 ∨ f 6 n2 4 = 1) : ZM (d + 1) yX3_copy cX3_copy 2 none [zr 6 n, zr 6 n2] f (fun r g => r = none ∧ g = zcp (zcp (zcp (zcp (zcp (zcp (zcp f 6 n n2 1) 6 n n2 4) 6 n n2 5) 6 n n2 6) 6 n n2 0) 6 n n2 2) 6 n n2 3) := by
  refine ZM.intro (by decide +kernel) (Nat.le_of_ble_eq_true rfl) ?_
  intro X C hr hn
  show Z X 0 [some (zr 6 n), some (zr 6 n2)] [] f
  refine z_aload_n (pc := 0) C dX3_copy_0 rfl ?_
  refine z_aload_n (pc := 1) C dX3_copy_1 rfl ?_
  refine z_callVx (pc := 2) C zk_X3_25 (m_X3_stand _ _ n n2 hnn hn2 hb) rfl rfl hnn rfl rfl (Nat.le_of_ble_eq_true rfl) dX3_copy_2 ?_
  simp only [Option.toList, List.cons_append, List.nil_append]
  refine z_aload_n (pc := 5) C dX3_copy_5 rfl ?_
  refine z_aload_n (pc := 6) C dX3_copy_6 rfl ?_
  refine z_getI (pc := 7) C zf_X3_29 rfl rfl hn2 dX3_copy_7 ?_
  refine z_putI (pc := 10) C zf_X3_29 zp_3_0 rfl rfl hnn dX3_copy_10 ?_
  refine z_aload_n (pc := 13) C dX3_copy_13 rfl ?_
  refine z_aload_n (pc := 14) C dX3_copy_14 rfl ?_
  refine z_getI (pc := 15) C zf_X3_32 rfl rfl hn2 dX3_copy_15 ?_
  refine z_putI (pc := 18) C zf_X3_32 zp_3_2 rfl rfl hnn dX3_copy_18 ?_
  refine z_aload_n (pc := 21) C dX3_copy_21 rfl ?_
  refine z_aload_n (pc := 22) C dX3_copy_22 rfl ?_
  refine z_getI (pc := 23) C zf_X3_35 rfl rfl hn2 dX3_copy_23 ?_
  refine z_putI (pc := 26) C zf_X3_35 zp_3_3 rfl rfl hnn dX3_copy_26 ?_
  exact z_vret (pc := 29) C hr dX3_copy_29 (⟨by simp, rfl⟩)

set_option maxRecDepth 100000 in
set_option maxHeartbeats 4000000 in
theorem p_X8_copy (d : Nat)  : ZM (d + 2) yX8_copy cX8_copy 3 none [zr 1 1, zr 1 0] z0 (fun r g => r = none ∧ zKeep g) := by
  refine ZM.intro (by decide +kernel) (Nat.le_of_ble_eq_true rfl) ?_
  intro X C hr hn
  show Z X 0 [some (zr 1 1), some (zr 1 0), none] [] z0
  refine z_aload_n (pc := 0) C dX8_copy_0 rfl ?_
  refine z_aload_n (pc := 1) C dX8_copy_1 rfl ?_
  refine z_getI (pc := 2) C zf_X8_46 rfl rfl (by decide) dX8_copy_2 ?_
  refine z_putI (pc := 5) C zf_X8_46 zp_8_5 rfl rfl (by decide) dX8_copy_5 ?_
  refine z_iconst (pc := 8) (v := 0) C dX8_copy_8 (by decide) ?_
  refine z_istore_n (pc := 9) C dX8_copy_9 (by rw [hn]; decide) rfl ?_
  refine z_iload_n (pc := 10) C dX8_copy_10 rfl ?_
  refine z_aload_n (pc := 11) C dX8_copy_11 rfl ?_
  refine z_getI (pc := 12) C zf_X8_46 rfl rfl (by decide) dX8_copy_12 ?_
  refine z_icmp_ge (pc := 15) 39 C dX8_copy_15 (by decide) (fun h15 => ?_) (fun h15 => absurd (by decide) h15)
  refine z_aload_n (pc := 39) C dX8_copy_39 rfl ?_
  refine z_aload_n (pc := 40) C dX8_copy_40 rfl ?_
  refine z_getI (pc := 41) C zf_X8_54 rfl rfl (by decide) dX8_copy_41 ?_
  refine z_putI (pc := 44) C zf_X8_54 zp_8_6 rfl rfl (by decide) dX8_copy_44 ?_
  refine z_iconst (pc := 47) (v := 0) C dX8_copy_47 (by decide) ?_
  refine z_istore_n (pc := 48) C dX8_copy_48 (by rw [hn]; decide) rfl ?_
  refine z_iload_n (pc := 49) C dX8_copy_49 rfl ?_
  refine z_aload_n (pc := 50) C dX8_copy_50 rfl ?_
  refine z_getI (pc := 51) C zf_X8_54 rfl rfl (by decide) dX8_copy_51 ?_
  refine z_icmp_ge (pc := 54) 83 C dX8_copy_54 (by decide) (fun h54 => ?_) (fun h54 => absurd (by decide) h54)
  refine z_aload_n (pc := 83) C dX8_copy_83 rfl ?_
  refine z_aload_n (pc := 84) C dX8_copy_84 rfl ?_
  refine z_getI (pc := 85) C zf_X8_64 rfl rfl (by decide) dX8_copy_85 ?_
  refine z_putI (pc := 88) C zf_X8_64 zp_8_7 rfl rfl (by decide) dX8_copy_88 ?_
  refine z_iconst (pc := 91) (v := 0) C dX8_copy_91 (by decide) ?_
  refine z_istore_n (pc := 92) C dX8_copy_92 (by rw [hn]; decide) rfl ?_
  refine z_iload_n (pc := 93) C dX8_copy_93 rfl ?_
  refine z_aload_n (pc := 94) C dX8_copy_94 rfl ?_
  refine z_getI (pc := 95) C zf_X8_64 rfl rfl (by decide) dX8_copy_95 ?_
  refine z_icmp_ge (pc := 98) 122 C dX8_copy_98 (by decide) (fun h98 => ?_) (fun h98 => absurd (by decide) h98)
  refine z_aload_n (pc := 122) C dX8_copy_122 rfl ?_
  refine z_aload_n (pc := 123) C dX8_copy_123 rfl ?_
  refine z_getI (pc := 124) C zf_X8_70 rfl rfl (by decide) dX8_copy_124 ?_
  refine z_putI (pc := 127) C zf_X8_70 zp_8_8 rfl rfl (by decide) dX8_copy_127 ?_
  refine z_iconst (pc := 130) (v := 0) C dX8_copy_130 (by decide) ?_
  refine z_istore_n (pc := 131) C dX8_copy_131 (by rw [hn]; decide) rfl ?_
  refine z_iload_n (pc := 132) C dX8_copy_132 rfl ?_
  refine z_aload_n (pc := 133) C dX8_copy_133 rfl ?_
  refine z_getI (pc := 134) C zf_X8_70 rfl rfl (by decide) dX8_copy_134 ?_
  refine z_icmp_ge (pc := 137) 182 C dX8_copy_137 (by decide) (fun h137 => ?_) (fun h137 => absurd (by decide) h137)
  refine z_aload_n (pc := 182) C dX8_copy_182 rfl ?_
  refine z_getR (pc := 183) C zf_X8_38 rfl rfl (by decide) dX8_copy_183 ?_
  refine z_aload_n (pc := 186) C dX8_copy_186 rfl ?_
  refine z_getR (pc := 187) C zf_X8_38 rfl rfl (by decide) dX8_copy_187 ?_
  refine z_callVx (pc := 190) C zk_X8_85 (m_X3_copy _ _ 1 0 (by decide) (by decide) (Or.inl (by decide))) rfl rfl (by decide) rfl rfl (Nat.le_of_ble_eq_true rfl) dX8_copy_190 ?_
  simp only [Option.toList, List.cons_append, List.nil_append]
  exact z_vret (pc := 193) C hr dX8_copy_193 (⟨rfl, by repeat (first | exact zk0 | refine zKeep.up ?_ (by decide) | refine zKeep.fill ?_ (by decide))⟩)

set_option maxRecDepth 100000 in
set_option maxHeartbeats 4000000 in
theorem p_X9_image (d : Nat)  : ZM (d + 3) yX9_image cX9_image 1 (some .int) [zr 0 0] z0 (fun r g => r = some (zi (1)) ∧ zKeep g) := by
  refine ZM.intro (by decide +kernel) (Nat.le_of_ble_eq_true rfl) ?_
  intro X C hr hn
  show Z X 0 [some (zr 0 0)] [] z0
  refine z_aload_n (pc := 0) C dX9_image_0 rfl ?_
  refine z_getR (pc := 1) C zf_X9_16 rfl rfl (by decide) dX9_image_1 ?_
  refine z_aload_n (pc := 4) C dX9_image_4 rfl ?_
  refine z_getR (pc := 5) C zf_X9_10 rfl rfl (by decide) dX9_image_5 ?_
  refine z_callV (pc := 8) C zk_X9_330 (p_X8_copy _) rfl rfl (by decide) rfl rfl (Nat.le_of_ble_eq_true rfl) dX9_image_8 (fun r8 g8 q8 => ?_)
  obtain ⟨rfl, hk8⟩ := q8
  simp only [Option.toList, List.cons_append, List.nil_append]
  refine z_aload_n (pc := 11) C dX9_image_11 rfl ?_
  refine z_iconst (pc := 12) (v := 1) C dX9_image_12 (by decide) ?_
  refine z_putZ (pc := 13) C zf_X9_42 zp_9_5 (by decide) rfl rfl (by decide) dX9_image_13 ?_
  refine z_iconst (pc := 16) (v := 1) C dX9_image_16 (by decide) ?_
  exact z_iret (pc := 17) C hr dX9_image_17 (⟨rfl, zKeep.up hk8 (by decide)⟩)

set_option maxRecDepth 100000 in
set_option maxHeartbeats 4000000 in
theorem p_X9_restore (d : Nat)  : ZM d yX9_restore cX9_restore 1 (some .int) [zr 0 0] z0 (fun r g => r = some (zi (-4)) ∧ zKeep g) := by
  refine ZM.intro (by decide +kernel) (Nat.le_of_ble_eq_true rfl) ?_
  intro X C hr hn
  show Z X 0 [some (zr 0 0)] [] z0
  refine z_aload_n (pc := 0) C dX9_restore_0 rfl ?_
  refine z_getI (pc := 1) C zf_X9_42 rfl rfl (by decide) dX9_restore_1 ?_
  refine z_if_ne (pc := 4) 10 C dX9_restore_4 (by decide) (fun h4 => absurd (by decide) h4) (fun h4 => ?_)
  refine z_bipush (pc := 7) (v := -4) C dX9_restore_7 (by decide) ?_
  exact z_iret (pc := 9) C hr dX9_restore_9 (⟨congrArg (fun x => some (zi x)) (by decide), by repeat (first | exact zk0 | refine zKeep.up ?_ (by decide) | refine zKeep.fill ?_ (by decide))⟩)

set_option maxRecDepth 100000 in
set_option maxHeartbeats 4000000 in
theorem p_X6_refuse (d : Nat) (f : zM) (n : Nat) (hnn : n < 4) (h0 : f 23 n 1 = -1) (a1 : Int32) : ZM d yX6_refuse cX6_refuse 2 (some .int) [zr 23 n, zi a1] f (fun r g => r = some (zi (-11)) ∧ g = f) := by
  refine ZM.intro (by decide +kernel) (Nat.le_of_ble_eq_true rfl) ?_
  intro X C hr hn
  show Z X 0 [some (zr 23 n), some (zi a1)] [] f
  refine z_aload_n (pc := 0) C dX6_refuse_0 rfl ?_
  refine z_getI (pc := 1) C zf_X6_15 rfl rfl hnn dX6_refuse_1 ?_
  refine z_iconst (pc := 4) (v := -1) C dX6_refuse_4 (by decide) ?_
  refine z_icmp_ne (pc := 5) 11 C dX6_refuse_5 (by decide) (fun h5 => absurd (by rw [h0]) h5) (fun h5 => ?_)
  refine z_bipush (pc := 8) (v := -11) C dX6_refuse_8 (by decide) ?_
  exact z_iret (pc := 10) C hr dX6_refuse_10 (⟨rfl, rfl⟩)

set_option maxRecDepth 100000 in
set_option maxHeartbeats 4000000 in
theorem p_X9_sheet (d : Nat) (a1 a2 a3 : Int32) : ZM (d + 2) yX9_sheet cX9_sheet 4 (some .int) [zr 0 0, zi a1, zi a2, zi a3] z0 (fun r g => r = some (zi (if (0 ≤ a1.toInt ∧ a1.toInt ≤ 3) ∧ (0 ≤ a2.toInt ∧ a2.toInt ≤ 2) ∧ a3.toInt ≤ 16 then (if a3.toInt < 0 then -14 else a3) else -1)) ∧ zKeep g) := by
  refine ZM.intro (by decide +kernel) (Nat.le_of_ble_eq_true rfl) ?_
  intro X C hr hn
  show Z X 0 [some (zr 0 0), some (zi a1), some (zi a2), some (zi a3)] [] z0
  refine z_iload_n (pc := 0) C dX9_sheet_0 rfl ?_
  refine z_callSb (pc := 1) C zk_X9_195 (m_X9_isSheet _ _ _) rfl rfl (Nat.le_of_ble_eq_true rfl) dX9_sheet_1 (fun h1 => ?_) (fun h1 => ?_)
  · skip
    refine z_if_eq (pc := 4) 20 C dX9_sheet_4 (by decide) (fun h4 => absurd h4 (by decide)) (fun h4 => ?_)
    refine z_iload_n (pc := 7) C dX9_sheet_7 rfl ?_
    refine z_callSb (pc := 8) C zk_X9_198 (m_X9_isLane _ _ _) rfl rfl (Nat.le_of_ble_eq_true rfl) dX9_sheet_8 (fun h8 => ?_) (fun h8 => ?_)
    · skip
      refine z_if_eq (pc := 11) 20 C dX9_sheet_11 (by decide) (fun h11 => absurd h11 (by decide)) (fun h11 => ?_)
      refine z_iload_n (pc := 14) C dX9_sheet_14 rfl ?_
      refine z_bipush (pc := 15) (v := 16) C dX9_sheet_15 (by decide) ?_
      refine z_icmp_le (pc := 17) 22 C dX9_sheet_17 (by decide) (fun h17 => ?_) (fun h17 => ?_)
      · skip
        refine z_iload_n (pc := 22) C dX9_sheet_22 rfl ?_
        refine z_if_ge (pc := 23) 29 C dX9_sheet_23 (by decide) (fun h23 => ?_) (fun h23 => ?_)
        · skip
          refine z_aload_n (pc := 29) C dX9_sheet_29 rfl ?_
          refine z_getR (pc := 30) C zf_X9_37 rfl rfl (by decide) dX9_sheet_30 ?_
          refine z_iload_n (pc := 33) C dX9_sheet_33 rfl ?_
          refine z_aald (pc := 34) C rfl ⟨rfl, by decide⟩ (by decide) (zidx (n := 4) h1.1 (by have := h1.2; omega)).1 dX9_sheet_34 ?_
          refine z_iload_n (pc := 35) C dX9_sheet_35 rfl ?_
          refine z_iload_n (pc := 36) C dX9_sheet_36 rfl ?_
          refine z_callVx (pc := 37) C zk_X9_332 (m_X6_begin _ _ _ (zidx (n := 4) h1.1 (by have := h1.2; omega)).2 _ _) rfl rfl (zidx (n := 4) h1.1 (by have := h1.2; omega)).2 rfl rfl (Nat.le_of_ble_eq_true rfl) dX9_sheet_37 ?_
          simp only [Option.toList, List.cons_append, List.nil_append]
          refine z_iload_n (pc := 40) C dX9_sheet_40 rfl ?_
          exact z_iret (pc := 41) C hr dX9_sheet_41 (⟨by congr 2; rw [if_pos (by simp only [z32lt, z32le, z32eq, Int32.reduceToInt, Int32.toInt_zero, Int32.toInt_one] at *; omega), if_neg (by simp only [z32lt, z32le, z32eq, Int32.reduceToInt, Int32.toInt_zero, Int32.toInt_one] at *; omega)], by repeat (first | exact zk0 | refine zKeep.up ?_ (by decide) | refine zKeep.fill ?_ (by decide))⟩)
        · skip
          refine z_bipush (pc := 26) (v := -14) C dX9_sheet_26 (by decide) ?_
          exact z_iret (pc := 28) C hr dX9_sheet_28 (⟨by congr 2; rw [if_pos (by simp only [z32lt, z32le, z32eq, Int32.reduceToInt, Int32.toInt_zero, Int32.toInt_one] at *; omega), if_pos (by simp only [z32lt, z32le, z32eq, Int32.reduceToInt, Int32.toInt_zero, Int32.toInt_one] at *; omega)], by repeat (first | exact zk0 | refine zKeep.up ?_ (by decide) | refine zKeep.fill ?_ (by decide))⟩)
      · skip
        refine z_iconst (pc := 20) (v := -1) C dX9_sheet_20 (by decide) ?_
        exact z_iret (pc := 21) C hr dX9_sheet_21 (⟨by congr 2; first | (rw [if_neg (by simp only [z32lt, z32le, z32eq, Int32.reduceToInt, Int32.toInt_zero, Int32.toInt_one] at *; omega)]; done) | (rw [if_pos (by simp only [z32lt, z32le, z32eq, Int32.reduceToInt, Int32.toInt_zero, Int32.toInt_one] at *; omega)] <;> simp [zup, z0, zfill]), by repeat (first | exact zk0 | refine zKeep.up ?_ (by decide) | refine zKeep.fill ?_ (by decide))⟩)
    · skip
      refine z_if_eq (pc := 11) 20 C dX9_sheet_11 (by decide) (fun h11 => ?_) (fun h11 => absurd (by decide) h11)
      refine z_iconst (pc := 20) (v := -1) C dX9_sheet_20 (by decide) ?_
      exact z_iret (pc := 21) C hr dX9_sheet_21 (⟨by congr 2; first | (rw [if_neg (by simp only [z32lt, z32le, z32eq, Int32.reduceToInt, Int32.toInt_zero, Int32.toInt_one] at *; omega)]; done) | (rw [if_pos (by simp only [z32lt, z32le, z32eq, Int32.reduceToInt, Int32.toInt_zero, Int32.toInt_one] at *; omega)] <;> simp [zup, z0, zfill]), by repeat (first | exact zk0 | refine zKeep.up ?_ (by decide) | refine zKeep.fill ?_ (by decide))⟩)
  · skip
    refine z_if_eq (pc := 4) 20 C dX9_sheet_4 (by decide) (fun h4 => ?_) (fun h4 => absurd (by decide) h4)
    refine z_iconst (pc := 20) (v := -1) C dX9_sheet_20 (by decide) ?_
    exact z_iret (pc := 21) C hr dX9_sheet_21 (⟨by congr 2; first | (rw [if_neg (by simp only [z32lt, z32le, z32eq, Int32.reduceToInt, Int32.toInt_zero, Int32.toInt_one] at *; omega)]; done) | (rw [if_pos (by simp only [z32lt, z32le, z32eq, Int32.reduceToInt, Int32.toInt_zero, Int32.toInt_one] at *; omega)] <;> simp [zup, z0, zfill]), by repeat (first | exact zk0 | refine zKeep.up ?_ (by decide) | refine zKeep.fill ?_ (by decide))⟩)

set_option maxRecDepth 100000 in
set_option maxHeartbeats 4000000 in
theorem p_X9_drop (d : Nat) (a1 : Int32) : ZM (d + 1) yX9_drop cX9_drop 3 (some .int) [zr 0 0, zi a1] z0 (fun r g => r = some (zi (if 0 ≤ a1.toInt ∧ a1.toInt ≤ 3 then -11 else -1)) ∧ zKeep g) := by
  refine ZM.intro (by decide +kernel) (Nat.le_of_ble_eq_true rfl) ?_
  intro X C hr hn
  show Z X 0 [some (zr 0 0), some (zi a1), none] [] z0
  refine z_iload_n (pc := 0) C dX9_drop_0 rfl ?_
  refine z_callSb (pc := 1) C zk_X9_195 (m_X9_isSheet _ _ _) rfl rfl (Nat.le_of_ble_eq_true rfl) dX9_drop_1 (fun h1 => ?_) (fun h1 => ?_)
  · skip
    refine z_if_ne (pc := 4) 9 C dX9_drop_4 (by decide) (fun h4 => ?_) (fun h4 => absurd h4 (by decide))
    refine z_aload_n (pc := 9) C dX9_drop_9 rfl ?_
    refine z_getR (pc := 10) C zf_X9_37 rfl rfl (by decide) dX9_drop_10 ?_
    refine z_iload_n (pc := 13) C dX9_drop_13 rfl ?_
    refine z_aald (pc := 14) C rfl ⟨rfl, by decide⟩ (by decide) (zidx (n := 4) h1.1 (by have := h1.2; omega)).1 dX9_drop_14 ?_
    refine z_astore_n (pc := 15) C dX9_drop_15 (by rw [hn]; decide) rfl ?_
    refine z_aload_n (pc := 16) C dX9_drop_16 rfl ?_
    refine z_getI (pc := 17) C zf_X9_336 rfl rfl (zidx (n := 4) h1.1 (by have := h1.2; omega)).2 dX9_drop_17 ?_
    refine z_iconst (pc := 20) (v := -1) C dX9_drop_20 (by decide) ?_
    refine z_icmp_ne (pc := 21) 27 C dX9_drop_21 (by decide) (fun h21 => absurd rfl h21) (fun h21 => ?_)
    refine z_bipush (pc := 24) (v := -11) C dX9_drop_24 (by decide) ?_
    exact z_iret (pc := 26) C hr dX9_drop_26 (⟨by congr 2; first | (rw [if_neg (by simp only [z32lt, z32le, z32eq, Int32.reduceToInt, Int32.toInt_zero, Int32.toInt_one] at *; omega)]; done) | (rw [if_pos (by simp only [z32lt, z32le, z32eq, Int32.reduceToInt, Int32.toInt_zero, Int32.toInt_one] at *; omega)] <;> simp [zup, z0, zfill]), by repeat (first | exact zk0 | refine zKeep.up ?_ (by decide) | refine zKeep.fill ?_ (by decide))⟩)
  · skip
    refine z_if_ne (pc := 4) 9 C dX9_drop_4 (by decide) (fun h4 => absurd (by decide) h4) (fun h4 => ?_)
    refine z_iconst (pc := 7) (v := -1) C dX9_drop_7 (by decide) ?_
    exact z_iret (pc := 8) C hr dX9_drop_8 (⟨by congr 2; first | (rw [if_neg (by simp only [z32lt, z32le, z32eq, Int32.reduceToInt, Int32.toInt_zero, Int32.toInt_one] at *; omega)]; done) | (rw [if_pos (by simp only [z32lt, z32le, z32eq, Int32.reduceToInt, Int32.toInt_zero, Int32.toInt_one] at *; omega)] <;> simp [zup, z0, zfill]), by repeat (first | exact zk0 | refine zKeep.up ?_ (by decide) | refine zKeep.fill ?_ (by decide))⟩)

set_option maxRecDepth 100000 in
set_option maxHeartbeats 4000000 in
theorem p_X9_item (d : Nat) (a1 a2 a3 a4 : Int32) : ZM (d + 1) yX9_item cX9_item 7 (some .int) [zr 0 0, zi a1, zi a2, zi a3, zi a4] z0 (fun r g => r = some (zi (if (0 ≤ a1.toInt ∧ a1.toInt ≤ 3) ∧ (0 ≤ a2.toInt ∧ a2.toInt ≤ 2) then -11 else -1)) ∧ zKeep g) := by
  refine ZM.intro (by decide +kernel) (Nat.le_of_ble_eq_true rfl) ?_
  intro X C hr hn
  show Z X 0 [some (zr 0 0), some (zi a1), some (zi a2), some (zi a3), some (zi a4), none, none] [] z0
  refine z_iload_n (pc := 0) C dX9_item_0 rfl ?_
  refine z_callSb (pc := 1) C zk_X9_195 (m_X9_isSheet _ _ _) rfl rfl (Nat.le_of_ble_eq_true rfl) dX9_item_1 (fun h1 => ?_) (fun h1 => ?_)
  · skip
    refine z_if_eq (pc := 4) 14 C dX9_item_4 (by decide) (fun h4 => absurd h4 (by decide)) (fun h4 => ?_)
    refine z_iload_n (pc := 7) C dX9_item_7 rfl ?_
    refine z_callSb (pc := 8) C zk_X9_198 (m_X9_isLane _ _ _) rfl rfl (Nat.le_of_ble_eq_true rfl) dX9_item_8 (fun h8 => ?_) (fun h8 => ?_)
    · skip
      refine z_if_ne (pc := 11) 16 C dX9_item_11 (by decide) (fun h11 => ?_) (fun h11 => absurd h11 (by decide))
      refine z_aload_n (pc := 16) C dX9_item_16 rfl ?_
      refine z_getR (pc := 17) C zf_X9_37 rfl rfl (by decide) dX9_item_17 ?_
      refine z_iload_n (pc := 20) C dX9_item_20 rfl ?_
      refine z_aald (pc := 21) C rfl ⟨rfl, by decide⟩ (by decide) (zidx (n := 4) h1.1 (by have := h1.2; omega)).1 dX9_item_21 ?_
      refine z_astore (pc := 22) C dX9_item_22 (by rw [hn]; decide) rfl ?_
      refine z_aload (pc := 24) C dX9_item_24 rfl ?_
      refine z_iload_n (pc := 26) C dX9_item_26 rfl ?_
      refine z_callVx (pc := 27) C zk_X9_201 (p_X6_refuse _ _ _ (zidx (n := 4) h1.1 (by have := h1.2; omega)).2 rfl _) rfl rfl (zidx (n := 4) h1.1 (by have := h1.2; omega)).2 rfl rfl (Nat.le_of_ble_eq_true rfl) dX9_item_27 ?_
      simp only [Option.toList, List.cons_append, List.nil_append]
      refine z_istore (pc := 30) C dX9_item_30 (by rw [hn]; decide) rfl ?_
      refine z_iload (pc := 32) C dX9_item_32 rfl ?_
      refine z_if_eq (pc := 34) 40 C dX9_item_34 (by decide) (fun h34 => absurd h34 (by decide)) (fun h34 => ?_)
      refine z_iload (pc := 37) C dX9_item_37 rfl ?_
      exact z_iret (pc := 39) C hr dX9_item_39 (⟨by congr 2; first | (rw [if_neg (by simp only [z32lt, z32le, z32eq, Int32.reduceToInt, Int32.toInt_zero, Int32.toInt_one] at *; omega)]; done) | (rw [if_pos (by simp only [z32lt, z32le, z32eq, Int32.reduceToInt, Int32.toInt_zero, Int32.toInt_one] at *; omega)] <;> simp [zup, z0, zfill]), by repeat (first | exact zk0 | refine zKeep.up ?_ (by decide) | refine zKeep.fill ?_ (by decide))⟩)
    · skip
      refine z_if_ne (pc := 11) 16 C dX9_item_11 (by decide) (fun h11 => absurd (by decide) h11) (fun h11 => ?_)
      refine z_iconst (pc := 14) (v := -1) C dX9_item_14 (by decide) ?_
      exact z_iret (pc := 15) C hr dX9_item_15 (⟨by congr 2; first | (rw [if_neg (by simp only [z32lt, z32le, z32eq, Int32.reduceToInt, Int32.toInt_zero, Int32.toInt_one] at *; omega)]; done) | (rw [if_pos (by simp only [z32lt, z32le, z32eq, Int32.reduceToInt, Int32.toInt_zero, Int32.toInt_one] at *; omega)] <;> simp [zup, z0, zfill]), by repeat (first | exact zk0 | refine zKeep.up ?_ (by decide) | refine zKeep.fill ?_ (by decide))⟩)
  · skip
    refine z_if_eq (pc := 4) 14 C dX9_item_4 (by decide) (fun h4 => ?_) (fun h4 => absurd (by decide) h4)
    refine z_iconst (pc := 14) (v := -1) C dX9_item_14 (by decide) ?_
    exact z_iret (pc := 15) C hr dX9_item_15 (⟨by congr 2; first | (rw [if_neg (by simp only [z32lt, z32le, z32eq, Int32.reduceToInt, Int32.toInt_zero, Int32.toInt_one] at *; omega)]; done) | (rw [if_pos (by simp only [z32lt, z32le, z32eq, Int32.reduceToInt, Int32.toInt_zero, Int32.toInt_one] at *; omega)] <;> simp [zup, z0, zfill]), by repeat (first | exact zk0 | refine zKeep.up ?_ (by decide) | refine zKeep.fill ?_ (by decide))⟩)

set_option maxRecDepth 100000 in
set_option maxHeartbeats 4000000 in
theorem p_X8_weighAll (d : Nat) (f : zM) (h0 : f 1 0 7 = 0) : ZM d yX8_weighAll cX8_weighAll 2 none [zr 1 0] f (fun r g => r = none ∧ g = f) := by
  refine ZM.intro (by decide +kernel) (Nat.le_of_ble_eq_true rfl) ?_
  intro X C hr hn
  show Z X 0 [some (zr 1 0), none] [] f
  refine z_iconst (pc := 0) (v := 0) C dX8_weighAll_0 (by decide) ?_
  refine z_istore_n (pc := 1) C dX8_weighAll_1 (by rw [hn]; decide) rfl ?_
  refine z_iload_n (pc := 2) C dX8_weighAll_2 rfl ?_
  refine z_aload_n (pc := 3) C dX8_weighAll_3 rfl ?_
  refine z_getI (pc := 4) C zf_X8_64 rfl rfl (by decide) dX8_weighAll_4 ?_
  refine z_icmp_ge (pc := 7) 26 C dX8_weighAll_7 (by decide) (fun h7 => ?_) (fun h7 => absurd (by rw [h0]; decide) h7)
  exact z_vret (pc := 26) C hr dX8_weighAll_26 (⟨by simp, rfl⟩)

set_option maxRecDepth 100000 in
set_option maxHeartbeats 4000000 in
theorem p_X8_weighDemands (d : Nat) (f : zM) (h0 : f 1 0 8 = 0) : ZM d yX8_weighDemands cX8_weighDemands 4 none [zr 1 0] f (fun r g => r = none ∧ g = f) := by
  refine ZM.intro (by decide +kernel) (Nat.le_of_ble_eq_true rfl) ?_
  intro X C hr hn
  show Z X 0 [some (zr 1 0), none, none, none] [] f
  refine z_iconst (pc := 0) (v := 0) C dX8_weighDemands_0 (by decide) ?_
  refine z_istore_n (pc := 1) C dX8_weighDemands_1 (by rw [hn]; decide) rfl ?_
  refine z_iload_n (pc := 2) C dX8_weighDemands_2 rfl ?_
  refine z_aload_n (pc := 3) C dX8_weighDemands_3 rfl ?_
  refine z_getI (pc := 4) C zf_X8_70 rfl rfl (by decide) dX8_weighDemands_4 ?_
  refine z_icmp_ge (pc := 7) 134 C dX8_weighDemands_7 (by decide) (fun h7 => ?_) (fun h7 => absurd (by rw [h0]; decide) h7)
  exact z_vret (pc := 134) C hr dX8_weighDemands_134 (⟨by simp, rfl⟩)

set_option maxRecDepth 100000 in
set_option maxHeartbeats 4000000 in
theorem p_X9_ahead (d : Nat) (a1 : Int32) : ZM (d + 1) yX9_ahead cX9_ahead 3 (some .int) [zr 0 0, zi a1] z0 (fun r g => r = some (zi (if 0 ≤ a1.toInt then -4 else -1)) ∧ zKeep g) := by
  refine ZM.intro (by decide +kernel) (Nat.le_of_ble_eq_true rfl) ?_
  intro X C hr hn
  show Z X 0 [some (zr 0 0), some (zi a1), none] [] z0
  refine z_iload_n (pc := 0) C dX9_ahead_0 rfl ?_
  refine z_if_ge (pc := 1) 6 C dX9_ahead_1 (by decide) (fun h1 => ?_) (fun h1 => ?_)
  · skip
    refine z_aload_n (pc := 6) C dX9_ahead_6 rfl ?_
    refine z_getR (pc := 7) C zf_X9_10 rfl rfl (by decide) dX9_ahead_7 ?_
    refine z_callVx (pc := 10) C zk_X9_280 (p_X8_weighAll _ _ rfl) rfl rfl (by decide) rfl rfl (Nat.le_of_ble_eq_true rfl) dX9_ahead_10 ?_
    simp only [Option.toList, List.cons_append, List.nil_append]
    refine z_aload_n (pc := 13) C dX9_ahead_13 rfl ?_
    refine z_getR (pc := 14) C zf_X9_10 rfl rfl (by decide) dX9_ahead_14 ?_
    refine z_callVx (pc := 17) C zk_X9_308 (p_X8_weighDemands _ _ rfl) rfl rfl (by decide) rfl rfl (Nat.le_of_ble_eq_true rfl) dX9_ahead_17 ?_
    simp only [Option.toList, List.cons_append, List.nil_append]
    refine z_iconst (pc := 20) (v := 0) C dX9_ahead_20 (by decide) ?_
    refine z_istore_n (pc := 21) C dX9_ahead_21 (by rw [hn]; decide) rfl ?_
    refine z_iload_n (pc := 22) C dX9_ahead_22 rfl ?_
    refine z_aload_n (pc := 23) C dX9_ahead_23 rfl ?_
    refine z_getR (pc := 24) C zf_X9_10 rfl rfl (by decide) dX9_ahead_24 ?_
    refine z_getI (pc := 27) C zf_X9_217 rfl rfl (by decide) dX9_ahead_27 ?_
    refine z_icmp_ge (pc := 30) 68 C dX9_ahead_30 (by decide) (fun h30 => ?_) (fun h30 => absurd (by decide) h30)
    refine z_bipush (pc := 68) (v := -4) C dX9_ahead_68 (by decide) ?_
    exact z_iret (pc := 70) C hr dX9_ahead_70 (⟨by congr 2; first | (rw [if_neg (by simp only [z32lt, z32le, z32eq, Int32.reduceToInt, Int32.toInt_zero, Int32.toInt_one] at *; omega)]; done) | (rw [if_pos (by simp only [z32lt, z32le, z32eq, Int32.reduceToInt, Int32.toInt_zero, Int32.toInt_one] at *; omega)] <;> simp [zup, z0, zfill]), by repeat (first | exact zk0 | refine zKeep.up ?_ (by decide) | refine zKeep.fill ?_ (by decide))⟩)
  · skip
    refine z_iconst (pc := 4) (v := -1) C dX9_ahead_4 (by decide) ?_
    exact z_iret (pc := 5) C hr dX9_ahead_5 (⟨by congr 2; first | (rw [if_neg (by simp only [z32lt, z32le, z32eq, Int32.reduceToInt, Int32.toInt_zero, Int32.toInt_one] at *; omega)]; done) | (rw [if_pos (by simp only [z32lt, z32le, z32eq, Int32.reduceToInt, Int32.toInt_zero, Int32.toInt_one] at *; omega)] <;> simp [zup, z0, zfill]), by repeat (first | exact zk0 | refine zKeep.up ?_ (by decide) | refine zKeep.fill ?_ (by decide))⟩)

set_option maxRecDepth 100000 in
set_option maxHeartbeats 4000000 in
theorem p_X9_demand (d : Nat) (a1 a2 a3 : Int32) : ZM (d + 1) yX9_demand cX9_demand 4 (some .int) [zr 0 0, zi a1, zi a2, zi a3] z0 (fun r g => r = some (zi (-1)) ∧ zKeep g) := by
  refine ZM.intro (by decide +kernel) (Nat.le_of_ble_eq_true rfl) ?_
  intro X C hr hn
  show Z X 0 [some (zr 0 0), some (zi a1), some (zi a2), some (zi a3)] [] z0
  refine z_iload_n (pc := 0) C dX9_demand_0 rfl ?_
  refine z_callSb (pc := 1) C zk_X9_46 (m_X9_isLand _ _ _) rfl rfl (Nat.le_of_ble_eq_true rfl) dX9_demand_1 (fun h1 => ?_) (fun h1 => ?_)
  · skip
    refine z_if_eq (pc := 4) 32 C dX9_demand_4 (by decide) (fun h4 => absurd h4 (by decide)) (fun h4 => ?_)
    refine z_iload_n (pc := 7) C dX9_demand_7 rfl ?_
    refine z_if_eq (pc := 8) 32 C dX9_demand_8 (by decide) (fun h8 => ?_) (fun h8 => ?_)
    · skip
      refine z_iconst (pc := 32) (v := -1) C dX9_demand_32 (by decide) ?_
      exact z_iret (pc := 33) C hr dX9_demand_33 (⟨by simp [zup, z0, zfill], by repeat (first | exact zk0 | refine zKeep.up ?_ (by decide) | refine zKeep.fill ?_ (by decide))⟩)
    · skip
      refine z_iload_n (pc := 11) C dX9_demand_11 rfl ?_
      refine z_aload_n (pc := 12) C dX9_demand_12 rfl ?_
      refine z_getR (pc := 13) C zf_X9_10 rfl rfl (by decide) dX9_demand_13 ?_
      refine z_callVx (pc := 16) C zk_X9_252 (m_X8_allDeeds _ _ 0 (by decide)) rfl rfl (by decide) rfl rfl (Nat.le_of_ble_eq_true rfl) dX9_demand_16 ?_
      simp only [Option.toList, List.cons_append, List.nil_append]
      refine z_iconst (pc := 19) (v := -1) C dX9_demand_19 (by decide) ?_
      refine z_ixor (pc := 20) C dX9_demand_20 ?_
      refine z_iand (pc := 21) C dX9_demand_21 ?_
      refine z_if_ne (pc := 22) 32 C dX9_demand_22 (by decide) (fun h22 => ?_) (fun h22 => absurd h22 (by rw [show ((1 <<< (z0 1 0 6 &&& 31)) - 1 : Int32) = 0 from by decide]; simpa using h8))
      refine z_iconst (pc := 32) (v := -1) C dX9_demand_32 (by decide) ?_
      exact z_iret (pc := 33) C hr dX9_demand_33 (⟨by simp [zup, z0, zfill], by repeat (first | exact zk0 | refine zKeep.up ?_ (by decide) | refine zKeep.fill ?_ (by decide))⟩)
  · skip
    refine z_if_eq (pc := 4) 32 C dX9_demand_4 (by decide) (fun h4 => ?_) (fun h4 => absurd (by decide) h4)
    refine z_iconst (pc := 32) (v := -1) C dX9_demand_32 (by decide) ?_
    exact z_iret (pc := 33) C hr dX9_demand_33 (⟨by simp [zup, z0, zfill], by repeat (first | exact zk0 | refine zKeep.up ?_ (by decide) | refine zKeep.fill ?_ (by decide))⟩)

set_option maxRecDepth 100000 in
set_option maxHeartbeats 4000000 in
theorem m_X5_begin (d : Nat) (f : zM) : ZM d yX5_begin cX5_begin 1 none [zr 13 0] f (fun r g => r = none ∧ g = zup (zup f 13 0 7 (f 13 0 7 + 1)) 13 0 6 1) := by
  refine ZM.intro (by decide +kernel) (Nat.le_of_ble_eq_true rfl) ?_
  intro X C hr hn
  show Z X 0 [some (zr 13 0)] [] f
  refine z_aload_n (pc := 0) C dX5_begin_0 rfl ?_
  first | refine z_dupr (pc := 1) C dX5_begin_1 ?_ | refine z_dupi (pc := 1) C dX5_begin_1 ?_
  refine z_getI (pc := 2) C zf_X5_58 rfl rfl (by decide) dX5_begin_2 ?_
  refine z_iconst (pc := 5) (v := 1) C dX5_begin_5 (by decide) ?_
  refine z_iadd (pc := 6) C dX5_begin_6 ?_
  refine z_putI (pc := 7) C zf_X5_58 zp_5_7 rfl rfl (by decide) dX5_begin_7 ?_
  refine z_aload_n (pc := 10) C dX5_begin_10 rfl ?_
  refine z_iconst (pc := 11) (v := 1) C dX5_begin_11 (by decide) ?_
  refine z_putI (pc := 12) C zf_X5_38 zp_5_6 rfl rfl (by decide) dX5_begin_12 ?_
  exact z_vret (pc := 15) C hr dX5_begin_15 (⟨by simp, rfl⟩)

set_option maxRecDepth 100000 in
set_option maxHeartbeats 4000000 in
theorem p_X5_placeWalker (d : Nat) (f : zM) (hb : f 6 0 4 = 0 ∨ f 6 0 4 = 1) : ZM (d + 1) yX5_placeWalker cX5_placeWalker 2 none [zr 13 0, zi 0] f (fun r g => r = none ∧ g = (zcp (zcp (zcp (zcp f 6 2 0 1) 6 2 0 4) 6 2 0 5) 6 2 0 6)) := by
  refine ZM.intro (by decide +kernel) (Nat.le_of_ble_eq_true rfl) ?_
  intro X C hr hn
  show Z X 0 [some (zr 13 0), some (zi 0)] [] f
  refine z_iload_n (pc := 0) C dX5_placeWalker_0 rfl ?_
  refine z_if_ne (pc := 1) 21 C dX5_placeWalker_1 (by decide) (fun h1 => absurd (by decide) h1) (fun h1 => ?_)
  refine z_aload_n (pc := 4) C dX5_placeWalker_4 rfl ?_
  refine z_getR (pc := 5) C zf_X5_12 rfl rfl (by decide) dX5_placeWalker_5 ?_
  refine z_aload_n (pc := 8) C dX5_placeWalker_8 rfl ?_
  refine z_getR (pc := 9) C zf_X5_31 rfl rfl (by decide) dX5_placeWalker_9 ?_
  refine z_getR (pc := 12) C zf_X5_61 rfl rfl (by decide) dX5_placeWalker_12 ?_
  refine z_callVx (pc := 15) C zk_X5_64 (m_X3_stand _ _ 2 0 (by decide) (by decide) hb) rfl rfl (by decide) rfl rfl (Nat.le_of_ble_eq_true rfl) dX5_placeWalker_15 ?_
  simp only [Option.toList, List.cons_append, List.nil_append]
  refine z_goto (pc := 18) 56 C dX5_placeWalker_18 (by decide) ?_
  exact z_vret (pc := 56) C hr dX5_placeWalker_56 (⟨by simp, rfl⟩)

set_option maxRecDepth 100000 in
set_option maxHeartbeats 4000000 in
theorem p_X5_spread (d : Nat) (f : zM) (h0 : f 1 0 7 = 0) (v : Int32) : ZM d yX5_spread cX5_spread 5 none [zr 13 0, zi v] f (fun r g => r = none ∧ g = f) := by
  refine ZM.intro (by decide +kernel) (Nat.le_of_ble_eq_true rfl) ?_
  intro X C hr hn
  show Z X 0 [some (zr 13 0), some (zi v), none, none, none] [] f
  refine z_iconst (pc := 0) (v := 0) C dX5_spread_0 (by decide) ?_
  refine z_istore_n (pc := 1) C dX5_spread_1 (by rw [hn]; decide) rfl ?_
  refine z_iload_n (pc := 2) C dX5_spread_2 rfl ?_
  refine z_aload_n (pc := 3) C dX5_spread_3 rfl ?_
  refine z_getR (pc := 4) C zf_X5_31 rfl rfl (by decide) dX5_spread_4 ?_
  refine z_getI (pc := 7) C zf_X5_76 rfl rfl (by decide) dX5_spread_7 ?_
  refine z_icmp_ge (pc := 10) 139 C dX5_spread_10 (by decide) (fun h10 => ?_) (fun h10 => absurd (by rw [h0]; decide) h10)
  exact z_vret (pc := 139) C hr dX5_spread_139 (⟨by simp, rfl⟩)

set_option maxRecDepth 100000 in
set_option maxHeartbeats 4000000 in
theorem p_X5_reach (d : Nat)  : ZM (d + 2) yX5_reach cX5_reach 3 (some .int) [zr 13 0] z0 (fun r g => r = some (zi 1) ∧ zKeep g) := by
  refine ZM.intro (by decide +kernel) (Nat.le_of_ble_eq_true rfl) ?_
  intro X C hr hn
  show Z X 0 [some (zr 13 0), none, none] [] z0
  refine z_iconst (pc := 0) (v := 0) C dX5_reach_0 (by decide) ?_
  refine z_istore_n (pc := 1) C dX5_reach_1 (by rw [hn]; decide) rfl ?_
  refine z_aload_n (pc := 2) C dX5_reach_2 rfl ?_
  refine z_callVx (pc := 3) C zk_X5_35 (m_X5_begin _ _) rfl rfl (by decide) rfl rfl (Nat.le_of_ble_eq_true rfl) dX5_reach_3 ?_
  simp only [Option.toList, List.cons_append, List.nil_append]
  refine z_iconst (pc := 6) (v := 0) C dX5_reach_6 (by decide) ?_
  refine z_istore_n (pc := 7) C dX5_reach_7 (by rw [hn]; decide) rfl ?_
  refine z_iload_n (pc := 8) C dX5_reach_8 rfl ?_
  refine z_aload_n (pc := 9) C dX5_reach_9 rfl ?_
  refine z_getR (pc := 10) C zf_X5_22 rfl rfl (by decide) dX5_reach_10 ?_
  refine z_alenI (pc := 13) C rfl (by decide) rfl dX5_reach_13 ?_
  refine z_icmp_ge (pc := 14) 53 C dX5_reach_14 (by decide) (fun h14 => absurd h14 (by decide)) (fun h14 => ?_)
  refine z_iload_n (pc := 17) C dX5_reach_17 rfl ?_
  refine z_aload_n (pc := 18) C dX5_reach_18 rfl ?_
  refine z_getI (pc := 19) C zf_X5_38 rfl rfl (by decide) dX5_reach_19 ?_
  refine z_icmp_ge (pc := 22) 53 C dX5_reach_22 (by decide) (fun h22 => absurd h22 (by decide)) (fun h22 => ?_)
  refine z_aload_n (pc := 25) C dX5_reach_25 rfl ?_
  refine z_iload_n (pc := 26) C dX5_reach_26 rfl ?_
  refine z_callVx (pc := 27) C zk_X5_42 (p_X5_placeWalker _ _ (Or.inl (by decide))) rfl rfl (by decide) rfl rfl (Nat.le_of_ble_eq_true rfl) dX5_reach_27 ?_
  simp only [Option.toList, List.cons_append, List.nil_append]
  refine z_iload_n (pc := 30) C dX5_reach_30 rfl ?_
  refine z_iconst (pc := 31) (v := 1) C dX5_reach_31 (by decide) ?_
  refine z_aload_n (pc := 32) C dX5_reach_32 rfl ?_
  refine z_getR (pc := 33) C zf_X5_12 rfl rfl (by decide) dX5_reach_33 ?_
  refine z_getI (pc := 36) C zf_X5_46 rfl rfl (by decide) dX5_reach_36 ?_
  refine z_ishl (pc := 39) C dX5_reach_39 ?_
  refine z_ior (pc := 40) C dX5_reach_40 ?_
  refine z_istore_n (pc := 41) C dX5_reach_41 (by rw [hn]; decide) rfl ?_
  refine z_aload_n (pc := 42) C dX5_reach_42 rfl ?_
  refine z_iload_n (pc := 43) C dX5_reach_43 rfl ?_
  refine z_callVx (pc := 44) C zk_X5_55 (p_X5_spread _ _ rfl _) rfl rfl (by decide) rfl rfl (Nat.le_of_ble_eq_true rfl) dX5_reach_44 ?_
  simp only [Option.toList, List.cons_append, List.nil_append]
  refine z_iinc (pc := 47) (v := 1) C dX5_reach_47 rfl (by decide) (by rw [hn]; decide) rfl ?_
  refine z_goto (pc := 50) 8 C dX5_reach_50 (by decide) ?_
  refine z_iload_n (pc := 8) C dX5_reach_8 rfl ?_
  refine z_aload_n (pc := 9) C dX5_reach_9 rfl ?_
  refine z_getR (pc := 10) C zf_X5_22 rfl rfl (by decide) dX5_reach_10 ?_
  refine z_alenI (pc := 13) C rfl (by decide) rfl dX5_reach_13 ?_
  refine z_icmp_ge (pc := 14) 53 C dX5_reach_14 (by decide) (fun h14 => absurd h14 (by decide)) (fun h14 => ?_)
  refine z_iload_n (pc := 17) C dX5_reach_17 rfl ?_
  refine z_aload_n (pc := 18) C dX5_reach_18 rfl ?_
  refine z_getI (pc := 19) C zf_X5_38 rfl rfl (by decide) dX5_reach_19 ?_
  refine z_icmp_ge (pc := 22) 53 C dX5_reach_22 (by decide) (fun h22 => ?_) (fun h22 => absurd (by decide) h22)
  refine z_iload_n (pc := 53) C dX5_reach_53 rfl ?_
  exact z_iret (pc := 54) C hr dX5_reach_54 (⟨congrArg (fun x => some (zi x)) (by decide), by repeat (first | exact zk0 | refine zKeep.up ?_ (by decide) | refine zKeep.fill ?_ (by decide))⟩)

set_option maxRecDepth 100000 in
set_option maxHeartbeats 4000000 in
theorem p_X9_lands (d : Nat)  : ZM (d + 3) yX9_lands cX9_lands 1 (some .int) [zr 0 0] z0 (fun r g => r = some (zi (1)) ∧ zKeep g) := by
  refine ZM.intro (by decide +kernel) (Nat.le_of_ble_eq_true rfl) ?_
  intro X C hr hn
  show Z X 0 [some (zr 0 0)] [] z0
  refine z_aload_n (pc := 0) C dX9_lands_0 rfl ?_
  refine z_getR (pc := 1) C zf_X9_10 rfl rfl (by decide) dX9_lands_1 ?_
  refine z_callVx (pc := 4) C zk_X9_280 (p_X8_weighAll _ _ rfl) rfl rfl (by decide) rfl rfl (Nat.le_of_ble_eq_true rfl) dX9_lands_4 ?_
  simp only [Option.toList, List.cons_append, List.nil_append]
  refine z_aload_n (pc := 7) C dX9_lands_7 rfl ?_
  refine z_getR (pc := 8) C zf_X9_24 rfl rfl (by decide) dX9_lands_8 ?_
  refine z_callV (pc := 11) C zk_X9_293 (p_X5_reach _) rfl rfl (by decide) rfl rfl (Nat.le_of_ble_eq_true rfl) dX9_lands_11 (fun r11 g11 q11 => ?_)
  obtain ⟨rfl, hk11⟩ := q11
  simp only [Option.toList, List.cons_append, List.nil_append]
  exact z_iret (pc := 14) C hr dX9_lands_14 (⟨rfl, hk11⟩)

set_option maxRecDepth 100000 in
set_option maxHeartbeats 4000000 in
theorem p_X5_safeLands0 (d : Nat)  : ZM (d + 1) yX5_safeLands cX5_safeLands 6 (some .int) [zr 13 0, zi 0] z0 (fun r g => r = some (zi 63) ∧ zKeep g) := by
  refine ZM.intro (by decide +kernel) (Nat.le_of_ble_eq_true rfl) ?_
  intro X C hr hn
  show Z X 0 [some (zr 13 0), some (zi 0), none, none, none, none] [] z0
  refine z_iconst (pc := 0) (v := 0) C dX5_safeLands_0 (by decide) ?_
  refine z_istore_n (pc := 1) C dX5_safeLands_1 (by rw [hn]; decide) rfl ?_
  refine z_iconst (pc := 2) (v := 0) C dX5_safeLands_2 (by decide) ?_
  refine z_istore_n (pc := 3) C dX5_safeLands_3 (by rw [hn]; decide) rfl ?_
  refine z_iload_n (pc := 4) C dX5_safeLands_4 rfl ?_
  refine z_bipush (pc := 5) (v := 6) C dX5_safeLands_5 (by decide) ?_
  refine z_icmp_ge (pc := 7) 117 C dX5_safeLands_7 (by decide) (fun h7 => absurd h7 (by decide)) (fun h7 => ?_)
  refine z_aload_n (pc := 10) C dX5_safeLands_10 rfl ?_
  refine z_getR (pc := 11) C zf_X5_12 rfl rfl (by decide) dX5_safeLands_11 ?_
  refine z_iload_n (pc := 14) C dX5_safeLands_14 rfl ?_
  refine z_callVx (pc := 15) C zk_X5_89 (m_X3_sit _ _ _ (by decide) _) rfl rfl (by decide) rfl rfl (Nat.le_of_ble_eq_true rfl) dX5_safeLands_15 ?_
  simp only [Option.toList, List.cons_append, List.nil_append]
  refine z_iload_n (pc := 18) C dX5_safeLands_18 rfl ?_
  refine z_if_eq (pc := 19) 36 C dX5_safeLands_19 (by decide) (fun h19 => ?_) (fun h19 => absurd (by decide) h19)
  refine z_iconst (pc := 36) (v := 1) C dX5_safeLands_36 (by decide) ?_
  refine z_goto (pc := 37) 41 C dX5_safeLands_37 (by decide) ?_
  refine z_istore (pc := 41) C dX5_safeLands_41 (by rw [hn]; decide) rfl ?_
  refine z_iconst (pc := 43) (v := 0) C dX5_safeLands_43 (by decide) ?_
  refine z_istore (pc := 44) C dX5_safeLands_44 (by rw [hn]; decide) rfl ?_
  refine z_iload (pc := 46) C dX5_safeLands_46 rfl ?_
  refine z_aload_n (pc := 48) C dX5_safeLands_48 rfl ?_
  refine z_getR (pc := 49) C zf_X5_31 rfl rfl (by decide) dX5_safeLands_49 ?_
  refine z_getI (pc := 52) C zf_X5_76 rfl rfl (by decide) dX5_safeLands_52 ?_
  refine z_icmp_ge (pc := 55) 96 C dX5_safeLands_55 (by decide) (fun h55 => ?_) (fun h55 => absurd (by decide) h55)
  refine z_iload_n (pc := 96) C dX5_safeLands_96 rfl ?_
  refine z_iload (pc := 97) C dX5_safeLands_97 rfl ?_
  refine z_if_eq (pc := 99) 108 C dX5_safeLands_99 (by decide) (fun h99 => absurd h99 (by decide)) (fun h99 => ?_)
  refine z_iconst (pc := 102) (v := 1) C dX5_safeLands_102 (by decide) ?_
  refine z_iload_n (pc := 103) C dX5_safeLands_103 rfl ?_
  refine z_ishl (pc := 104) C dX5_safeLands_104 ?_
  refine z_goto (pc := 105) 109 C dX5_safeLands_105 (by decide) ?_
  refine z_ior (pc := 109) C dX5_safeLands_109 ?_
  refine z_istore_n (pc := 110) C dX5_safeLands_110 (by rw [hn]; decide) rfl ?_
  refine z_iinc (pc := 111) (v := 1) C dX5_safeLands_111 rfl (by decide) (by rw [hn]; decide) rfl ?_
  refine z_goto (pc := 114) 4 C dX5_safeLands_114 (by decide) ?_
  refine z_iload_n (pc := 4) C dX5_safeLands_4 rfl ?_
  refine z_bipush (pc := 5) (v := 6) C dX5_safeLands_5 (by decide) ?_
  refine z_icmp_ge (pc := 7) 117 C dX5_safeLands_7 (by decide) (fun h7 => absurd h7 (by decide)) (fun h7 => ?_)
  refine z_aload_n (pc := 10) C dX5_safeLands_10 rfl ?_
  refine z_getR (pc := 11) C zf_X5_12 rfl rfl (by decide) dX5_safeLands_11 ?_
  refine z_iload_n (pc := 14) C dX5_safeLands_14 rfl ?_
  refine z_callVx (pc := 15) C zk_X5_89 (m_X3_sit _ _ _ (by decide) _) rfl rfl (by decide) rfl rfl (Nat.le_of_ble_eq_true rfl) dX5_safeLands_15 ?_
  simp only [Option.toList, List.cons_append, List.nil_append]
  refine z_iload_n (pc := 18) C dX5_safeLands_18 rfl ?_
  refine z_if_eq (pc := 19) 36 C dX5_safeLands_19 (by decide) (fun h19 => ?_) (fun h19 => absurd (by decide) h19)
  refine z_iconst (pc := 36) (v := 1) C dX5_safeLands_36 (by decide) ?_
  refine z_goto (pc := 37) 41 C dX5_safeLands_37 (by decide) ?_
  refine z_istore (pc := 41) C dX5_safeLands_41 (by rw [hn]; decide) rfl ?_
  refine z_iconst (pc := 43) (v := 0) C dX5_safeLands_43 (by decide) ?_
  refine z_istore (pc := 44) C dX5_safeLands_44 (by rw [hn]; decide) rfl ?_
  refine z_iload (pc := 46) C dX5_safeLands_46 rfl ?_
  refine z_aload_n (pc := 48) C dX5_safeLands_48 rfl ?_
  refine z_getR (pc := 49) C zf_X5_31 rfl rfl (by decide) dX5_safeLands_49 ?_
  refine z_getI (pc := 52) C zf_X5_76 rfl rfl (by decide) dX5_safeLands_52 ?_
  refine z_icmp_ge (pc := 55) 96 C dX5_safeLands_55 (by decide) (fun h55 => ?_) (fun h55 => absurd (by decide) h55)
  refine z_iload_n (pc := 96) C dX5_safeLands_96 rfl ?_
  refine z_iload (pc := 97) C dX5_safeLands_97 rfl ?_
  refine z_if_eq (pc := 99) 108 C dX5_safeLands_99 (by decide) (fun h99 => absurd h99 (by decide)) (fun h99 => ?_)
  refine z_iconst (pc := 102) (v := 1) C dX5_safeLands_102 (by decide) ?_
  refine z_iload_n (pc := 103) C dX5_safeLands_103 rfl ?_
  refine z_ishl (pc := 104) C dX5_safeLands_104 ?_
  refine z_goto (pc := 105) 109 C dX5_safeLands_105 (by decide) ?_
  refine z_ior (pc := 109) C dX5_safeLands_109 ?_
  refine z_istore_n (pc := 110) C dX5_safeLands_110 (by rw [hn]; decide) rfl ?_
  refine z_iinc (pc := 111) (v := 1) C dX5_safeLands_111 rfl (by decide) (by rw [hn]; decide) rfl ?_
  refine z_goto (pc := 114) 4 C dX5_safeLands_114 (by decide) ?_
  refine z_iload_n (pc := 4) C dX5_safeLands_4 rfl ?_
  refine z_bipush (pc := 5) (v := 6) C dX5_safeLands_5 (by decide) ?_
  refine z_icmp_ge (pc := 7) 117 C dX5_safeLands_7 (by decide) (fun h7 => absurd h7 (by decide)) (fun h7 => ?_)
  refine z_aload_n (pc := 10) C dX5_safeLands_10 rfl ?_
  refine z_getR (pc := 11) C zf_X5_12 rfl rfl (by decide) dX5_safeLands_11 ?_
  refine z_iload_n (pc := 14) C dX5_safeLands_14 rfl ?_
  refine z_callVx (pc := 15) C zk_X5_89 (m_X3_sit _ _ _ (by decide) _) rfl rfl (by decide) rfl rfl (Nat.le_of_ble_eq_true rfl) dX5_safeLands_15 ?_
  simp only [Option.toList, List.cons_append, List.nil_append]
  refine z_iload_n (pc := 18) C dX5_safeLands_18 rfl ?_
  refine z_if_eq (pc := 19) 36 C dX5_safeLands_19 (by decide) (fun h19 => ?_) (fun h19 => absurd (by decide) h19)
  refine z_iconst (pc := 36) (v := 1) C dX5_safeLands_36 (by decide) ?_
  refine z_goto (pc := 37) 41 C dX5_safeLands_37 (by decide) ?_
  refine z_istore (pc := 41) C dX5_safeLands_41 (by rw [hn]; decide) rfl ?_
  refine z_iconst (pc := 43) (v := 0) C dX5_safeLands_43 (by decide) ?_
  refine z_istore (pc := 44) C dX5_safeLands_44 (by rw [hn]; decide) rfl ?_
  refine z_iload (pc := 46) C dX5_safeLands_46 rfl ?_
  refine z_aload_n (pc := 48) C dX5_safeLands_48 rfl ?_
  refine z_getR (pc := 49) C zf_X5_31 rfl rfl (by decide) dX5_safeLands_49 ?_
  refine z_getI (pc := 52) C zf_X5_76 rfl rfl (by decide) dX5_safeLands_52 ?_
  refine z_icmp_ge (pc := 55) 96 C dX5_safeLands_55 (by decide) (fun h55 => ?_) (fun h55 => absurd (by decide) h55)
  refine z_iload_n (pc := 96) C dX5_safeLands_96 rfl ?_
  refine z_iload (pc := 97) C dX5_safeLands_97 rfl ?_
  refine z_if_eq (pc := 99) 108 C dX5_safeLands_99 (by decide) (fun h99 => absurd h99 (by decide)) (fun h99 => ?_)
  refine z_iconst (pc := 102) (v := 1) C dX5_safeLands_102 (by decide) ?_
  refine z_iload_n (pc := 103) C dX5_safeLands_103 rfl ?_
  refine z_ishl (pc := 104) C dX5_safeLands_104 ?_
  refine z_goto (pc := 105) 109 C dX5_safeLands_105 (by decide) ?_
  refine z_ior (pc := 109) C dX5_safeLands_109 ?_
  refine z_istore_n (pc := 110) C dX5_safeLands_110 (by rw [hn]; decide) rfl ?_
  refine z_iinc (pc := 111) (v := 1) C dX5_safeLands_111 rfl (by decide) (by rw [hn]; decide) rfl ?_
  refine z_goto (pc := 114) 4 C dX5_safeLands_114 (by decide) ?_
  refine z_iload_n (pc := 4) C dX5_safeLands_4 rfl ?_
  refine z_bipush (pc := 5) (v := 6) C dX5_safeLands_5 (by decide) ?_
  refine z_icmp_ge (pc := 7) 117 C dX5_safeLands_7 (by decide) (fun h7 => absurd h7 (by decide)) (fun h7 => ?_)
  refine z_aload_n (pc := 10) C dX5_safeLands_10 rfl ?_
  refine z_getR (pc := 11) C zf_X5_12 rfl rfl (by decide) dX5_safeLands_11 ?_
  refine z_iload_n (pc := 14) C dX5_safeLands_14 rfl ?_
  refine z_callVx (pc := 15) C zk_X5_89 (m_X3_sit _ _ _ (by decide) _) rfl rfl (by decide) rfl rfl (Nat.le_of_ble_eq_true rfl) dX5_safeLands_15 ?_
  simp only [Option.toList, List.cons_append, List.nil_append]
  refine z_iload_n (pc := 18) C dX5_safeLands_18 rfl ?_
  refine z_if_eq (pc := 19) 36 C dX5_safeLands_19 (by decide) (fun h19 => ?_) (fun h19 => absurd (by decide) h19)
  refine z_iconst (pc := 36) (v := 1) C dX5_safeLands_36 (by decide) ?_
  refine z_goto (pc := 37) 41 C dX5_safeLands_37 (by decide) ?_
  refine z_istore (pc := 41) C dX5_safeLands_41 (by rw [hn]; decide) rfl ?_
  refine z_iconst (pc := 43) (v := 0) C dX5_safeLands_43 (by decide) ?_
  refine z_istore (pc := 44) C dX5_safeLands_44 (by rw [hn]; decide) rfl ?_
  refine z_iload (pc := 46) C dX5_safeLands_46 rfl ?_
  refine z_aload_n (pc := 48) C dX5_safeLands_48 rfl ?_
  refine z_getR (pc := 49) C zf_X5_31 rfl rfl (by decide) dX5_safeLands_49 ?_
  refine z_getI (pc := 52) C zf_X5_76 rfl rfl (by decide) dX5_safeLands_52 ?_
  refine z_icmp_ge (pc := 55) 96 C dX5_safeLands_55 (by decide) (fun h55 => ?_) (fun h55 => absurd (by decide) h55)
  refine z_iload_n (pc := 96) C dX5_safeLands_96 rfl ?_
  refine z_iload (pc := 97) C dX5_safeLands_97 rfl ?_
  refine z_if_eq (pc := 99) 108 C dX5_safeLands_99 (by decide) (fun h99 => absurd h99 (by decide)) (fun h99 => ?_)
  refine z_iconst (pc := 102) (v := 1) C dX5_safeLands_102 (by decide) ?_
  refine z_iload_n (pc := 103) C dX5_safeLands_103 rfl ?_
  refine z_ishl (pc := 104) C dX5_safeLands_104 ?_
  refine z_goto (pc := 105) 109 C dX5_safeLands_105 (by decide) ?_
  refine z_ior (pc := 109) C dX5_safeLands_109 ?_
  refine z_istore_n (pc := 110) C dX5_safeLands_110 (by rw [hn]; decide) rfl ?_
  refine z_iinc (pc := 111) (v := 1) C dX5_safeLands_111 rfl (by decide) (by rw [hn]; decide) rfl ?_
  refine z_goto (pc := 114) 4 C dX5_safeLands_114 (by decide) ?_
  refine z_iload_n (pc := 4) C dX5_safeLands_4 rfl ?_
  refine z_bipush (pc := 5) (v := 6) C dX5_safeLands_5 (by decide) ?_
  refine z_icmp_ge (pc := 7) 117 C dX5_safeLands_7 (by decide) (fun h7 => absurd h7 (by decide)) (fun h7 => ?_)
  refine z_aload_n (pc := 10) C dX5_safeLands_10 rfl ?_
  refine z_getR (pc := 11) C zf_X5_12 rfl rfl (by decide) dX5_safeLands_11 ?_
  refine z_iload_n (pc := 14) C dX5_safeLands_14 rfl ?_
  refine z_callVx (pc := 15) C zk_X5_89 (m_X3_sit _ _ _ (by decide) _) rfl rfl (by decide) rfl rfl (Nat.le_of_ble_eq_true rfl) dX5_safeLands_15 ?_
  simp only [Option.toList, List.cons_append, List.nil_append]
  refine z_iload_n (pc := 18) C dX5_safeLands_18 rfl ?_
  refine z_if_eq (pc := 19) 36 C dX5_safeLands_19 (by decide) (fun h19 => ?_) (fun h19 => absurd (by decide) h19)
  refine z_iconst (pc := 36) (v := 1) C dX5_safeLands_36 (by decide) ?_
  refine z_goto (pc := 37) 41 C dX5_safeLands_37 (by decide) ?_
  refine z_istore (pc := 41) C dX5_safeLands_41 (by rw [hn]; decide) rfl ?_
  refine z_iconst (pc := 43) (v := 0) C dX5_safeLands_43 (by decide) ?_
  refine z_istore (pc := 44) C dX5_safeLands_44 (by rw [hn]; decide) rfl ?_
  refine z_iload (pc := 46) C dX5_safeLands_46 rfl ?_
  refine z_aload_n (pc := 48) C dX5_safeLands_48 rfl ?_
  refine z_getR (pc := 49) C zf_X5_31 rfl rfl (by decide) dX5_safeLands_49 ?_
  refine z_getI (pc := 52) C zf_X5_76 rfl rfl (by decide) dX5_safeLands_52 ?_
  refine z_icmp_ge (pc := 55) 96 C dX5_safeLands_55 (by decide) (fun h55 => ?_) (fun h55 => absurd (by decide) h55)
  refine z_iload_n (pc := 96) C dX5_safeLands_96 rfl ?_
  refine z_iload (pc := 97) C dX5_safeLands_97 rfl ?_
  refine z_if_eq (pc := 99) 108 C dX5_safeLands_99 (by decide) (fun h99 => absurd h99 (by decide)) (fun h99 => ?_)
  refine z_iconst (pc := 102) (v := 1) C dX5_safeLands_102 (by decide) ?_
  refine z_iload_n (pc := 103) C dX5_safeLands_103 rfl ?_
  refine z_ishl (pc := 104) C dX5_safeLands_104 ?_
  refine z_goto (pc := 105) 109 C dX5_safeLands_105 (by decide) ?_
  refine z_ior (pc := 109) C dX5_safeLands_109 ?_
  refine z_istore_n (pc := 110) C dX5_safeLands_110 (by rw [hn]; decide) rfl ?_
  refine z_iinc (pc := 111) (v := 1) C dX5_safeLands_111 rfl (by decide) (by rw [hn]; decide) rfl ?_
  refine z_goto (pc := 114) 4 C dX5_safeLands_114 (by decide) ?_
  refine z_iload_n (pc := 4) C dX5_safeLands_4 rfl ?_
  refine z_bipush (pc := 5) (v := 6) C dX5_safeLands_5 (by decide) ?_
  refine z_icmp_ge (pc := 7) 117 C dX5_safeLands_7 (by decide) (fun h7 => absurd h7 (by decide)) (fun h7 => ?_)
  refine z_aload_n (pc := 10) C dX5_safeLands_10 rfl ?_
  refine z_getR (pc := 11) C zf_X5_12 rfl rfl (by decide) dX5_safeLands_11 ?_
  refine z_iload_n (pc := 14) C dX5_safeLands_14 rfl ?_
  refine z_callVx (pc := 15) C zk_X5_89 (m_X3_sit _ _ _ (by decide) _) rfl rfl (by decide) rfl rfl (Nat.le_of_ble_eq_true rfl) dX5_safeLands_15 ?_
  simp only [Option.toList, List.cons_append, List.nil_append]
  refine z_iload_n (pc := 18) C dX5_safeLands_18 rfl ?_
  refine z_if_eq (pc := 19) 36 C dX5_safeLands_19 (by decide) (fun h19 => ?_) (fun h19 => absurd (by decide) h19)
  refine z_iconst (pc := 36) (v := 1) C dX5_safeLands_36 (by decide) ?_
  refine z_goto (pc := 37) 41 C dX5_safeLands_37 (by decide) ?_
  refine z_istore (pc := 41) C dX5_safeLands_41 (by rw [hn]; decide) rfl ?_
  refine z_iconst (pc := 43) (v := 0) C dX5_safeLands_43 (by decide) ?_
  refine z_istore (pc := 44) C dX5_safeLands_44 (by rw [hn]; decide) rfl ?_
  refine z_iload (pc := 46) C dX5_safeLands_46 rfl ?_
  refine z_aload_n (pc := 48) C dX5_safeLands_48 rfl ?_
  refine z_getR (pc := 49) C zf_X5_31 rfl rfl (by decide) dX5_safeLands_49 ?_
  refine z_getI (pc := 52) C zf_X5_76 rfl rfl (by decide) dX5_safeLands_52 ?_
  refine z_icmp_ge (pc := 55) 96 C dX5_safeLands_55 (by decide) (fun h55 => ?_) (fun h55 => absurd (by decide) h55)
  refine z_iload_n (pc := 96) C dX5_safeLands_96 rfl ?_
  refine z_iload (pc := 97) C dX5_safeLands_97 rfl ?_
  refine z_if_eq (pc := 99) 108 C dX5_safeLands_99 (by decide) (fun h99 => absurd h99 (by decide)) (fun h99 => ?_)
  refine z_iconst (pc := 102) (v := 1) C dX5_safeLands_102 (by decide) ?_
  refine z_iload_n (pc := 103) C dX5_safeLands_103 rfl ?_
  refine z_ishl (pc := 104) C dX5_safeLands_104 ?_
  refine z_goto (pc := 105) 109 C dX5_safeLands_105 (by decide) ?_
  refine z_ior (pc := 109) C dX5_safeLands_109 ?_
  refine z_istore_n (pc := 110) C dX5_safeLands_110 (by rw [hn]; decide) rfl ?_
  refine z_iinc (pc := 111) (v := 1) C dX5_safeLands_111 rfl (by decide) (by rw [hn]; decide) rfl ?_
  refine z_goto (pc := 114) 4 C dX5_safeLands_114 (by decide) ?_
  refine z_iload_n (pc := 4) C dX5_safeLands_4 rfl ?_
  refine z_bipush (pc := 5) (v := 6) C dX5_safeLands_5 (by decide) ?_
  refine z_icmp_ge (pc := 7) 117 C dX5_safeLands_7 (by decide) (fun h7 => ?_) (fun h7 => absurd (by decide) h7)
  refine z_iload_n (pc := 117) C dX5_safeLands_117 rfl ?_
  exact z_iret (pc := 118) C hr dX5_safeLands_118 (⟨congrArg (fun x => some (zi x)) (by decide), by repeat (first | exact zk0 | refine zKeep.up ?_ (by decide) | refine zKeep.fill ?_ (by decide))⟩)

set_option maxRecDepth 100000 in
set_option maxHeartbeats 4000000 in
theorem p_X5_safeLands1 (d : Nat)  : ZM (d + 1) yX5_safeLands cX5_safeLands 6 (some .int) [zr 13 0, zi 1] z0 (fun r g => r = some (zi 63) ∧ zKeep g) := by
  refine ZM.intro (by decide +kernel) (Nat.le_of_ble_eq_true rfl) ?_
  intro X C hr hn
  show Z X 0 [some (zr 13 0), some (zi 1), none, none, none, none] [] z0
  refine z_iconst (pc := 0) (v := 0) C dX5_safeLands_0 (by decide) ?_
  refine z_istore_n (pc := 1) C dX5_safeLands_1 (by rw [hn]; decide) rfl ?_
  refine z_iconst (pc := 2) (v := 0) C dX5_safeLands_2 (by decide) ?_
  refine z_istore_n (pc := 3) C dX5_safeLands_3 (by rw [hn]; decide) rfl ?_
  refine z_iload_n (pc := 4) C dX5_safeLands_4 rfl ?_
  refine z_bipush (pc := 5) (v := 6) C dX5_safeLands_5 (by decide) ?_
  refine z_icmp_ge (pc := 7) 117 C dX5_safeLands_7 (by decide) (fun h7 => absurd h7 (by decide)) (fun h7 => ?_)
  refine z_aload_n (pc := 10) C dX5_safeLands_10 rfl ?_
  refine z_getR (pc := 11) C zf_X5_12 rfl rfl (by decide) dX5_safeLands_11 ?_
  refine z_iload_n (pc := 14) C dX5_safeLands_14 rfl ?_
  refine z_callVx (pc := 15) C zk_X5_89 (m_X3_sit _ _ _ (by decide) _) rfl rfl (by decide) rfl rfl (Nat.le_of_ble_eq_true rfl) dX5_safeLands_15 ?_
  simp only [Option.toList, List.cons_append, List.nil_append]
  refine z_iload_n (pc := 18) C dX5_safeLands_18 rfl ?_
  refine z_if_eq (pc := 19) 36 C dX5_safeLands_19 (by decide) (fun h19 => absurd h19 (by decide)) (fun h19 => ?_)
  refine z_aload_n (pc := 22) C dX5_safeLands_22 rfl ?_
  refine z_getR (pc := 23) C zf_X5_31 rfl rfl (by decide) dX5_safeLands_23 ?_
  refine z_aload_n (pc := 26) C dX5_safeLands_26 rfl ?_
  refine z_getR (pc := 27) C zf_X5_12 rfl rfl (by decide) dX5_safeLands_27 ?_
  refine z_callVx (pc := 30) C zk_X5_49 (p_X8_triedBy _ _ 2 (by decide) rfl) rfl rfl (by decide) rfl rfl (Nat.le_of_ble_eq_true rfl) dX5_safeLands_30 ?_
  simp only [Option.toList, List.cons_append, List.nil_append]
  refine z_if_ne (pc := 33) 40 C dX5_safeLands_33 (by decide) (fun h33 => absurd (by decide) h33) (fun h33 => ?_)
  refine z_iconst (pc := 36) (v := 1) C dX5_safeLands_36 (by decide) ?_
  refine z_goto (pc := 37) 41 C dX5_safeLands_37 (by decide) ?_
  refine z_istore (pc := 41) C dX5_safeLands_41 (by rw [hn]; decide) rfl ?_
  refine z_iconst (pc := 43) (v := 0) C dX5_safeLands_43 (by decide) ?_
  refine z_istore (pc := 44) C dX5_safeLands_44 (by rw [hn]; decide) rfl ?_
  refine z_iload (pc := 46) C dX5_safeLands_46 rfl ?_
  refine z_aload_n (pc := 48) C dX5_safeLands_48 rfl ?_
  refine z_getR (pc := 49) C zf_X5_31 rfl rfl (by decide) dX5_safeLands_49 ?_
  refine z_getI (pc := 52) C zf_X5_76 rfl rfl (by decide) dX5_safeLands_52 ?_
  refine z_icmp_ge (pc := 55) 96 C dX5_safeLands_55 (by decide) (fun h55 => ?_) (fun h55 => absurd (by decide) h55)
  refine z_iload_n (pc := 96) C dX5_safeLands_96 rfl ?_
  refine z_iload (pc := 97) C dX5_safeLands_97 rfl ?_
  refine z_if_eq (pc := 99) 108 C dX5_safeLands_99 (by decide) (fun h99 => absurd h99 (by decide)) (fun h99 => ?_)
  refine z_iconst (pc := 102) (v := 1) C dX5_safeLands_102 (by decide) ?_
  refine z_iload_n (pc := 103) C dX5_safeLands_103 rfl ?_
  refine z_ishl (pc := 104) C dX5_safeLands_104 ?_
  refine z_goto (pc := 105) 109 C dX5_safeLands_105 (by decide) ?_
  refine z_ior (pc := 109) C dX5_safeLands_109 ?_
  refine z_istore_n (pc := 110) C dX5_safeLands_110 (by rw [hn]; decide) rfl ?_
  refine z_iinc (pc := 111) (v := 1) C dX5_safeLands_111 rfl (by decide) (by rw [hn]; decide) rfl ?_
  refine z_goto (pc := 114) 4 C dX5_safeLands_114 (by decide) ?_
  refine z_iload_n (pc := 4) C dX5_safeLands_4 rfl ?_
  refine z_bipush (pc := 5) (v := 6) C dX5_safeLands_5 (by decide) ?_
  refine z_icmp_ge (pc := 7) 117 C dX5_safeLands_7 (by decide) (fun h7 => absurd h7 (by decide)) (fun h7 => ?_)
  refine z_aload_n (pc := 10) C dX5_safeLands_10 rfl ?_
  refine z_getR (pc := 11) C zf_X5_12 rfl rfl (by decide) dX5_safeLands_11 ?_
  refine z_iload_n (pc := 14) C dX5_safeLands_14 rfl ?_
  refine z_callVx (pc := 15) C zk_X5_89 (m_X3_sit _ _ _ (by decide) _) rfl rfl (by decide) rfl rfl (Nat.le_of_ble_eq_true rfl) dX5_safeLands_15 ?_
  simp only [Option.toList, List.cons_append, List.nil_append]
  refine z_iload_n (pc := 18) C dX5_safeLands_18 rfl ?_
  refine z_if_eq (pc := 19) 36 C dX5_safeLands_19 (by decide) (fun h19 => absurd h19 (by decide)) (fun h19 => ?_)
  refine z_aload_n (pc := 22) C dX5_safeLands_22 rfl ?_
  refine z_getR (pc := 23) C zf_X5_31 rfl rfl (by decide) dX5_safeLands_23 ?_
  refine z_aload_n (pc := 26) C dX5_safeLands_26 rfl ?_
  refine z_getR (pc := 27) C zf_X5_12 rfl rfl (by decide) dX5_safeLands_27 ?_
  refine z_callVx (pc := 30) C zk_X5_49 (p_X8_triedBy _ _ 2 (by decide) rfl) rfl rfl (by decide) rfl rfl (Nat.le_of_ble_eq_true rfl) dX5_safeLands_30 ?_
  simp only [Option.toList, List.cons_append, List.nil_append]
  refine z_if_ne (pc := 33) 40 C dX5_safeLands_33 (by decide) (fun h33 => absurd (by decide) h33) (fun h33 => ?_)
  refine z_iconst (pc := 36) (v := 1) C dX5_safeLands_36 (by decide) ?_
  refine z_goto (pc := 37) 41 C dX5_safeLands_37 (by decide) ?_
  refine z_istore (pc := 41) C dX5_safeLands_41 (by rw [hn]; decide) rfl ?_
  refine z_iconst (pc := 43) (v := 0) C dX5_safeLands_43 (by decide) ?_
  refine z_istore (pc := 44) C dX5_safeLands_44 (by rw [hn]; decide) rfl ?_
  refine z_iload (pc := 46) C dX5_safeLands_46 rfl ?_
  refine z_aload_n (pc := 48) C dX5_safeLands_48 rfl ?_
  refine z_getR (pc := 49) C zf_X5_31 rfl rfl (by decide) dX5_safeLands_49 ?_
  refine z_getI (pc := 52) C zf_X5_76 rfl rfl (by decide) dX5_safeLands_52 ?_
  refine z_icmp_ge (pc := 55) 96 C dX5_safeLands_55 (by decide) (fun h55 => ?_) (fun h55 => absurd (by decide) h55)
  refine z_iload_n (pc := 96) C dX5_safeLands_96 rfl ?_
  refine z_iload (pc := 97) C dX5_safeLands_97 rfl ?_
  refine z_if_eq (pc := 99) 108 C dX5_safeLands_99 (by decide) (fun h99 => absurd h99 (by decide)) (fun h99 => ?_)
  refine z_iconst (pc := 102) (v := 1) C dX5_safeLands_102 (by decide) ?_
  refine z_iload_n (pc := 103) C dX5_safeLands_103 rfl ?_
  refine z_ishl (pc := 104) C dX5_safeLands_104 ?_
  refine z_goto (pc := 105) 109 C dX5_safeLands_105 (by decide) ?_
  refine z_ior (pc := 109) C dX5_safeLands_109 ?_
  refine z_istore_n (pc := 110) C dX5_safeLands_110 (by rw [hn]; decide) rfl ?_
  refine z_iinc (pc := 111) (v := 1) C dX5_safeLands_111 rfl (by decide) (by rw [hn]; decide) rfl ?_
  refine z_goto (pc := 114) 4 C dX5_safeLands_114 (by decide) ?_
  refine z_iload_n (pc := 4) C dX5_safeLands_4 rfl ?_
  refine z_bipush (pc := 5) (v := 6) C dX5_safeLands_5 (by decide) ?_
  refine z_icmp_ge (pc := 7) 117 C dX5_safeLands_7 (by decide) (fun h7 => absurd h7 (by decide)) (fun h7 => ?_)
  refine z_aload_n (pc := 10) C dX5_safeLands_10 rfl ?_
  refine z_getR (pc := 11) C zf_X5_12 rfl rfl (by decide) dX5_safeLands_11 ?_
  refine z_iload_n (pc := 14) C dX5_safeLands_14 rfl ?_
  refine z_callVx (pc := 15) C zk_X5_89 (m_X3_sit _ _ _ (by decide) _) rfl rfl (by decide) rfl rfl (Nat.le_of_ble_eq_true rfl) dX5_safeLands_15 ?_
  simp only [Option.toList, List.cons_append, List.nil_append]
  refine z_iload_n (pc := 18) C dX5_safeLands_18 rfl ?_
  refine z_if_eq (pc := 19) 36 C dX5_safeLands_19 (by decide) (fun h19 => absurd h19 (by decide)) (fun h19 => ?_)
  refine z_aload_n (pc := 22) C dX5_safeLands_22 rfl ?_
  refine z_getR (pc := 23) C zf_X5_31 rfl rfl (by decide) dX5_safeLands_23 ?_
  refine z_aload_n (pc := 26) C dX5_safeLands_26 rfl ?_
  refine z_getR (pc := 27) C zf_X5_12 rfl rfl (by decide) dX5_safeLands_27 ?_
  refine z_callVx (pc := 30) C zk_X5_49 (p_X8_triedBy _ _ 2 (by decide) rfl) rfl rfl (by decide) rfl rfl (Nat.le_of_ble_eq_true rfl) dX5_safeLands_30 ?_
  simp only [Option.toList, List.cons_append, List.nil_append]
  refine z_if_ne (pc := 33) 40 C dX5_safeLands_33 (by decide) (fun h33 => absurd (by decide) h33) (fun h33 => ?_)
  refine z_iconst (pc := 36) (v := 1) C dX5_safeLands_36 (by decide) ?_
  refine z_goto (pc := 37) 41 C dX5_safeLands_37 (by decide) ?_
  refine z_istore (pc := 41) C dX5_safeLands_41 (by rw [hn]; decide) rfl ?_
  refine z_iconst (pc := 43) (v := 0) C dX5_safeLands_43 (by decide) ?_
  refine z_istore (pc := 44) C dX5_safeLands_44 (by rw [hn]; decide) rfl ?_
  refine z_iload (pc := 46) C dX5_safeLands_46 rfl ?_
  refine z_aload_n (pc := 48) C dX5_safeLands_48 rfl ?_
  refine z_getR (pc := 49) C zf_X5_31 rfl rfl (by decide) dX5_safeLands_49 ?_
  refine z_getI (pc := 52) C zf_X5_76 rfl rfl (by decide) dX5_safeLands_52 ?_
  refine z_icmp_ge (pc := 55) 96 C dX5_safeLands_55 (by decide) (fun h55 => ?_) (fun h55 => absurd (by decide) h55)
  refine z_iload_n (pc := 96) C dX5_safeLands_96 rfl ?_
  refine z_iload (pc := 97) C dX5_safeLands_97 rfl ?_
  refine z_if_eq (pc := 99) 108 C dX5_safeLands_99 (by decide) (fun h99 => absurd h99 (by decide)) (fun h99 => ?_)
  refine z_iconst (pc := 102) (v := 1) C dX5_safeLands_102 (by decide) ?_
  refine z_iload_n (pc := 103) C dX5_safeLands_103 rfl ?_
  refine z_ishl (pc := 104) C dX5_safeLands_104 ?_
  refine z_goto (pc := 105) 109 C dX5_safeLands_105 (by decide) ?_
  refine z_ior (pc := 109) C dX5_safeLands_109 ?_
  refine z_istore_n (pc := 110) C dX5_safeLands_110 (by rw [hn]; decide) rfl ?_
  refine z_iinc (pc := 111) (v := 1) C dX5_safeLands_111 rfl (by decide) (by rw [hn]; decide) rfl ?_
  refine z_goto (pc := 114) 4 C dX5_safeLands_114 (by decide) ?_
  refine z_iload_n (pc := 4) C dX5_safeLands_4 rfl ?_
  refine z_bipush (pc := 5) (v := 6) C dX5_safeLands_5 (by decide) ?_
  refine z_icmp_ge (pc := 7) 117 C dX5_safeLands_7 (by decide) (fun h7 => absurd h7 (by decide)) (fun h7 => ?_)
  refine z_aload_n (pc := 10) C dX5_safeLands_10 rfl ?_
  refine z_getR (pc := 11) C zf_X5_12 rfl rfl (by decide) dX5_safeLands_11 ?_
  refine z_iload_n (pc := 14) C dX5_safeLands_14 rfl ?_
  refine z_callVx (pc := 15) C zk_X5_89 (m_X3_sit _ _ _ (by decide) _) rfl rfl (by decide) rfl rfl (Nat.le_of_ble_eq_true rfl) dX5_safeLands_15 ?_
  simp only [Option.toList, List.cons_append, List.nil_append]
  refine z_iload_n (pc := 18) C dX5_safeLands_18 rfl ?_
  refine z_if_eq (pc := 19) 36 C dX5_safeLands_19 (by decide) (fun h19 => absurd h19 (by decide)) (fun h19 => ?_)
  refine z_aload_n (pc := 22) C dX5_safeLands_22 rfl ?_
  refine z_getR (pc := 23) C zf_X5_31 rfl rfl (by decide) dX5_safeLands_23 ?_
  refine z_aload_n (pc := 26) C dX5_safeLands_26 rfl ?_
  refine z_getR (pc := 27) C zf_X5_12 rfl rfl (by decide) dX5_safeLands_27 ?_
  refine z_callVx (pc := 30) C zk_X5_49 (p_X8_triedBy _ _ 2 (by decide) rfl) rfl rfl (by decide) rfl rfl (Nat.le_of_ble_eq_true rfl) dX5_safeLands_30 ?_
  simp only [Option.toList, List.cons_append, List.nil_append]
  refine z_if_ne (pc := 33) 40 C dX5_safeLands_33 (by decide) (fun h33 => absurd (by decide) h33) (fun h33 => ?_)
  refine z_iconst (pc := 36) (v := 1) C dX5_safeLands_36 (by decide) ?_
  refine z_goto (pc := 37) 41 C dX5_safeLands_37 (by decide) ?_
  refine z_istore (pc := 41) C dX5_safeLands_41 (by rw [hn]; decide) rfl ?_
  refine z_iconst (pc := 43) (v := 0) C dX5_safeLands_43 (by decide) ?_
  refine z_istore (pc := 44) C dX5_safeLands_44 (by rw [hn]; decide) rfl ?_
  refine z_iload (pc := 46) C dX5_safeLands_46 rfl ?_
  refine z_aload_n (pc := 48) C dX5_safeLands_48 rfl ?_
  refine z_getR (pc := 49) C zf_X5_31 rfl rfl (by decide) dX5_safeLands_49 ?_
  refine z_getI (pc := 52) C zf_X5_76 rfl rfl (by decide) dX5_safeLands_52 ?_
  refine z_icmp_ge (pc := 55) 96 C dX5_safeLands_55 (by decide) (fun h55 => ?_) (fun h55 => absurd (by decide) h55)
  refine z_iload_n (pc := 96) C dX5_safeLands_96 rfl ?_
  refine z_iload (pc := 97) C dX5_safeLands_97 rfl ?_
  refine z_if_eq (pc := 99) 108 C dX5_safeLands_99 (by decide) (fun h99 => absurd h99 (by decide)) (fun h99 => ?_)
  refine z_iconst (pc := 102) (v := 1) C dX5_safeLands_102 (by decide) ?_
  refine z_iload_n (pc := 103) C dX5_safeLands_103 rfl ?_
  refine z_ishl (pc := 104) C dX5_safeLands_104 ?_
  refine z_goto (pc := 105) 109 C dX5_safeLands_105 (by decide) ?_
  refine z_ior (pc := 109) C dX5_safeLands_109 ?_
  refine z_istore_n (pc := 110) C dX5_safeLands_110 (by rw [hn]; decide) rfl ?_
  refine z_iinc (pc := 111) (v := 1) C dX5_safeLands_111 rfl (by decide) (by rw [hn]; decide) rfl ?_
  refine z_goto (pc := 114) 4 C dX5_safeLands_114 (by decide) ?_
  refine z_iload_n (pc := 4) C dX5_safeLands_4 rfl ?_
  refine z_bipush (pc := 5) (v := 6) C dX5_safeLands_5 (by decide) ?_
  refine z_icmp_ge (pc := 7) 117 C dX5_safeLands_7 (by decide) (fun h7 => absurd h7 (by decide)) (fun h7 => ?_)
  refine z_aload_n (pc := 10) C dX5_safeLands_10 rfl ?_
  refine z_getR (pc := 11) C zf_X5_12 rfl rfl (by decide) dX5_safeLands_11 ?_
  refine z_iload_n (pc := 14) C dX5_safeLands_14 rfl ?_
  refine z_callVx (pc := 15) C zk_X5_89 (m_X3_sit _ _ _ (by decide) _) rfl rfl (by decide) rfl rfl (Nat.le_of_ble_eq_true rfl) dX5_safeLands_15 ?_
  simp only [Option.toList, List.cons_append, List.nil_append]
  refine z_iload_n (pc := 18) C dX5_safeLands_18 rfl ?_
  refine z_if_eq (pc := 19) 36 C dX5_safeLands_19 (by decide) (fun h19 => absurd h19 (by decide)) (fun h19 => ?_)
  refine z_aload_n (pc := 22) C dX5_safeLands_22 rfl ?_
  refine z_getR (pc := 23) C zf_X5_31 rfl rfl (by decide) dX5_safeLands_23 ?_
  refine z_aload_n (pc := 26) C dX5_safeLands_26 rfl ?_
  refine z_getR (pc := 27) C zf_X5_12 rfl rfl (by decide) dX5_safeLands_27 ?_
  refine z_callVx (pc := 30) C zk_X5_49 (p_X8_triedBy _ _ 2 (by decide) rfl) rfl rfl (by decide) rfl rfl (Nat.le_of_ble_eq_true rfl) dX5_safeLands_30 ?_
  simp only [Option.toList, List.cons_append, List.nil_append]
  refine z_if_ne (pc := 33) 40 C dX5_safeLands_33 (by decide) (fun h33 => absurd (by decide) h33) (fun h33 => ?_)
  refine z_iconst (pc := 36) (v := 1) C dX5_safeLands_36 (by decide) ?_
  refine z_goto (pc := 37) 41 C dX5_safeLands_37 (by decide) ?_
  refine z_istore (pc := 41) C dX5_safeLands_41 (by rw [hn]; decide) rfl ?_
  refine z_iconst (pc := 43) (v := 0) C dX5_safeLands_43 (by decide) ?_
  refine z_istore (pc := 44) C dX5_safeLands_44 (by rw [hn]; decide) rfl ?_
  refine z_iload (pc := 46) C dX5_safeLands_46 rfl ?_
  refine z_aload_n (pc := 48) C dX5_safeLands_48 rfl ?_
  refine z_getR (pc := 49) C zf_X5_31 rfl rfl (by decide) dX5_safeLands_49 ?_
  refine z_getI (pc := 52) C zf_X5_76 rfl rfl (by decide) dX5_safeLands_52 ?_
  refine z_icmp_ge (pc := 55) 96 C dX5_safeLands_55 (by decide) (fun h55 => ?_) (fun h55 => absurd (by decide) h55)
  refine z_iload_n (pc := 96) C dX5_safeLands_96 rfl ?_
  refine z_iload (pc := 97) C dX5_safeLands_97 rfl ?_
  refine z_if_eq (pc := 99) 108 C dX5_safeLands_99 (by decide) (fun h99 => absurd h99 (by decide)) (fun h99 => ?_)
  refine z_iconst (pc := 102) (v := 1) C dX5_safeLands_102 (by decide) ?_
  refine z_iload_n (pc := 103) C dX5_safeLands_103 rfl ?_
  refine z_ishl (pc := 104) C dX5_safeLands_104 ?_
  refine z_goto (pc := 105) 109 C dX5_safeLands_105 (by decide) ?_
  refine z_ior (pc := 109) C dX5_safeLands_109 ?_
  refine z_istore_n (pc := 110) C dX5_safeLands_110 (by rw [hn]; decide) rfl ?_
  refine z_iinc (pc := 111) (v := 1) C dX5_safeLands_111 rfl (by decide) (by rw [hn]; decide) rfl ?_
  refine z_goto (pc := 114) 4 C dX5_safeLands_114 (by decide) ?_
  refine z_iload_n (pc := 4) C dX5_safeLands_4 rfl ?_
  refine z_bipush (pc := 5) (v := 6) C dX5_safeLands_5 (by decide) ?_
  refine z_icmp_ge (pc := 7) 117 C dX5_safeLands_7 (by decide) (fun h7 => absurd h7 (by decide)) (fun h7 => ?_)
  refine z_aload_n (pc := 10) C dX5_safeLands_10 rfl ?_
  refine z_getR (pc := 11) C zf_X5_12 rfl rfl (by decide) dX5_safeLands_11 ?_
  refine z_iload_n (pc := 14) C dX5_safeLands_14 rfl ?_
  refine z_callVx (pc := 15) C zk_X5_89 (m_X3_sit _ _ _ (by decide) _) rfl rfl (by decide) rfl rfl (Nat.le_of_ble_eq_true rfl) dX5_safeLands_15 ?_
  simp only [Option.toList, List.cons_append, List.nil_append]
  refine z_iload_n (pc := 18) C dX5_safeLands_18 rfl ?_
  refine z_if_eq (pc := 19) 36 C dX5_safeLands_19 (by decide) (fun h19 => absurd h19 (by decide)) (fun h19 => ?_)
  refine z_aload_n (pc := 22) C dX5_safeLands_22 rfl ?_
  refine z_getR (pc := 23) C zf_X5_31 rfl rfl (by decide) dX5_safeLands_23 ?_
  refine z_aload_n (pc := 26) C dX5_safeLands_26 rfl ?_
  refine z_getR (pc := 27) C zf_X5_12 rfl rfl (by decide) dX5_safeLands_27 ?_
  refine z_callVx (pc := 30) C zk_X5_49 (p_X8_triedBy _ _ 2 (by decide) rfl) rfl rfl (by decide) rfl rfl (Nat.le_of_ble_eq_true rfl) dX5_safeLands_30 ?_
  simp only [Option.toList, List.cons_append, List.nil_append]
  refine z_if_ne (pc := 33) 40 C dX5_safeLands_33 (by decide) (fun h33 => absurd (by decide) h33) (fun h33 => ?_)
  refine z_iconst (pc := 36) (v := 1) C dX5_safeLands_36 (by decide) ?_
  refine z_goto (pc := 37) 41 C dX5_safeLands_37 (by decide) ?_
  refine z_istore (pc := 41) C dX5_safeLands_41 (by rw [hn]; decide) rfl ?_
  refine z_iconst (pc := 43) (v := 0) C dX5_safeLands_43 (by decide) ?_
  refine z_istore (pc := 44) C dX5_safeLands_44 (by rw [hn]; decide) rfl ?_
  refine z_iload (pc := 46) C dX5_safeLands_46 rfl ?_
  refine z_aload_n (pc := 48) C dX5_safeLands_48 rfl ?_
  refine z_getR (pc := 49) C zf_X5_31 rfl rfl (by decide) dX5_safeLands_49 ?_
  refine z_getI (pc := 52) C zf_X5_76 rfl rfl (by decide) dX5_safeLands_52 ?_
  refine z_icmp_ge (pc := 55) 96 C dX5_safeLands_55 (by decide) (fun h55 => ?_) (fun h55 => absurd (by decide) h55)
  refine z_iload_n (pc := 96) C dX5_safeLands_96 rfl ?_
  refine z_iload (pc := 97) C dX5_safeLands_97 rfl ?_
  refine z_if_eq (pc := 99) 108 C dX5_safeLands_99 (by decide) (fun h99 => absurd h99 (by decide)) (fun h99 => ?_)
  refine z_iconst (pc := 102) (v := 1) C dX5_safeLands_102 (by decide) ?_
  refine z_iload_n (pc := 103) C dX5_safeLands_103 rfl ?_
  refine z_ishl (pc := 104) C dX5_safeLands_104 ?_
  refine z_goto (pc := 105) 109 C dX5_safeLands_105 (by decide) ?_
  refine z_ior (pc := 109) C dX5_safeLands_109 ?_
  refine z_istore_n (pc := 110) C dX5_safeLands_110 (by rw [hn]; decide) rfl ?_
  refine z_iinc (pc := 111) (v := 1) C dX5_safeLands_111 rfl (by decide) (by rw [hn]; decide) rfl ?_
  refine z_goto (pc := 114) 4 C dX5_safeLands_114 (by decide) ?_
  refine z_iload_n (pc := 4) C dX5_safeLands_4 rfl ?_
  refine z_bipush (pc := 5) (v := 6) C dX5_safeLands_5 (by decide) ?_
  refine z_icmp_ge (pc := 7) 117 C dX5_safeLands_7 (by decide) (fun h7 => ?_) (fun h7 => absurd (by decide) h7)
  refine z_iload_n (pc := 117) C dX5_safeLands_117 rfl ?_
  exact z_iret (pc := 118) C hr dX5_safeLands_118 (⟨congrArg (fun x => some (zi x)) (by decide), by repeat (first | exact zk0 | refine zKeep.up ?_ (by decide) | refine zKeep.fill ?_ (by decide))⟩)

theorem p_X5_safeLands (d : Nat) (v : Int32) (hv : v = 0 ∨ v = 1) : ZM (d + 1) yX5_safeLands cX5_safeLands 6 (some .int) [zr 13 0, zi v] z0 (fun r g => r = some (zi 63) ∧ zKeep g) := by
  rcases hv with rfl | rfl
  · exact p_X5_safeLands0 d
  · exact p_X5_safeLands1 d
set_option maxRecDepth 100000 in
set_option maxHeartbeats 4000000 in
theorem p_X9_safe (d : Nat) (a1 : Int32) : ZM (d + 2) yX9_safe cX9_safe 2 (some .int) [zr 0 0, zi a1] z0 (fun r g => r = some (zi (if 0 ≤ a1.toInt ∧ a1.toInt ≤ 1 then 63 else -1)) ∧ zKeep g) := by
  refine ZM.intro (by decide +kernel) (Nat.le_of_ble_eq_true rfl) ?_
  intro X C hr hn
  show Z X 0 [some (zr 0 0), some (zi a1)] [] z0
  refine z_iload_n (pc := 0) C dX9_safe_0 rfl ?_
  refine z_if_lt (pc := 1) 9 C dX9_safe_1 (by decide) (fun h1 => ?_) (fun h1 => ?_)
  · skip
    refine z_iconst (pc := 9) (v := -1) C dX9_safe_9 (by decide) ?_
    exact z_iret (pc := 10) C hr dX9_safe_10 (⟨by congr 2; first | (rw [if_neg (by simp only [z32lt, z32le, z32eq, Int32.reduceToInt, Int32.toInt_zero, Int32.toInt_one] at *; omega)]; done) | (rw [if_pos (by simp only [z32lt, z32le, z32eq, Int32.reduceToInt, Int32.toInt_zero, Int32.toInt_one] at *; omega)] <;> simp [zup, z0, zfill]), by repeat (first | exact zk0 | refine zKeep.up ?_ (by decide) | refine zKeep.fill ?_ (by decide))⟩)
  · skip
    refine z_iload_n (pc := 4) C dX9_safe_4 rfl ?_
    refine z_iconst (pc := 5) (v := 1) C dX9_safe_5 (by decide) ?_
    refine z_icmp_le (pc := 6) 11 C dX9_safe_6 (by decide) (fun h6 => ?_) (fun h6 => ?_)
    · skip
      refine z_aload_n (pc := 11) C dX9_safe_11 rfl ?_
      refine z_getR (pc := 12) C zf_X9_10 rfl rfl (by decide) dX9_safe_12 ?_
      refine z_callVx (pc := 15) C zk_X9_280 (p_X8_weighAll _ _ rfl) rfl rfl (by decide) rfl rfl (Nat.le_of_ble_eq_true rfl) dX9_safe_15 ?_
      simp only [Option.toList, List.cons_append, List.nil_append]
      refine z_aload_n (pc := 18) C dX9_safe_18 rfl ?_
      refine z_getR (pc := 19) C zf_X9_24 rfl rfl (by decide) dX9_safe_19 ?_
      refine z_iload_n (pc := 22) C dX9_safe_22 rfl ?_
      refine z_iconst (pc := 23) (v := 1) C dX9_safe_23 (by decide) ?_
      refine z_icmp_ne (pc := 24) 31 C dX9_safe_24 (by decide) (fun h24 => ?_) (fun h24 => ?_)
      · skip
        refine z_iconst (pc := 31) (v := 0) C dX9_safe_31 (by decide) ?_
        refine z_callV (pc := 32) C zk_X9_296 (p_X5_safeLands _ _ (by first | exact Or.inl rfl | exact Or.inr rfl)) rfl rfl (by decide) rfl rfl (Nat.le_of_ble_eq_true rfl) dX9_safe_32 (fun r32 g32 q32 => ?_)
        obtain ⟨rfl, hk32⟩ := q32
        simp only [Option.toList, List.cons_append, List.nil_append]
        exact z_iret (pc := 35) C hr dX9_safe_35 (⟨by congr 2; first | (rw [if_neg (by simp only [z32lt, z32le, z32eq, Int32.reduceToInt, Int32.toInt_zero, Int32.toInt_one] at *; omega)]; done) | (rw [if_pos (by simp only [z32lt, z32le, z32eq, Int32.reduceToInt, Int32.toInt_zero, Int32.toInt_one] at *; omega)] <;> simp [zup, z0, zfill]), by repeat (first | exact hk32 | refine zKeep.up ?_ (by decide) | refine zKeep.fill ?_ (by decide))⟩)
      · skip
        refine z_iconst (pc := 27) (v := 1) C dX9_safe_27 (by decide) ?_
        refine z_goto (pc := 28) 32 C dX9_safe_28 (by decide) ?_
        refine z_callV (pc := 32) C zk_X9_296 (p_X5_safeLands _ _ (by first | exact Or.inl rfl | exact Or.inr rfl)) rfl rfl (by decide) rfl rfl (Nat.le_of_ble_eq_true rfl) dX9_safe_32 (fun r32 g32 q32 => ?_)
        obtain ⟨rfl, hk32⟩ := q32
        simp only [Option.toList, List.cons_append, List.nil_append]
        exact z_iret (pc := 35) C hr dX9_safe_35 (⟨by congr 2; first | (rw [if_neg (by simp only [z32lt, z32le, z32eq, Int32.reduceToInt, Int32.toInt_zero, Int32.toInt_one] at *; omega)]; done) | (rw [if_pos (by simp only [z32lt, z32le, z32eq, Int32.reduceToInt, Int32.toInt_zero, Int32.toInt_one] at *; omega)] <;> simp [zup, z0, zfill]), by repeat (first | exact hk32 | refine zKeep.up ?_ (by decide) | refine zKeep.fill ?_ (by decide))⟩)
    · skip
      refine z_iconst (pc := 9) (v := -1) C dX9_safe_9 (by decide) ?_
      exact z_iret (pc := 10) C hr dX9_safe_10 (⟨by congr 2; first | (rw [if_neg (by simp only [z32lt, z32le, z32eq, Int32.reduceToInt, Int32.toInt_zero, Int32.toInt_one] at *; omega)]; done) | (rw [if_pos (by simp only [z32lt, z32le, z32eq, Int32.reduceToInt, Int32.toInt_zero, Int32.toInt_one] at *; omega)] <;> simp [zup, z0, zfill]), by repeat (first | exact zk0 | refine zKeep.up ?_ (by decide) | refine zKeep.fill ?_ (by decide))⟩)
