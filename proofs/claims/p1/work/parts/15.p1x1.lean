/-! ===== p1: the first call on the new object ===== -/
/-- the reference's cells are as they were at the start -/
def zKeep (g : zM) : Prop := ∀ k n j, 25 ≤ k → g k n j = z0 k n j
theorem zk0 : zKeep z0 := fun _ _ _ _ => rfl
theorem zKeep.up {f : zM} {k n j : Nat} {x : Int32} (h : zKeep f) (hk : k < 25) : zKeep (zup f k n j x) := fun a b c ha => by
  rw [zup_ne f x (by omega)]
  exact h a b c ha
/-- a row filled with one number -/
def zfill (f : zM) (k n len : Nat) (v : Int32) : zM := fun a b c => if a = k ∧ b = n ∧ c < len then v else f a b c
theorem zKeep.fill {f : zM} {k n len : Nat} {v : Int32} (h : zKeep f) (hk : k < 25) : zKeep (zfill f k n len v) := fun a b c ha => by
  unfold zfill
  rw [if_neg (by omega)]
  exact h a b c ha
theorem zfill_0 (f : zM) (k n : Nat) (v : Int32) : zfill f k n 0 v = f := by
  funext a b c
  unfold zfill
  rw [if_neg (by omega)]
theorem zfill_s (f : zM) (k n i : Nat) (v : Int32) : zup (zfill f k n i v) k n i v = zfill f k n (i + 1) v := by
  funext a b c
  simp only [zfill, zup]
  repeat' split
  all_goals first | rfl | (exfalso; omega)

set_option maxRecDepth 100000 in
set_option maxHeartbeats 4000000 in
theorem m_X0_tell (d : Nat) (f : zM) (n : Nat) (h9 : n < zcnt 7) (a1 a2 a3 a4 a5 a6 : Int32) (hb : a6 = 0 ∨ a6 = 1) : ZM d yX0_tell cX0_tell 7 none [zr 7 n, zi a1, zi a2, zi a3, zi a4, zi a5, zi a6] f (fun r g => r = none ∧ g = (zup (zup (zup (zup (zup (zup f 7 n 0 a1) 7 n 1 a2) 7 n 2 a3) 7 n 3 a4) 7 n 4 a5) 7 n 5 a6)) := by
  refine ZM.intro (by decide +kernel) (Nat.le_of_ble_eq_true rfl) ?_
  intro X C hr hn
  show Z X 0 [some (zr 7 n), some (zi a1), some (zi a2), some (zi a3), some (zi a4), some (zi a5), some (zi a6)] [] f
  refine z_aload_n (pc := 0) C dX0_tell_0 rfl ?_
  refine z_iload_n (pc := 1) C dX0_tell_1 rfl ?_
  refine z_putI (pc := 2) C zf_X0_7 zp_0_0 rfl rfl h9 dX0_tell_2 ?_
  refine z_aload_n (pc := 5) C dX0_tell_5 rfl ?_
  refine z_iload_n (pc := 6) C dX0_tell_6 rfl ?_
  refine z_putI (pc := 7) C zf_X0_13 zp_0_1 rfl rfl h9 dX0_tell_7 ?_
  refine z_aload_n (pc := 10) C dX0_tell_10 rfl ?_
  refine z_iload_n (pc := 11) C dX0_tell_11 rfl ?_
  refine z_putI (pc := 12) C zf_X0_16 zp_0_2 rfl rfl h9 dX0_tell_12 ?_
  refine z_aload_n (pc := 15) C dX0_tell_15 rfl ?_
  refine z_iload (pc := 16) C dX0_tell_16 rfl ?_
  refine z_putI (pc := 18) C zf_X0_19 zp_0_3 rfl rfl h9 dX0_tell_18 ?_
  refine z_aload_n (pc := 21) C dX0_tell_21 rfl ?_
  refine z_iload (pc := 22) C dX0_tell_22 rfl ?_
  refine z_putI (pc := 24) C zf_X0_22 zp_0_4 rfl rfl h9 dX0_tell_24 ?_
  refine z_aload_n (pc := 27) C dX0_tell_27 rfl ?_
  refine z_iload (pc := 28) C dX0_tell_28 rfl ?_
  refine z_putZ (pc := 30) C zf_X0_25 zp_0_5 hb rfl rfl h9 dX0_tell_30 ?_
  exact z_vret (pc := 33) C hr dX0_tell_33 (⟨by simp, rfl⟩)

set_option maxRecDepth 100000 in
set_option maxHeartbeats 4000000 in
theorem m_X1_tell (d : Nat) (f : zM) (n : Nat) (h9 : n < zcnt 8) (a1 a2 a3 a4 : Int32) : ZM d yX1_tell cX1_tell 5 none [zr 8 n, zi a1, zi a2, zi a3, zi a4] f (fun r g => r = none ∧ g = (zup (zup (zup (zup (zup f 8 n 0 a1) 8 n 1 a2) 8 n 2 a3) 8 n 3 a4) 8 n 4 0)) := by
  refine ZM.intro (by decide +kernel) (Nat.le_of_ble_eq_true rfl) ?_
  intro X C hr hn
  show Z X 0 [some (zr 8 n), some (zi a1), some (zi a2), some (zi a3), some (zi a4)] [] f
  refine z_aload_n (pc := 0) C dX1_tell_0 rfl ?_
  refine z_iload_n (pc := 1) C dX1_tell_1 rfl ?_
  refine z_putI (pc := 2) C zf_X1_18 zp_1_0 rfl rfl h9 dX1_tell_2 ?_
  refine z_aload_n (pc := 5) C dX1_tell_5 rfl ?_
  refine z_iload_n (pc := 6) C dX1_tell_6 rfl ?_
  refine z_putI (pc := 7) C zf_X1_22 zp_1_1 rfl rfl h9 dX1_tell_7 ?_
  refine z_aload_n (pc := 10) C dX1_tell_10 rfl ?_
  refine z_iload_n (pc := 11) C dX1_tell_11 rfl ?_
  refine z_putI (pc := 12) C zf_X1_25 zp_1_2 rfl rfl h9 dX1_tell_12 ?_
  refine z_aload_n (pc := 15) C dX1_tell_15 rfl ?_
  refine z_iload (pc := 16) C dX1_tell_16 rfl ?_
  refine z_putI (pc := 18) C zf_X1_28 zp_1_3 rfl rfl h9 dX1_tell_18 ?_
  refine z_aload_n (pc := 21) C dX1_tell_21 rfl ?_
  refine z_iconst (pc := 22) (v := 0) C dX1_tell_22 (by decide) ?_
  refine z_putZ (pc := 23) C zf_X1_31 zp_1_4 (by decide) rfl rfl h9 dX1_tell_23 ?_
  exact z_vret (pc := 26) C hr dX1_tell_26 (⟨by simp, rfl⟩)

set_option maxRecDepth 100000 in
set_option maxHeartbeats 4000000 in
theorem m_X4_lead (d : Nat) (f : zM) (n : Nat) (h9 : n < zcnt 11) (a1 a2 : Int32) : ZM d yX4_lead cX4_lead 3 none [zr 11 n, zi a1, zi a2] f (fun r g => r = none ∧ g = (zup (zup f 11 n 1 a1) 11 n 2 a2)) := by
  refine ZM.intro (by decide +kernel) (Nat.le_of_ble_eq_true rfl) ?_
  intro X C hr hn
  show Z X 0 [some (zr 11 n), some (zi a1), some (zi a2)] [] f
  refine z_aload_n (pc := 0) C dX4_lead_0 rfl ?_
  refine z_iload_n (pc := 1) C dX4_lead_1 rfl ?_
  refine z_putI (pc := 2) C zf_X4_9 zp_4_1 rfl rfl h9 dX4_lead_2 ?_
  refine z_aload_n (pc := 5) C dX4_lead_5 rfl ?_
  refine z_iload_n (pc := 6) C dX4_lead_6 rfl ?_
  refine z_putI (pc := 7) C zf_X4_15 zp_4_2 rfl rfl h9 dX4_lead_7 ?_
  exact z_vret (pc := 10) C hr dX4_lead_10 (⟨by simp, rfl⟩)

set_option maxRecDepth 100000 in
set_option maxHeartbeats 4000000 in
theorem m_X4_become (d : Nat) (f : zM) (n : Nat) (h9 : n < zcnt 11) (a1 a2 a3 : Int32) : ZM d yX4_become cX4_become 4 none [zr 11 n, zi a1, zi a2, zi a3] f (fun r g => r = none ∧ g = (zup (zup (zup f 11 n 0 a1) 11 n 3 a2) 11 n 4 a3)) := by
  refine ZM.intro (by decide +kernel) (Nat.le_of_ble_eq_true rfl) ?_
  intro X C hr hn
  show Z X 0 [some (zr 11 n), some (zi a1), some (zi a2), some (zi a3)] [] f
  refine z_aload_n (pc := 0) C dX4_become_0 rfl ?_
  refine z_iload_n (pc := 1) C dX4_become_1 rfl ?_
  refine z_putI (pc := 2) C zf_X4_18 zp_4_0 rfl rfl h9 dX4_become_2 ?_
  refine z_aload_n (pc := 5) C dX4_become_5 rfl ?_
  refine z_iload_n (pc := 6) C dX4_become_6 rfl ?_
  refine z_putI (pc := 7) C zf_X4_21 zp_4_3 rfl rfl h9 dX4_become_7 ?_
  refine z_aload_n (pc := 10) C dX4_become_10 rfl ?_
  refine z_iload_n (pc := 11) C dX4_become_11 rfl ?_
  refine z_putI (pc := 12) C zf_X4_24 zp_4_4 rfl rfl h9 dX4_become_12 ?_
  exact z_vret (pc := 15) C hr dX4_become_15 (⟨by simp, rfl⟩)

set_option maxRecDepth 100000 in
set_option maxHeartbeats 4000000 in
theorem m_X4_rule (d : Nat) (f : zM) (n : Nat) (h9 : n < zcnt 11) (a1 a2 a3 : Int32) : ZM d yX4_rule cX4_rule 4 none [zr 11 n, zi a1, zi a2, zi a3] f (fun r g => r = none ∧ g = (zup (zup (zup f 11 n 5 a1) 11 n 6 a2) 11 n 7 a3)) := by
  refine ZM.intro (by decide +kernel) (Nat.le_of_ble_eq_true rfl) ?_
  intro X C hr hn
  show Z X 0 [some (zr 11 n), some (zi a1), some (zi a2), some (zi a3)] [] f
  refine z_aload_n (pc := 0) C dX4_rule_0 rfl ?_
  refine z_iload_n (pc := 1) C dX4_rule_1 rfl ?_
  refine z_putI (pc := 2) C zf_X4_27 zp_4_5 rfl rfl h9 dX4_rule_2 ?_
  refine z_aload_n (pc := 5) C dX4_rule_5 rfl ?_
  refine z_iload_n (pc := 6) C dX4_rule_6 rfl ?_
  refine z_putI (pc := 7) C zf_X4_30 zp_4_6 rfl rfl h9 dX4_rule_7 ?_
  refine z_aload_n (pc := 10) C dX4_rule_10 rfl ?_
  refine z_iload_n (pc := 11) C dX4_rule_11 rfl ?_
  refine z_putI (pc := 12) C zf_X4_33 zp_4_7 rfl rfl h9 dX4_rule_12 ?_
  exact z_vret (pc := 15) C hr dX4_rule_15 (⟨by simp, rfl⟩)

set_option maxRecDepth 100000 in
set_option maxHeartbeats 4000000 in
theorem m_X3_sit (d : Nat) (f : zM) (n : Nat) (h9 : n < zcnt 6) (a1 : Int32) : ZM d yX3_sit cX3_sit 2 none [zr 6 n, zi a1] f (fun r g => r = none ∧ g = (zup (zup (zup (zup f 6 n 1 a1) 6 n 4 0) 6 n 5 (-4)) 6 n 6 255)) := by
  refine ZM.intro (by decide +kernel) (Nat.le_of_ble_eq_true rfl) ?_
  intro X C hr hn
  show Z X 0 [some (zr 6 n), some (zi a1)] [] f
  refine z_aload_n (pc := 0) C dX3_sit_0 rfl ?_
  refine z_iload_n (pc := 1) C dX3_sit_1 rfl ?_
  refine z_putI (pc := 2) C zf_X3_18 zp_3_1 rfl rfl h9 dX3_sit_2 ?_
  refine z_aload_n (pc := 5) C dX3_sit_5 rfl ?_
  refine z_iconst (pc := 6) (v := 0) C dX3_sit_6 (by decide) ?_
  refine z_putZ (pc := 7) C zf_X3_21 zp_3_4 (by decide) rfl rfl h9 dX3_sit_7 ?_
  refine z_aload_n (pc := 10) C dX3_sit_10 rfl ?_
  refine z_bipush (pc := 11) (v := -4) C dX3_sit_11 (by decide) ?_
  refine z_putI (pc := 13) C zf_X3_9 zp_3_5 rfl rfl h9 dX3_sit_13 ?_
  refine z_aload_n (pc := 16) C dX3_sit_16 rfl ?_
  refine z_sipush (pc := 17) (v := 255) C dX3_sit_17 (by decide) ?_
  refine z_putI (pc := 20) C zf_X3_15 zp_3_6 rfl rfl h9 dX3_sit_20 ?_
  exact z_vret (pc := 23) C hr dX3_sit_23 (⟨by simp, rfl⟩)

set_option maxRecDepth 100000 in
set_option maxHeartbeats 4000000 in
theorem m_X8_takePaper (d : Nat) (f : zM) : ZM d yX8_takePaper cX8_takePaper 1 (some .int) [zr 1 0] f (fun r g => r = some (zi (f 1 0 7 + 1 - 1)) ∧ g = zup f 1 0 7 (f 1 0 7 + 1)) := by
  refine ZM.intro (by decide +kernel) (Nat.le_of_ble_eq_true rfl) ?_
  intro X C hr hn
  show Z X 0 [some (zr 1 0)] [] f
  refine z_aload_n (pc := 0) C dX8_takePaper_0 rfl ?_
  first | refine z_dupr (pc := 1) C dX8_takePaper_1 ?_ | refine z_dupi (pc := 1) C dX8_takePaper_1 ?_
  refine z_getI (pc := 2) C zf_X8_64 rfl rfl (by decide) dX8_takePaper_2 ?_
  refine z_iconst (pc := 5) (v := 1) C dX8_takePaper_5 (by decide) ?_
  refine z_iadd (pc := 6) C dX8_takePaper_6 ?_
  refine z_putI (pc := 7) C zf_X8_64 zp_8_7 rfl rfl (by decide) dX8_takePaper_7 ?_
  refine z_aload_n (pc := 10) C dX8_takePaper_10 rfl ?_
  refine z_getI (pc := 11) C zf_X8_64 rfl rfl (by decide) dX8_takePaper_11 ?_
  refine z_iconst (pc := 14) (v := 1) C dX8_takePaper_14 (by decide) ?_
  refine z_isub (pc := 15) C dX8_takePaper_15 ?_
  exact z_iret (pc := 16) C hr dX8_takePaper_16 (⟨by rw [zup_same], rfl⟩)

set_option maxRecDepth 100000 in
set_option maxHeartbeats 4000000 in
theorem p_X8_takeCrime (d : Nat) (f : zM) (h0 : f 1 0 6 = 0) : ZM d yX8_takeCrime cX8_takeCrime 2 (some .int) [zr 1 0] f (fun r g => r = some (zi (f 1 0 5 + 1 - 1)) ∧ g = zup f 1 0 5 (f 1 0 5 + 1)) := by
  refine ZM.intro (by decide +kernel) (Nat.le_of_ble_eq_true rfl) ?_
  intro X C hr hn
  show Z X 0 [some (zr 1 0), none] [] f
  refine z_iconst (pc := 0) (v := 0) C dX8_takeCrime_0 (by decide) ?_
  refine z_istore_n (pc := 1) C dX8_takeCrime_1 (by rw [hn]; decide) rfl ?_
  refine z_iload_n (pc := 2) C dX8_takeCrime_2 rfl ?_
  refine z_aload_n (pc := 3) C dX8_takeCrime_3 rfl ?_
  refine z_getI (pc := 4) C zf_X8_54 rfl rfl (by decide) dX8_takeCrime_4 ?_
  refine z_icmp_ge (pc := 7) 38 C dX8_takeCrime_7 (by decide) (fun h7 => ?_) (fun h7 => absurd (by rw [h0]; decide) h7)
  refine z_aload_n (pc := 38) C dX8_takeCrime_38 rfl ?_
  first | refine z_dupr (pc := 39) C dX8_takeCrime_39 ?_ | refine z_dupi (pc := 39) C dX8_takeCrime_39 ?_
  refine z_getI (pc := 40) C zf_X8_46 rfl rfl (by decide) dX8_takeCrime_40 ?_
  refine z_iconst (pc := 43) (v := 1) C dX8_takeCrime_43 (by decide) ?_
  refine z_iadd (pc := 44) C dX8_takeCrime_44 ?_
  refine z_putI (pc := 45) C zf_X8_46 zp_8_5 rfl rfl (by decide) dX8_takeCrime_45 ?_
  refine z_aload_n (pc := 48) C dX8_takeCrime_48 rfl ?_
  refine z_getI (pc := 49) C zf_X8_46 rfl rfl (by decide) dX8_takeCrime_49 ?_
  refine z_iconst (pc := 52) (v := 1) C dX8_takeCrime_52 (by decide) ?_
  refine z_isub (pc := 53) C dX8_takeCrime_53 ?_
  exact z_iret (pc := 54) C hr dX8_takeCrime_54 (⟨by rw [zup_same], rfl⟩)

set_option maxRecDepth 100000 in
set_option maxHeartbeats 4000000 in
theorem m_X8_allDeeds (d : Nat) (f : zM) (w : Nat) (h9 : w < zcnt 1) : ZM d yX8_allDeeds cX8_allDeeds 1 (some .int) [zr 1 w] f (fun r g => r = some (zi ((1 <<< (f 1 w 6 &&& 31)) - 1)) ∧ g = f) := by
  refine ZM.intro (by decide +kernel) (Nat.le_of_ble_eq_true rfl) ?_
  intro X C hr hn
  show Z X 0 [some (zr 1 w)] [] f
  refine z_iconst (pc := 0) (v := 1) C dX8_allDeeds_0 (by decide) ?_
  refine z_aload_n (pc := 1) C dX8_allDeeds_1 rfl ?_
  refine z_getI (pc := 2) C zf_X8_54 rfl rfl h9 dX8_allDeeds_2 ?_
  refine z_ishl (pc := 5) C dX8_allDeeds_5 ?_
  refine z_iconst (pc := 6) (v := 1) C dX8_allDeeds_6 (by decide) ?_
  refine z_isub (pc := 7) C dX8_allDeeds_7 ?_
  exact z_iret (pc := 8) C hr dX8_allDeeds_8 (⟨rfl, rfl⟩)

set_option maxRecDepth 100000 in
set_option maxHeartbeats 4000000 in
theorem p_X9_isDeed (d : Nat) (x : Int32) : ZM d yX9_isDeed cX9_isDeed 2 (some .boolean) [zr 0 0, zi x] z0 (fun r g => r = some (zi 0) ∧ g = z0) := by
  refine ZM.intro (by decide +kernel) (Nat.le_of_ble_eq_true rfl) ?_
  intro X C hr hn
  show Z X 0 [some (zr 0 0), some (zi x)] [] z0
  refine z_iload_n (pc := 0) C dX9_isDeed_0 rfl ?_
  refine z_if_lt (pc := 1) 19 C dX9_isDeed_1 (by decide) (fun h1 => ?_) (fun h1 => ?_)
  · skip
    refine z_iconst (pc := 19) (v := 0) C dX9_isDeed_19 (by decide) ?_
    exact z_zret (pc := 20) C hr (by decide) dX9_isDeed_20 (⟨rfl, rfl⟩)
  · skip
    refine z_iload_n (pc := 4) C dX9_isDeed_4 rfl ?_
    refine z_aload_n (pc := 5) C dX9_isDeed_5 rfl ?_
    refine z_getR (pc := 6) C zf_X9_10 rfl rfl (by decide) dX9_isDeed_6 ?_
    refine z_getI (pc := 9) C zf_X9_71 rfl rfl (by decide) dX9_isDeed_9 ?_
    refine z_icmp_ge (pc := 12) 19 C dX9_isDeed_12 (by decide) (fun h12 => ?_) (fun h12 => absurd (by have h8 := h1; simp only [z32lt, z32le, z32eq, Int32.reduceToInt, Int32.toInt_zero, z0] at *; omega) h12)
    refine z_iconst (pc := 19) (v := 0) C dX9_isDeed_19 (by decide) ?_
    exact z_zret (pc := 20) C hr (by decide) dX9_isDeed_20 (⟨rfl, rfl⟩)

set_option maxRecDepth 100000 in
set_option maxHeartbeats 4000000 in
theorem p_X9_isPaper (d : Nat) (x : Int32) : ZM d yX9_isPaper cX9_isPaper 2 (some .boolean) [zr 0 0, zi x] z0 (fun r g => r = some (zi 0) ∧ g = z0) := by
  refine ZM.intro (by decide +kernel) (Nat.le_of_ble_eq_true rfl) ?_
  intro X C hr hn
  show Z X 0 [some (zr 0 0), some (zi x)] [] z0
  refine z_iload_n (pc := 0) C dX9_isPaper_0 rfl ?_
  refine z_if_lt (pc := 1) 19 C dX9_isPaper_1 (by decide) (fun h1 => ?_) (fun h1 => ?_)
  · skip
    refine z_iconst (pc := 19) (v := 0) C dX9_isPaper_19 (by decide) ?_
    exact z_zret (pc := 20) C hr (by decide) dX9_isPaper_20 (⟨rfl, rfl⟩)
  · skip
    refine z_iload_n (pc := 4) C dX9_isPaper_4 rfl ?_
    refine z_aload_n (pc := 5) C dX9_isPaper_5 rfl ?_
    refine z_getR (pc := 6) C zf_X9_10 rfl rfl (by decide) dX9_isPaper_6 ?_
    refine z_getI (pc := 9) C zf_X9_119 rfl rfl (by decide) dX9_isPaper_9 ?_
    refine z_icmp_ge (pc := 12) 19 C dX9_isPaper_12 (by decide) (fun h12 => ?_) (fun h12 => absurd (by have h8 := h1; simp only [z32lt, z32le, z32eq, Int32.reduceToInt, Int32.toInt_zero, z0] at *; omega) h12)
    refine z_iconst (pc := 19) (v := 0) C dX9_isPaper_19 (by decide) ?_
    exact z_zret (pc := 20) C hr (by decide) dX9_isPaper_20 (⟨rfl, rfl⟩)
