/-! ===== p1: the reference: lands, image, type ===== -/
theorem ZM.mono {d : Nat} {y : MethodName} {cc : ByteArray} {nL : Nat} {rt : Option FieldType} {as : List zV} {f : zM} {Q Q' : Option zV → zM → Prop} (h : ZM d y cc nL rt as f Q) (hq : ∀ r g, Q r g → Q' r g) : ZM d y cc nL rt as f Q' := by
  intro l D cA ad lo hG p e ha hc hk s m args below hf happ hP hK
  obtain ⟨n, o, h1, h2, h3, ⟨r, f', e1, e2, e3, e4⟩, h5⟩ := h l D cA ad lo hG p e ha hc hk s m args below hf happ hP hK
  exact ⟨n, o, h1, h2, h3, ⟨r, f', e1, hq _ _ e2, e3, e4⟩, h5⟩
set_option maxRecDepth 100000 in
set_option maxHeartbeats 4000000 in
theorem m_X10_come (d : Nat) (f : zM) (a1 a2 a3 : Int32) (hi : vp_in a1 21504) (hq : vp_in (f 25 0 13) 21504) : ZM d yX10_come cX10_come 4 none [zr 25 0, zi a1, zi a2, zi a3] f (fun r g => r = none ∧ g = if f 32 0 a1.toNatClampNeg = -4 then zup (zup (zup (zup f 32 0 a1.toNatClampNeg a2) 33 0 a1.toNatClampNeg a3) 34 0 (f 25 0 13).toNatClampNeg a1) 25 0 13 (f 25 0 13 + 1) else f) := by
  refine ZM.intro (by decide +kernel) (Nat.le_of_ble_eq_true rfl) ?_
  intro X C hr hn
  show Z X 0 [some (zr 25 0), some (zi a1), some (zi a2), some (zi a3)] [] f
  refine z_aload_n (pc := 0) C dX10_come_0 rfl ?_
  refine z_getR (pc := 1) C zf_X10_28 rfl rfl (by decide) dX10_come_1 ?_
  refine z_iload_n (pc := 4) C dX10_come_4 rfl ?_
  refine z_iald (pc := 5) C rfl (by decide) hi dX10_come_5 ?_
  refine z_bipush (pc := 6) (v := -4) C dX10_come_6 (by decide) ?_
  refine z_icmp_ne (pc := 8) 45 C dX10_come_8 (by decide) (fun h8 => ?_) (fun h8 => ?_)
  · skip
    exact z_vret (pc := 45) C hr dX10_come_45 (⟨rfl, by first | (rw [if_neg h8]; done) | (rw [if_pos h8]; rfl)⟩)
  · skip
    refine z_aload_n (pc := 11) C dX10_come_11 rfl ?_
    refine z_getR (pc := 12) C zf_X10_28 rfl rfl (by decide) dX10_come_12 ?_
    refine z_iload_n (pc := 15) C dX10_come_15 rfl ?_
    refine z_iload_n (pc := 16) C dX10_come_16 rfl ?_
    refine z_iast (pc := 17) C rfl (by decide) hi dX10_come_17 ?_
    refine z_aload_n (pc := 18) C dX10_come_18 rfl ?_
    refine z_getR (pc := 19) C zf_X10_31 rfl rfl (by decide) dX10_come_19 ?_
    refine z_iload_n (pc := 22) C dX10_come_22 rfl ?_
    refine z_iload_n (pc := 23) C dX10_come_23 rfl ?_
    refine z_iast (pc := 24) C rfl (by decide) hi dX10_come_24 ?_
    refine z_aload_n (pc := 25) C dX10_come_25 rfl ?_
    refine z_getR (pc := 26) C zf_X10_34 rfl rfl (by decide) dX10_come_26 ?_
    refine z_aload_n (pc := 29) C dX10_come_29 rfl ?_
    refine z_getI (pc := 30) C zf_X10_168 rfl rfl (by decide) dX10_come_30 ?_
    refine z_iload_n (pc := 33) C dX10_come_33 rfl ?_
    refine z_iast (pc := 34) C rfl (by decide) hq dX10_come_34 ?_
    refine z_aload_n (pc := 35) C dX10_come_35 rfl ?_
    first | refine z_dupr (pc := 36) C dX10_come_36 ?_ | refine z_dupi (pc := 36) C dX10_come_36 ?_
    refine z_getI (pc := 37) C zf_X10_168 rfl rfl (by decide) dX10_come_37 ?_
    refine z_iconst (pc := 40) (v := 1) C dX10_come_40 (by decide) ?_
    refine z_iadd (pc := 41) C dX10_come_41 ?_
    refine z_putI (pc := 42) C zf_X10_168 zp_10_13 rfl rfl (by decide) dX10_come_42 ?_
    exact z_vret (pc := 45) C hr dX10_come_45 (⟨rfl, by first | (rw [if_neg h8]; done) | (rw [if_pos h8]; rfl)⟩)

def zmsk (n : Int32) : Int32 := (1 <<< (n &&& 31)) - 1
def zonl (a : Int32) : Int32 := if a < 0 then 0 else a + 1
def zcodeOf (a1 a2 a3 a4 n : Int32) : Int32 := ((2 * a1 + a2) * 7 + zonl a3) * 256 + (a4 &&& zmsk n)
set_option maxRecDepth 100000 in
set_option maxHeartbeats 4000000 in
theorem m_X10_codeOf (d : Nat) (f : zM) (a1 a2 a3 a4 : Int32) : ZM (d + 1) yX10_codeOf cX10_codeOf 5 (some .int) [zr 25 0, zi a1, zi a2, zi a3, zi a4] f (fun r g => r = some (zi (zcodeOf a1 a2 a3 a4 (f 25 0 2))) ∧ g = f) := by
  refine ZM.intro (by decide +kernel) (Nat.le_of_ble_eq_true rfl) ?_
  intro X C hr hn
  show Z X 0 [some (zr 25 0), some (zi a1), some (zi a2), some (zi a3), some (zi a4)] [] f
  refine z_iconst (pc := 0) (v := 2) C dX10_codeOf_0 (by decide) ?_
  refine z_iload_n (pc := 1) C dX10_codeOf_1 rfl ?_
  refine z_imul (pc := 2) C dX10_codeOf_2 ?_
  refine z_iload_n (pc := 3) C dX10_codeOf_3 rfl ?_
  refine z_iadd (pc := 4) C dX10_codeOf_4 ?_
  refine z_bipush (pc := 5) (v := 7) C dX10_codeOf_5 (by decide) ?_
  refine z_imul (pc := 7) C dX10_codeOf_7 ?_
  refine z_iload_n (pc := 8) C dX10_codeOf_8 rfl ?_
  refine z_if_ge (pc := 9) 16 C dX10_codeOf_9 (by decide) (fun h9 => ?_) (fun h9 => ?_)
  · skip
    refine z_iload_n (pc := 16) C dX10_codeOf_16 rfl ?_
    refine z_iconst (pc := 17) (v := 1) C dX10_codeOf_17 (by decide) ?_
    refine z_iadd (pc := 18) C dX10_codeOf_18 ?_
    refine z_iadd (pc := 19) C dX10_codeOf_19 ?_
    refine z_sipush (pc := 20) (v := 256) C dX10_codeOf_20 (by decide) ?_
    refine z_imul (pc := 23) C dX10_codeOf_23 ?_
    refine z_iload (pc := 24) C dX10_codeOf_24 rfl ?_
    refine z_aload_n (pc := 26) C dX10_codeOf_26 rfl ?_
    refine z_callVx (pc := 27) C zk_X10_131 (m_X10_allDeeds _ _) rfl rfl (by decide) rfl rfl (Nat.le_of_ble_eq_true rfl) dX10_codeOf_27 ?_
    simp only [Option.toList, List.cons_append, List.nil_append]
    refine z_iand (pc := 30) C dX10_codeOf_30 ?_
    refine z_iadd (pc := 31) C dX10_codeOf_31 ?_
    exact z_iret (pc := 32) C hr dX10_codeOf_32 (⟨by unfold zcodeOf zonl; first | (rw [if_pos (Int32.not_le.mp h9)]; rfl) | (rw [if_neg (Int32.not_lt.mpr h9)]; rfl), rfl⟩)
  · skip
    refine z_iconst (pc := 12) (v := 0) C dX10_codeOf_12 (by decide) ?_
    refine z_goto (pc := 13) 19 C dX10_codeOf_13 (by decide) ?_
    refine z_iadd (pc := 19) C dX10_codeOf_19 ?_
    refine z_sipush (pc := 20) (v := 256) C dX10_codeOf_20 (by decide) ?_
    refine z_imul (pc := 23) C dX10_codeOf_23 ?_
    refine z_iload (pc := 24) C dX10_codeOf_24 rfl ?_
    refine z_aload_n (pc := 26) C dX10_codeOf_26 rfl ?_
    refine z_callVx (pc := 27) C zk_X10_131 (m_X10_allDeeds _ _) rfl rfl (by decide) rfl rfl (Nat.le_of_ble_eq_true rfl) dX10_codeOf_27 ?_
    simp only [Option.toList, List.cons_append, List.nil_append]
    refine z_iand (pc := 30) C dX10_codeOf_30 ?_
    refine z_iadd (pc := 31) C dX10_codeOf_31 ?_
    exact z_iret (pc := 32) C hr dX10_codeOf_32 (⟨by unfold zcodeOf zonl; first | (rw [if_pos (Int32.not_le.mp h9)]; rfl) | (rw [if_neg (Int32.not_lt.mpr h9)]; rfl), rfl⟩)

theorem p_X10_come (d : Nat) (f : zM) (a1 a2 a3 : Int32) (hi : vp_in a1 21504) (hq : vp_in (f 25 0 13) 21504) (h8 : f 32 0 a1.toNatClampNeg = -4) : ZM d yX10_come cX10_come 4 none [zr 25 0, zi a1, zi a2, zi a3] f (fun r g => r = none ∧ g = zup (zup (zup (zup f 32 0 a1.toNatClampNeg a2) 33 0 a1.toNatClampNeg a3) 34 0 (f 25 0 13).toNatClampNeg a1) 25 0 13 (f 25 0 13 + 1)) := ZM.mono (m_X10_come d f a1 a2 a3 hi hq) (fun r g h => ⟨h.1, by rw [h.2, if_pos h8]⟩)
set_option maxRecDepth 100000 in
set_option maxHeartbeats 4000000 in
theorem fs_fill {X : zX} {d : Nat} {f : zM} (C : zC X cX10_findStates yX10_findStates.cls d) (hn : znL X = 11) (kk : Z X 27 [some (zr 25 0), some (zi (nI 21504)), none, none, none, none, none, none, none, none, none] [] (zfill f 32 0 21504 (-4))) :
    ∀ (m i : Nat), i + m = 21504 → Z X 6 [some (zr 25 0), some (zi (nI i)), none, none, none, none, none, none, none, none, none] [] (zfill f 32 0 i (-4)) := by
  intro m
  induction m with
  | zero =>
    intro i hi
    obtain rfl : i = 21504 := by omega
    refine z_iload_n (pc := 6) C dX10_findStates_6 rfl ?_
    refine z_sipush (pc := 7) (v := nI 21504) C dX10_findStates_7 (by decide) ?_
    exact z_icmp_ge (pc := 10) 27 C dX10_findStates_10 (by decide) (fun _ => kk) (fun h => absurd (Int32.le_refl _) h)
  | succ m ih =>
    intro i hi
    refine z_iload_n (pc := 6) C dX10_findStates_6 rfl ?_
    refine z_sipush (pc := 7) (v := nI 21504) C dX10_findStates_7 (by decide) ?_
    refine z_icmp_ge (pc := 10) 27 C dX10_findStates_10 (by decide) (fun h => absurd h (nI_ge (by omega) (by omega))) (fun _ => ?_)
    refine z_aload_n (pc := 13) C dX10_findStates_13 rfl ?_
    refine z_getR (pc := 14) C zf_X10_28 rfl rfl (by decide) dX10_findStates_14 ?_
    refine z_iload_n (pc := 17) C dX10_findStates_17 rfl ?_
    refine z_bipush (pc := 18) (v := -4) C dX10_findStates_18 (by decide) ?_
    refine z_iast (pc := 20) C rfl (by decide) (nI_in (N := 21504) (by omega) (by omega)) dX10_findStates_20 ?_
    rw [nI_clamp (by omega), zfill_s]
    refine z_iinc (pc := 21) (v := 1) C dX10_findStates_21 rfl (by decide) (by rw [hn]; decide) rfl ?_
    rw [← nI_succ]
    refine z_goto (pc := 24) 6 C dX10_findStates_24 (by decide) ?_
    exact ih (i + 1) (by omega)
set_option maxRecDepth 100000 in
set_option maxHeartbeats 4000000 in
theorem p_X10_codeOf (d : Nat) (f : zM) (a1 a2 a3 a4 : Int32) (h1 : a1 = 0) (h2 : a2 = 0) (h3 : a3 = -4) (h4 : f 25 0 2 = 0) : ZM (d + 1) yX10_codeOf cX10_codeOf 5 (some .int) [zr 25 0, zi a1, zi a2, zi a3, zi a4] f (fun r g => r = some (zi 0) ∧ g = f) := by
  refine ZM.intro (by decide +kernel) (Nat.le_of_ble_eq_true rfl) ?_
  intro X C hr hn
  show Z X 0 [some (zr 25 0), some (zi a1), some (zi a2), some (zi a3), some (zi a4)] [] f
  subst h1 h2 h3
  refine z_iconst (pc := 0) (v := 2) C dX10_codeOf_0 (by decide) ?_
  refine z_iload_n (pc := 1) C dX10_codeOf_1 rfl ?_
  refine z_imul (pc := 2) C dX10_codeOf_2 ?_
  refine z_iload_n (pc := 3) C dX10_codeOf_3 rfl ?_
  refine z_iadd (pc := 4) C dX10_codeOf_4 ?_
  refine z_bipush (pc := 5) (v := 7) C dX10_codeOf_5 (by decide) ?_
  refine z_imul (pc := 7) C dX10_codeOf_7 ?_
  refine z_iload_n (pc := 8) C dX10_codeOf_8 rfl ?_
  refine z_if_ge (pc := 9) 16 C dX10_codeOf_9 (by decide) (fun h9 => absurd h9 (by decide)) (fun h9 => ?_)
  refine z_iconst (pc := 12) (v := 0) C dX10_codeOf_12 (by decide) ?_
  refine z_goto (pc := 13) 19 C dX10_codeOf_13 (by decide) ?_
  refine z_iadd (pc := 19) C dX10_codeOf_19 ?_
  refine z_sipush (pc := 20) (v := 256) C dX10_codeOf_20 (by decide) ?_
  refine z_imul (pc := 23) C dX10_codeOf_23 ?_
  refine z_iload (pc := 24) C dX10_codeOf_24 rfl ?_
  refine z_aload_n (pc := 26) C dX10_codeOf_26 rfl ?_
  refine z_callVx (pc := 27) C zk_X10_131 (m_X10_allDeeds _ _) rfl rfl (by decide) rfl rfl (Nat.le_of_ble_eq_true rfl) dX10_codeOf_27 ?_
  simp only [Option.toList, List.cons_append, List.nil_append]
  refine z_iand (pc := 30) C dX10_codeOf_30 ?_
  refine z_iadd (pc := 31) C dX10_codeOf_31 ?_
  exact z_iret (pc := 32) C hr dX10_codeOf_32 (⟨by rw [h4]; congr 2; show _ + (a4 &&& 0) = 0; rw [Int32.and_zero]; decide, rfl⟩)

set_option maxRecDepth 100000 in
set_option maxHeartbeats 4000000 in
theorem p_X10_findStates (d : Nat) (f : zM) : ZM (d + 2) yX10_findStates cX10_findStates 11 none [zr 25 0] (zmix f) (fun r g => r = none ∧ g 25 0 13 = 1 ∧ g 34 0 0 = 0) := by
  refine ZM.intro (by decide +kernel) (Nat.le_of_ble_eq_true rfl) ?_
  intro X C hr hn
  show Z X 0 [some (zr 25 0), none, none, none, none, none, none, none, none, none, none] [] (zmix f)
  refine z_aload_n (pc := 0) C dX10_findStates_0 rfl ?_
  refine z_callVx (pc := 1) C zk_X10_151 (p_X10_findOpen _ _ rfl) rfl rfl (by decide) rfl rfl (Nat.le_of_ble_eq_true rfl) dX10_findStates_1 ?_
  simp only [Option.toList, List.cons_append, List.nil_append]
  refine z_iconst (pc := 4) (v := 0) C dX10_findStates_4 (by decide) ?_
  refine z_istore_n (pc := 5) C dX10_findStates_5 (by rw [hn]; decide) rfl ?_
  rw [← zfill_0 (zmix f) 32 0 (-4)]
  refine fs_fill C hn ?_ 21504 0 rfl
  refine z_aload_n (pc := 27) C dX10_findStates_27 rfl ?_
  refine z_iconst (pc := 28) (v := 0) C dX10_findStates_28 (by decide) ?_
  refine z_putI (pc := 29) C zf_X10_168 zp_10_13 rfl rfl (by decide) dX10_findStates_29 ?_
  refine z_aload_n (pc := 32) C dX10_findStates_32 rfl ?_
  refine z_aload_n (pc := 33) C dX10_findStates_33 rfl ?_
  refine z_getR (pc := 34) C zf_X10_22 rfl rfl (by decide) dX10_findStates_34 ?_
  refine z_iconst (pc := 37) (v := 1) C dX10_findStates_37 (by decide) ?_
  refine z_iald (pc := 38) C rfl (by decide) (zvp rfl) dX10_findStates_38 ?_
  refine z_aload_n (pc := 39) C dX10_findStates_39 rfl ?_
  refine z_getR (pc := 40) C zf_X10_22 rfl rfl (by decide) dX10_findStates_40 ?_
  refine z_iconst (pc := 43) (v := 3) C dX10_findStates_43 (by decide) ?_
  refine z_iald (pc := 44) C rfl (by decide) (zvp rfl) dX10_findStates_44 ?_
  refine z_aload_n (pc := 45) C dX10_findStates_45 rfl ?_
  refine z_getR (pc := 46) C zf_X10_22 rfl rfl (by decide) dX10_findStates_46 ?_
  refine z_iconst (pc := 49) (v := 4) C dX10_findStates_49 (by decide) ?_
  refine z_iald (pc := 50) C rfl (by decide) (zvp rfl) dX10_findStates_50 ?_
  refine z_aload_n (pc := 51) C dX10_findStates_51 rfl ?_
  refine z_getR (pc := 52) C zf_X10_22 rfl rfl (by decide) dX10_findStates_52 ?_
  refine z_iconst (pc := 55) (v := 5) C dX10_findStates_55 (by decide) ?_
  refine z_iald (pc := 56) C rfl (by decide) (zvp rfl) dX10_findStates_56 ?_
  refine z_callVx (pc := 57) C zk_X10_171 (p_X10_codeOf _ _ _ _ _ _ rfl rfl rfl rfl) rfl rfl (by decide) rfl rfl (Nat.le_of_ble_eq_true rfl) dX10_findStates_57 ?_
  simp only [Option.toList, List.cons_append, List.nil_append]
  refine z_istore_n (pc := 60) C dX10_findStates_60 (by rw [hn]; decide) rfl ?_
  refine z_aload_n (pc := 61) C dX10_findStates_61 rfl ?_
  refine z_iload_n (pc := 62) C dX10_findStates_62 rfl ?_
  refine z_iload_n (pc := 63) C dX10_findStates_63 rfl ?_
  refine z_bipush (pc := 64) (v := -4) C dX10_findStates_64 (by decide) ?_
  refine z_callVx (pc := 66) C zk_X10_175 (p_X10_come _ _ _ _ _ (zvp rfl) (zvp rfl) rfl) rfl rfl (by decide) rfl rfl (Nat.le_of_ble_eq_true rfl) dX10_findStates_66 ?_
  simp only [Option.toList, List.cons_append, List.nil_append]
  refine z_iconst (pc := 69) (v := 0) C dX10_findStates_69 (by decide) ?_
  refine z_istore_n (pc := 70) C dX10_findStates_70 (by rw [hn]; decide) rfl ?_
  refine z_iload_n (pc := 71) C dX10_findStates_71 rfl ?_
  refine z_aload_n (pc := 72) C dX10_findStates_72 rfl ?_
  refine z_getI (pc := 73) C zf_X10_168 rfl rfl (by decide) dX10_findStates_73 ?_
  refine z_icmp_ge (pc := 76) 237 C dX10_findStates_76 (by decide) (fun h76 => absurd h76 (of_decide_eq_true rfl)) (fun h76 => ?_)
  refine z_aload_n (pc := 79) C dX10_findStates_79 rfl ?_
  refine z_getR (pc := 80) C zf_X10_34 rfl rfl (by decide) dX10_findStates_80 ?_
  refine z_iload_n (pc := 83) C dX10_findStates_83 rfl ?_
  refine z_iald (pc := 84) C rfl (by decide) (zvp rfl) dX10_findStates_84 ?_
  refine z_istore_n (pc := 85) C dX10_findStates_85 (by rw [hn]; decide) rfl ?_
  refine z_iload_n (pc := 86) C dX10_findStates_86 rfl ?_
  refine z_sipush (pc := 87) (v := 256) C dX10_findStates_87 (by decide) ?_
  refine z_irem (pc := 90) C dX10_findStates_90 (by decide) ?_
  refine z_istore (pc := 91) C dX10_findStates_91 (by rw [hn]; decide) rfl ?_
  refine z_iload_n (pc := 93) C dX10_findStates_93 rfl ?_
  refine z_sipush (pc := 94) (v := 256) C dX10_findStates_94 (by decide) ?_
  refine z_idiv (pc := 97) C dX10_findStates_97 (by decide) ?_
  refine z_bipush (pc := 98) (v := 7) C dX10_findStates_98 (by decide) ?_
  refine z_irem (pc := 100) C dX10_findStates_100 (by decide) ?_
  refine z_iconst (pc := 101) (v := 1) C dX10_findStates_101 (by decide) ?_
  refine z_isub (pc := 102) C dX10_findStates_102 ?_
  refine z_istore (pc := 103) C dX10_findStates_103 (by rw [hn]; decide) rfl ?_
  refine z_iload_n (pc := 105) C dX10_findStates_105 rfl ?_
  refine z_sipush (pc := 106) (v := 1792) C dX10_findStates_106 (by decide) ?_
  refine z_idiv (pc := 109) C dX10_findStates_109 (by decide) ?_
  refine z_iconst (pc := 110) (v := 2) C dX10_findStates_110 (by decide) ?_
  refine z_irem (pc := 111) C dX10_findStates_111 (by decide) ?_
  refine z_istore (pc := 112) C dX10_findStates_112 (by rw [hn]; decide) rfl ?_
  refine z_iload_n (pc := 114) C dX10_findStates_114 rfl ?_
  refine z_sipush (pc := 115) (v := 3584) C dX10_findStates_115 (by decide) ?_
  refine z_idiv (pc := 118) C dX10_findStates_118 (by decide) ?_
  refine z_istore (pc := 119) C dX10_findStates_119 (by rw [hn]; decide) rfl ?_
  refine z_iconst (pc := 121) (v := 0) C dX10_findStates_121 (by decide) ?_
  refine z_istore (pc := 122) C dX10_findStates_122 (by rw [hn]; decide) rfl ?_
  refine z_iload (pc := 124) C dX10_findStates_124 rfl ?_
  refine z_aload_n (pc := 126) C dX10_findStates_126 rfl ?_
  refine z_getI (pc := 127) C zf_X10_77 rfl rfl (by decide) dX10_findStates_127 ?_
  refine z_icmp_ge (pc := 130) 231 C dX10_findStates_130 (by decide) (fun h130 => ?_) (fun h130 => absurd (of_decide_eq_true rfl) h130)
  refine z_iinc (pc := 231) (v := 1) C dX10_findStates_231 rfl (by decide) (by rw [hn]; decide) rfl ?_
  refine z_goto (pc := 234) 71 C dX10_findStates_234 (by decide) ?_
  refine z_iload_n (pc := 71) C dX10_findStates_71 rfl ?_
  refine z_aload_n (pc := 72) C dX10_findStates_72 rfl ?_
  refine z_getI (pc := 73) C zf_X10_168 rfl rfl (by decide) dX10_findStates_73 ?_
  refine z_icmp_ge (pc := 76) 237 C dX10_findStates_76 (by decide) (fun h76 => ?_) (fun h76 => absurd (of_decide_eq_true rfl) h76)
  exact z_vret (pc := 237) C hr dX10_findStates_237 (⟨rfl, rfl, rfl⟩)

set_option maxRecDepth 100000 in
set_option maxHeartbeats 4000000 in
theorem p_X10_lands (d : Nat) (f : zM)  : ZM (d + 3) yX10_lands cX10_lands 3 (some .int) [zr 25 0] (zmix f) (fun r _ => r = some (zi (1))) := by
  refine ZM.intro (by decide +kernel) (Nat.le_of_ble_eq_true rfl) ?_
  intro X C hr hn
  show Z X 0 [some (zr 25 0), none, none] [] (zmix f)
  refine z_aload_n (pc := 0) C dX10_lands_0 rfl ?_
  refine z_callV (pc := 1) C zk_X10_179 (p_X10_findStates _ _) rfl rfl (by decide) rfl rfl (Nat.le_of_ble_eq_true rfl) dX10_lands_1 (fun r1 g1 q1 => ?_)
  obtain ⟨rfl, hg1, hh1⟩ := q1
  simp only [Option.toList, List.cons_append, List.nil_append]
  refine z_iconst (pc := 4) (v := 0) C dX10_lands_4 (by decide) ?_
  refine z_istore_n (pc := 5) C dX10_lands_5 (by rw [hn]; decide) rfl ?_
  refine z_iconst (pc := 6) (v := 0) C dX10_lands_6 (by decide) ?_
  refine z_istore_n (pc := 7) C dX10_lands_7 (by rw [hn]; decide) rfl ?_
  refine z_iload_n (pc := 8) C dX10_lands_8 rfl ?_
  refine z_aload_n (pc := 9) C dX10_lands_9 rfl ?_
  refine z_getI (pc := 10) C zf_X10_168 rfl rfl (by decide) dX10_lands_10 ?_
  refine z_icmp_ge (pc := 13) 37 C dX10_lands_13 (by decide) (fun h13 => absurd h13 (by rw [hg1]; decide)) (fun h13 => ?_)
  refine z_iload_n (pc := 16) C dX10_lands_16 rfl ?_
  refine z_iconst (pc := 17) (v := 1) C dX10_lands_17 (by decide) ?_
  refine z_aload_n (pc := 18) C dX10_lands_18 rfl ?_
  refine z_getR (pc := 19) C zf_X10_34 rfl rfl (by decide) dX10_lands_19 ?_
  refine z_iload_n (pc := 22) C dX10_lands_22 rfl ?_
  refine z_iald (pc := 23) C rfl (by decide) (zvp rfl) dX10_lands_23 ?_
  refine z_sipush (pc := 24) (v := 3584) C dX10_lands_24 (by decide) ?_
  refine z_idiv (pc := 27) C dX10_lands_27 (by decide) ?_
  refine z_ishl (pc := 28) C dX10_lands_28 ?_
  refine z_ior (pc := 29) C dX10_lands_29 ?_
  refine z_istore_n (pc := 30) C dX10_lands_30 (by rw [hn]; decide) rfl ?_
  refine z_iinc (pc := 31) (v := 1) C dX10_lands_31 rfl (by decide) (by rw [hn]; decide) rfl ?_
  refine z_goto (pc := 34) 8 C dX10_lands_34 (by decide) ?_
  refine z_iload_n (pc := 8) C dX10_lands_8 rfl ?_
  refine z_aload_n (pc := 9) C dX10_lands_9 rfl ?_
  refine z_getI (pc := 10) C zf_X10_168 rfl rfl (by decide) dX10_lands_10 ?_
  refine z_icmp_ge (pc := 13) 37 C dX10_lands_13 (by decide) (fun h13 => ?_) (fun h13 => absurd (by rw [hg1]; decide) h13)
  refine z_iload_n (pc := 37) C dX10_lands_37 rfl ?_
  exact z_iret (pc := 38) C hr dX10_lands_38 (by rw [show g1 34 0 (Int32.toNatClampNeg 0) = 0 from hh1]; rfl)

/-- a row of the reference, i of its items kept -/
def zkp (f : zM) (k a i : Nat) : zM := fun x y z => if x = 25 ∧ y = 0 ∧ z = 24 then nI (a + i) else if x = 39 ∧ y = 0 ∧ a ≤ z ∧ z < a + i then f k 0 (z - a) else f x y z
theorem zkp_0 {f : zM} {k a : Nat} (h : f 25 0 24 = nI a) : zkp f k a 0 = f := by
  funext x y z
  unfold zkp
  split
  · rename_i hq
    obtain ⟨rfl, rfl, rfl⟩ := hq
    exact h.symm
  · rw [if_neg (by omega)]
theorem zkp_s {f : zM} {k a i : Nat} (h1 : k ≠ 25) (h2 : k ≠ 39) : zup (zup (zkp f k a i) 39 0 (a + i) (zkp f k a i k 0 i)) 25 0 24 (nI (a + i) + 1) = zkp f k a (i + 1) := by
  have e : zkp f k a i k 0 i = f k 0 i := by
    unfold zkp
    rw [if_neg (by omega), if_neg (by omega)]
  rw [e]
  funext x y z
  unfold zup zkp
  by_cases q1 : x = 25 ∧ y = 0 ∧ z = 24
  · rw [if_pos q1, if_pos q1, ← nI_succ]; rfl
  · rw [if_neg q1, if_neg q1]
    by_cases q2 : x = 39 ∧ y = 0 ∧ z = a + i
    · rw [if_pos q2, if_neg q1, if_pos (by omega), show z - a = i by omega]
    · rw [if_neg q2, if_neg q1]
      by_cases q3 : x = 39 ∧ y = 0 ∧ a ≤ z ∧ z < a + i
      · rw [if_pos q3, if_pos (by omega)]
      · rw [if_neg q3, if_neg (by omega)]
set_option maxRecDepth 100000 in
set_option maxHeartbeats 4000000 in
theorem keep_loop {X : zX} {d : Nat} {f : zM} {k a len : Nat} (C : zC X cX10_keep yX10_keep.cls d) (hn : znL X = 3) (h9 : 0 < zcnt k) (hs : zshp k = .inr (0, len, none)) (h1 : k ≠ 25) (h2 : k ≠ 39) (ha : a + len ≤ 320) (kk : Z X 36 [some (zr 25 0), some (zr k 0), some (zi (nI len))] [] (zkp f k a len)) :
    ∀ m i : Nat, i + m = len → Z X 2 [some (zr 25 0), some (zr k 0), some (zi (nI i))] [] (zkp f k a i) := by
  intro m
  induction m with
  | zero =>
    intro i hi
    obtain rfl : i = len := by omega
    refine z_iload_n (pc := 2) C dX10_keep_2 rfl ?_
    refine z_aload_n (pc := 3) C dX10_keep_3 rfl ?_
    refine z_alenI (pc := 4) C hs h9 rfl dX10_keep_4 ?_
    exact z_icmp_ge (pc := 5) 36 C dX10_keep_5 (by decide) (fun _ => kk) (fun h => absurd (Int32.le_refl _) h)
  | succ m ih =>
    intro i hi
    refine z_iload_n (pc := 2) C dX10_keep_2 rfl ?_
    refine z_aload_n (pc := 3) C dX10_keep_3 rfl ?_
    refine z_alenI (pc := 4) (v := nI len) C hs h9 rfl dX10_keep_4 ?_
    refine z_icmp_ge (pc := 5) 36 C dX10_keep_5 (by decide) (fun h => absurd h (nI_ge (by omega) (by omega))) (fun _ => ?_)
    have e1 : zkp f k a i 25 0 24 = nI (a + i) := by unfold zkp; rw [if_pos ⟨rfl, rfl, rfl⟩]
    refine z_aload_n (pc := 8) C dX10_keep_8 rfl ?_
    refine z_getR (pc := 9) C zf_X10_49 rfl rfl (by decide) dX10_keep_9 ?_
    refine z_aload_n (pc := 12) C dX10_keep_12 rfl ?_
    refine z_getI (pc := 13) C zf_X10_252 rfl rfl (by decide) dX10_keep_13 ?_
    refine z_aload_n (pc := 16) C dX10_keep_16 rfl ?_
    refine z_iload_n (pc := 17) C dX10_keep_17 rfl ?_
    refine z_iald (pc := 18) C hs h9 (nI_in (by omega) (by omega)) dX10_keep_18 ?_
    rw [e1, nI_clamp (show i < 2 ^ 31 by omega)]
    refine z_iast (pc := 19) C rfl (by decide) (nI_in (N := 320) (by omega) (by omega)) dX10_keep_19 ?_
    refine z_aload_n (pc := 20) C dX10_keep_20 rfl ?_
    refine z_dupr (pc := 21) C dX10_keep_21 ?_
    refine z_getI (pc := 22) C zf_X10_252 rfl rfl (by decide) dX10_keep_22 ?_
    refine z_iconst (pc := 25) (v := 1) C dX10_keep_25 (by decide) ?_
    refine z_iadd (pc := 26) C dX10_keep_26 ?_
    refine z_putI (pc := 27) C zf_X10_252 zp_10_24 rfl rfl (by decide) dX10_keep_27 ?_
    rw [zup_ne _ _ (by omega), e1, nI_clamp (show a + i < 2 ^ 31 by omega), zkp_s h1 h2]
    refine z_iinc (pc := 30) (v := 1) C dX10_keep_30 rfl (by decide) (by rw [hn]; decide) rfl ?_
    rw [← nI_succ]
    refine z_goto (pc := 33) 2 C dX10_keep_33 (by decide) ?_
    exact ih (i + 1) (by omega)
set_option maxRecDepth 100000 in
set_option maxHeartbeats 4000000 in
theorem m_X10_keep (d : Nat) (f : zM) (k a len : Nat) (h9 : 0 < zcnt k) (hs : zshp k = .inr (0, len, none)) (h1 : k ≠ 25) (h2 : k ≠ 39) (ha : a + len ≤ 320) (h0 : f 25 0 24 = nI a) : ZM d yX10_keep cX10_keep 3 none [zr 25 0, zr k 0] f (fun r g => r = none ∧ g = zkp f k a len) := by
  refine ZM.intro (by decide +kernel) (Nat.le_of_ble_eq_true rfl) ?_
  intro X C hr hn
  show Z X 0 [some (zr 25 0), some (zr k 0), none] [] f
  refine z_iconst (pc := 0) (v := 0) C dX10_keep_0 (by decide) ?_
  refine z_istore_n (pc := 1) C dX10_keep_1 (by rw [hn]; decide) rfl ?_
  have := keep_loop (f := f) C hn h9 hs h1 h2 ha (z_vret (pc := 36) C hr dX10_keep_36 ⟨rfl, rfl⟩) len 0 (by omega)
  rw [zkp_0 h0] at this
  exact this
def zim (f : zM) : zM := zup (zkp (zkp (zkp (zkp (zkp (zkp (zup (zup (zup (zup (zup f 25 0 24 0) 40 0 0 (f 25 0 0)) 40 0 1 (f 25 0 2)) 40 0 2 (f 25 0 4)) 40 0 3 (f 25 0 6)) 40 0 4) 26 4 144) 27 148 40) 28 188 96) 29 284 24) 30 308 7) 25 0 22 1
set_option maxRecDepth 100000 in
set_option maxHeartbeats 4000000 in
theorem m_X10_image (d : Nat) (f : zM) : ZM (d + 1) yX10_image cX10_image 1 (some .int) [zr 25 0] f (fun r g => r = some (zi 1) ∧ g = zim f) := by
  refine ZM.intro (by decide +kernel) (Nat.le_of_ble_eq_true rfl) ?_
  intro X C hr hn
  show Z X 0 [some (zr 25 0)] [] f
  refine z_aload_n (pc := 0) C dX10_image_0 rfl ?_
  refine z_iconst (pc := 1) (v := 0) C dX10_image_1 (by decide) ?_
  refine z_putI (pc := 2) C zf_X10_252 zp_10_24 rfl rfl (by decide) dX10_image_2 ?_
  refine z_aload_n (pc := 5) C dX10_image_5 rfl ?_
  refine z_getR (pc := 6) C zf_X10_52 rfl rfl (by decide) dX10_image_6 ?_
  refine z_iconst (pc := 9) (v := 0) C dX10_image_9 (by decide) ?_
  refine z_aload_n (pc := 10) C dX10_image_10 rfl ?_
  refine z_getI (pc := 11) C zf_X10_80 rfl rfl (by decide) dX10_image_11 ?_
  refine z_iast (pc := 14) C rfl (by decide) (zvp rfl) dX10_image_14 ?_
  refine z_aload_n (pc := 15) C dX10_image_15 rfl ?_
  refine z_getR (pc := 16) C zf_X10_52 rfl rfl (by decide) dX10_image_16 ?_
  refine z_iconst (pc := 19) (v := 1) C dX10_image_19 (by decide) ?_
  refine z_aload_n (pc := 20) C dX10_image_20 rfl ?_
  refine z_getI (pc := 21) C zf_X10_73 rfl rfl (by decide) dX10_image_21 ?_
  refine z_iast (pc := 24) C rfl (by decide) (zvp rfl) dX10_image_24 ?_
  refine z_aload_n (pc := 25) C dX10_image_25 rfl ?_
  refine z_getR (pc := 26) C zf_X10_52 rfl rfl (by decide) dX10_image_26 ?_
  refine z_iconst (pc := 29) (v := 2) C dX10_image_29 (by decide) ?_
  refine z_aload_n (pc := 30) C dX10_image_30 rfl ?_
  refine z_getI (pc := 31) C zf_X10_77 rfl rfl (by decide) dX10_image_31 ?_
  refine z_iast (pc := 34) C rfl (by decide) (zvp rfl) dX10_image_34 ?_
  refine z_aload_n (pc := 35) C dX10_image_35 rfl ?_
  refine z_getR (pc := 36) C zf_X10_52 rfl rfl (by decide) dX10_image_36 ?_
  refine z_iconst (pc := 39) (v := 3) C dX10_image_39 (by decide) ?_
  refine z_aload_n (pc := 40) C dX10_image_40 rfl ?_
  refine z_getI (pc := 41) C zf_X10_126 rfl rfl (by decide) dX10_image_41 ?_
  refine z_iast (pc := 44) C rfl (by decide) (zvp rfl) dX10_image_44 ?_
  refine z_aload_n (pc := 45) C dX10_image_45 rfl ?_
  refine z_aload_n (pc := 46) C dX10_image_46 rfl ?_
  refine z_getR (pc := 47) C zf_X10_52 rfl rfl (by decide) dX10_image_47 ?_
  refine z_callVx (pc := 50) C zk_X10_255 (m_X10_keep _ _ 40 0 4 (by decide) rfl (by decide) (by decide) (by decide) rfl) rfl rfl (by decide) rfl rfl (Nat.le_of_ble_eq_true rfl) dX10_image_50 ?_
  simp only [Option.toList, List.cons_append, List.nil_append]
  refine z_aload_n (pc := 53) C dX10_image_53 rfl ?_
  refine z_aload_n (pc := 54) C dX10_image_54 rfl ?_
  refine z_getR (pc := 55) C zf_X10_7 rfl rfl (by decide) dX10_image_55 ?_
  refine z_callVx (pc := 58) C zk_X10_255 (m_X10_keep _ _ 26 4 144 (by decide) rfl (by decide) (by decide) (by decide) rfl) rfl rfl (by decide) rfl rfl (Nat.le_of_ble_eq_true rfl) dX10_image_58 ?_
  simp only [Option.toList, List.cons_append, List.nil_append]
  refine z_aload_n (pc := 61) C dX10_image_61 rfl ?_
  refine z_aload_n (pc := 62) C dX10_image_62 rfl ?_
  refine z_getR (pc := 63) C zf_X10_13 rfl rfl (by decide) dX10_image_63 ?_
  refine z_callVx (pc := 66) C zk_X10_255 (m_X10_keep _ _ 27 148 40 (by decide) rfl (by decide) (by decide) (by decide) rfl) rfl rfl (by decide) rfl rfl (Nat.le_of_ble_eq_true rfl) dX10_image_66 ?_
  simp only [Option.toList, List.cons_append, List.nil_append]
  refine z_aload_n (pc := 69) C dX10_image_69 rfl ?_
  refine z_aload_n (pc := 70) C dX10_image_70 rfl ?_
  refine z_getR (pc := 71) C zf_X10_16 rfl rfl (by decide) dX10_image_71 ?_
  refine z_callVx (pc := 74) C zk_X10_255 (m_X10_keep _ _ 28 188 96 (by decide) rfl (by decide) (by decide) (by decide) rfl) rfl rfl (by decide) rfl rfl (Nat.le_of_ble_eq_true rfl) dX10_image_74 ?_
  simp only [Option.toList, List.cons_append, List.nil_append]
  refine z_aload_n (pc := 77) C dX10_image_77 rfl ?_
  refine z_aload_n (pc := 78) C dX10_image_78 rfl ?_
  refine z_getR (pc := 79) C zf_X10_19 rfl rfl (by decide) dX10_image_79 ?_
  refine z_callVx (pc := 82) C zk_X10_255 (m_X10_keep _ _ 29 284 24 (by decide) rfl (by decide) (by decide) (by decide) rfl) rfl rfl (by decide) rfl rfl (Nat.le_of_ble_eq_true rfl) dX10_image_82 ?_
  simp only [Option.toList, List.cons_append, List.nil_append]
  refine z_aload_n (pc := 85) C dX10_image_85 rfl ?_
  refine z_aload_n (pc := 86) C dX10_image_86 rfl ?_
  refine z_getR (pc := 87) C zf_X10_22 rfl rfl (by decide) dX10_image_87 ?_
  refine z_callVx (pc := 90) C zk_X10_255 (m_X10_keep _ _ 30 308 7 (by decide) rfl (by decide) (by decide) (by decide) rfl) rfl rfl (by decide) rfl rfl (Nat.le_of_ble_eq_true rfl) dX10_image_90 ?_
  simp only [Option.toList, List.cons_append, List.nil_append]
  refine z_aload_n (pc := 93) C dX10_image_93 rfl ?_
  refine z_iconst (pc := 94) (v := 1) C dX10_image_94 (by decide) ?_
  refine z_putZ (pc := 95) C zf_X10_259 zp_10_22 (by decide) rfl rfl (by decide) dX10_image_95 ?_
  refine z_iconst (pc := 98) (v := 1) C dX10_image_98 (by decide) ?_
  exact z_iret (pc := 99) C hr dX10_image_99 (⟨rfl, rfl⟩)
