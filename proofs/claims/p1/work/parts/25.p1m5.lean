theorem p_X10_image (d : Nat) (f : zM) : ZM (d + 1) yX10_image cX10_image 1 (some .int) [zr 25 0] (zmix f) (fun r _ => r = some (zi 1)) := ZM.mono (m_X10_image d (zmix f)) (fun r g h => h.1)
/-- a byte of a long, as the reference takes it -/
def zbm (w : Int64) (i : Int32) : Int64 := w >>> ((8 * i).toInt64 &&& 63) &&& 255
theorem zb255 (n i : Nat) (hn : 8 ≤ n) : (BitVec.ofNat n 255).getLsbD i = decide (i < 8) := by
  rw [BitVec.getLsbD_ofNat]
  by_cases hi : i < 8
  · rw [(by decide : ∀ q : Fin 8, Nat.testBit 255 q.val = true) ⟨i, hi⟩, decide_eq_true hi, decide_eq_true (show i < n by omega)]; rfl
  · rw [Nat.testBit_lt_two_pow (Nat.lt_of_lt_of_le (show 255 < 2 ^ 8 by decide) (Nat.pow_le_pow_right (by decide) (by omega)))]
    simp [hi]
theorem zb_s (b : BitVec 64) (s : Nat) (hs : s ≤ 56) : b.sshiftRight s &&& 255#64 = b >>> s &&& 255#64 := by
  apply BitVec.eq_of_getLsbD_eq
  intro i hi
  rw [BitVec.getLsbD_and, BitVec.getLsbD_and, zb255 64 i (by decide), BitVec.getLsbD_sshiftRight, BitVec.getLsbD_ushiftRight]
  by_cases h : i < 8
  · rw [if_pos (by omega)]
    simp [h]
    omega
  · simp [h]
theorem zb_u (b : BitVec 64) (s : Nat) : (b >>> s &&& 255#64).toNat = b.toNat >>> s % 256 := by
  rw [BitVec.toNat_and, BitVec.toNat_ushiftRight]
  exact Nat.and_two_pow_sub_one_eq_mod _ 8
theorem zb_t (b : BitVec 64) (s : Nat) : ((b >>> s).signExtend 32 &&& 255#32).toNat = b.toNat >>> s % 256 := by
  rw [BitVec.signExtend_eq_setWidth_of_le _ (by decide), BitVec.toNat_and, BitVec.toNat_setWidth, BitVec.toNat_ushiftRight]
  rw [show (255#32).toNat = 2 ^ 8 - 1 from rfl, Nat.and_two_pow_sub_one_eq_mod]
  exact Nat.mod_mod_of_dvd _ (by decide)
theorem zbm_bv (w : Int64) (i : Nat) (hi : i < 8) : (zbm w (nI i)).toBitVec = w.toBitVec.sshiftRight (8 * i) &&& 255#64 := by
  rcases (show i = 0 ∨ i = 1 ∨ i = 2 ∨ i = 3 ∨ i = 4 ∨ i = 5 ∨ i = 6 ∨ i = 7 by omega) with rfl | rfl | rfl | rfl | rfl | rfl | rfl | rfl <;> rfl
theorem zby_bv (w : Int64) (i : Nat) (hi : i < 8) : (zby w (nI i)).toBitVec = (w.toBitVec >>> (8 * i)).signExtend 32 &&& 255#32 := by
  rcases (show i = 0 ∨ i = 1 ∨ i = 2 ∨ i = 3 ∨ i = 4 ∨ i = 5 ∨ i = 6 ∨ i = 7 by omega) with rfl | rfl | rfl | rfl | rfl | rfl | rfl | rfl <;> rfl
theorem zbm_int (w : Int64) (i : Nat) (hi : i < 8) : (zbm w (nI i)).toInt = ((w.toBitVec.toNat >>> (8 * i) % 256 : Nat) : Int) := by
  show (zbm w (nI i)).toBitVec.toInt = _
  rw [zbm_bv w i hi, zb_s _ _ (by omega), BitVec.toInt_eq_toNat_of_lt (by rw [zb_u]; omega), zb_u]
theorem zby_int (w : Int64) (i : Nat) (hi : i < 8) : (zby w (nI i)).toInt = ((w.toBitVec.toNat >>> (8 * i) % 256 : Nat) : Int) := by
  show (zby w (nI i)).toBitVec.toInt = _
  rw [zby_bv w i hi, BitVec.toInt_eq_toNat_of_lt (by rw [zb_t]; omega), zb_t]
theorem zbm_ok (w : Int64) (i : Nat) (hi : i < 8) : zbyok w i ↔ (32 : Int64).toInt ≤ (zbm w (nI i)).toInt ∧ (zbm w (nI i)).toInt ≤ (126 : Int64).toInt := by
  unfold zbyok
  rw [zby_int w i hi, zbm_int w i hi]
  exact Iff.rfl
set_option maxRecDepth 100000 in
set_option maxHeartbeats 4000000 in
theorem typem_chk {X : zX} {d : Nat} {w : Int64} {N : Nat} {f : zM} (hN : N ≤ 8) (C : zC X cX10_type yX10_type.cls (d + 1)) (hn : znL X = 5)
    (kbad : ∀ (i : Nat) (o4 : Option zV), i < N → ¬ zbyok w i → Z X 47 [some (zr 25 0), some (zl w), none, some (zi (nI N)), o4] [] f)
    (kk : ∀ (o4 : Option zV), (∀ i, i < N → zbyok w i) → Z X 55 [some (zr 25 0), some (zl w), none, some (zi (nI N)), o4] [] f) :
    ∀ (m : Nat), m ≤ N → (∀ j, m ≤ j → j < N → zbyok w j) → Z X 19 [some (zr 25 0), some (zl w), none, some (zi (nI N)), some (zi (nI m + (-1)))] [] f := by
  intro m
  induction m with
  | zero =>
    intro hm hok
    refine z_iload (pc := 19) C dX10_type_19 rfl ?_
    exact z_if_lt (pc := 21) 55 C dX10_type_21 (by decide) (fun _ => kk _ (fun i hi => hok i (Nat.zero_le i) hi)) (fun h => absurd (by decide) h)
  | succ m ih =>
    intro hm hok
    rw [nI_dec]
    refine z_iload (pc := 19) C dX10_type_19 rfl ?_
    refine z_if_lt (pc := 21) 55 C dX10_type_21 (by decide) (fun h => absurd h (nI_pos (by omega))) (fun _ => ?_)
    refine z_lload_n (pc := 24) C dX10_type_24 rfl ?_
    refine z_bipush (pc := 25) (v := 8) C dX10_type_25 (by decide) ?_
    refine z_iload (pc := 27) C dX10_type_27 rfl ?_
    refine z_imul (pc := 29) C dX10_type_29 ?_
    refine z_lshr (pc := 30) C dX10_type_30 ?_
    refine z_ldc2 (pc := 31) C zw_1349 dX10_type_31 ?_
    refine z_land (pc := 34) C dX10_type_34 ?_
    refine z_ldc2 (pc := 35) C zw_1350 dX10_type_35 ?_
    refine z_ldc2 (pc := 38) C zw_1351 dX10_type_38 ?_
    refine z_callSb (pc := 41) C zk_X10_69 (m_X10_in _ _ _ _ _) rfl rfl (Nat.le_of_ble_eq_true rfl) dX10_type_41 (fun h41 => ?_) (fun h41 => ?_)
    · skip
      refine z_if_ne (pc := 44) 49 C dX10_type_44 (by decide) (fun h44 => ?_) (fun h44 => absurd h44 (of_decide_eq_true rfl))
      refine z_iinc (pc := 49) (v := -1) C dX10_type_49 rfl (by decide) (by rw [hn]; decide) rfl ?_
      refine z_goto (pc := 52) 19 C dX10_type_52 (by decide) ?_
      exact ih (by omega) (fun j hj hj2 => by
        by_cases hjm : j = m
        · subst hjm; exact (zbm_ok w j (by omega)).mpr h41
        · exact hok j (by omega) hj2)
    · skip
      refine z_if_ne (pc := 44) 49 C dX10_type_44 (by decide) (fun h44 => absurd (of_decide_eq_true rfl) h44) (fun h44 => ?_)
      exact kbad m _ (by omega) (fun hq => h41 ((zbm_ok w m (by omega)).mp hq))
set_option maxRecDepth 100000 in
set_option maxHeartbeats 4000000 in
theorem typem_put {X : zX} {d : Nat} {w : Int64} {N : Nat} (hN : N ≤ 8) (C : zC X cX10_type yX10_type.cls (d + 1)) (hn : znL X = 5)
    (kk : ∀ (f : zM) (o4 : Option zV), f 25 0 16 = nI N → Z X 116 [some (zr 25 0), some (zl w), none, some (zi (nI N)), o4] [] f) :
    ∀ (m : Nat) (f : zM), m ≤ N → f 25 0 16 = nI (N - m) → Z X 74 [some (zr 25 0), some (zl w), none, some (zi (nI N)), some (zi (nI m + (-1)))] [] f := by
  intro m
  induction m with
  | zero =>
    intro f hm hl
    refine z_iload (pc := 74) C dX10_type_74 rfl ?_
    exact z_if_lt (pc := 76) 116 C dX10_type_76 (by decide) (fun _ => kk f _ (by rw [hl, Nat.sub_zero])) (fun h => absurd (by decide) h)
  | succ m ih =>
    intro f hm hl
    rw [nI_dec]
    refine z_iload (pc := 74) C dX10_type_74 rfl ?_
    refine z_if_lt (pc := 76) 116 C dX10_type_76 (by decide) (fun h => absurd h (nI_pos (by omega))) (fun _ => ?_)
    refine z_aload_n (pc := 79) C dX10_type_79 rfl ?_
    refine z_getR (pc := 80) C zf_X10_40 rfl rfl (by decide) dX10_type_80 ?_
    refine z_aload_n (pc := 83) C dX10_type_83 rfl ?_
    refine z_getI (pc := 84) C zf_X10_208 rfl rfl (by decide) dX10_type_84 ?_
    refine z_lload_n (pc := 87) C dX10_type_87 rfl ?_
    refine z_bipush (pc := 88) (v := 8) C dX10_type_88 (by decide) ?_
    refine z_iload (pc := 90) C dX10_type_90 rfl ?_
    refine z_imul (pc := 92) C dX10_type_92 ?_
    refine z_lshr (pc := 93) C dX10_type_93 ?_
    refine z_ldc2 (pc := 94) C zw_1349 dX10_type_94 ?_
    refine z_land (pc := 97) C dX10_type_97 ?_
    refine z_l2i (pc := 98) C dX10_type_98 ?_
    refine z_iast (pc := 99) C rfl (by decide) (by rw [hl]; exact nI_in (by omega) (by omega)) dX10_type_99 ?_
    refine z_aload_n (pc := 100) C dX10_type_100 rfl ?_
    first | refine z_dupr (pc := 101) C dX10_type_101 ?_ | refine z_dupi (pc := 101) C dX10_type_101 ?_
    refine z_getI (pc := 102) C zf_X10_208 rfl rfl (by decide) dX10_type_102 ?_
    refine z_iconst (pc := 105) (v := 1) C dX10_type_105 (by decide) ?_
    refine z_iadd (pc := 106) C dX10_type_106 ?_
    refine z_putI (pc := 107) C zf_X10_208 zp_10_16 rfl rfl (by decide) dX10_type_107 ?_
    refine z_iinc (pc := 110) (v := -1) C dX10_type_110 rfl (by decide) (by rw [hn]; decide) rfl ?_
    refine z_goto (pc := 113) 74 C dX10_type_113 (by decide) ?_
    exact ih _ (by omega) (by rw [zup_same, zup_ne _ _ (by omega), hl, ← nI_succ]; congr 1; omega)
set_option maxRecDepth 100000 in
set_option maxHeartbeats 4000000 in
theorem p_X10_type (d : Nat) (f : zM) (w : Int64) (a2 : Int32) : ZM (d + 1) yX10_type cX10_type 5 (some .int) [zr 25 0, zl w, zi a2] (zmix f) (fun r _ => ((((1 ≤ a2.toInt ∧ a2.toInt ≤ 8) ∧ ∀ i, i < a2.toInt.toNat → zbyok w i) ∧ r = some (zi a2)) ∨ (¬ ((1 ≤ a2.toInt ∧ a2.toInt ≤ 8) ∧ ∀ i, i < a2.toInt.toNat → zbyok w i) ∧ r = some (zi (-1))))) := by
  refine ZM.intro (by decide +kernel) (Nat.le_of_ble_eq_true rfl) ?_
  intro X C hr hn
  show Z X 0 [some (zr 25 0), some (zl w), none, some (zi a2), none] [] (zmix f)
  refine z_iload_n (pc := 0) C dX10_type_0 rfl ?_
  refine z_i2l (pc := 1) C dX10_type_1 ?_
  refine z_lconst (pc := 2) (v := 1) C dX10_type_2 (by decide) ?_
  refine z_ldc2 (pc := 3) C zw_1348 dX10_type_3 ?_
  refine z_callSb (pc := 6) C zk_X10_69 (m_X10_in _ _ _ _ _) rfl rfl (Nat.le_of_ble_eq_true rfl) dX10_type_6 (fun h6 => ?_) (fun h6 => ?_)
  · skip
    refine z_if_ne (pc := 9) 14 C dX10_type_9 (by decide) (fun h9 => ?_) (fun h9 => absurd h9 (of_decide_eq_true rfl))
    have hb : 1 ≤ a2.toInt ∧ a2.toInt ≤ 8 := by rw [z64] at h6; exact h6
    obtain ⟨e1, e2⟩ := nI_ofI (x := a2) (by omega)
    generalize hNd : a2.toInt.toNat = N at e1 e2
    have hN : N ≤ 8 := by omega
    subst e1
    refine z_iload_n (pc := 14) C dX10_type_14 rfl ?_
    refine z_iconst (pc := 15) (v := 1) C dX10_type_15 (by decide) ?_
    refine z_isub (pc := 16) C dX10_type_16 ?_
    refine z_istore (pc := 17) C dX10_type_17 (by rw [hn]; decide) rfl ?_
    rw [show nI N - 1 = nI N + (-1) from by rw [Int32.sub_eq_add_neg]]
    refine typem_chk (w := w) (f := zmix f) hN C hn (fun i o4 hi hbad => ?_) (fun o4 hok => ?_) N (Nat.le_refl N) (fun j hj hj2 => absurd hj2 (by omega))
    · refine z_iconst (pc := 47) (v := -1) C dX10_type_47 (by decide) ?_
      exact z_iret (pc := 48) C hr dX10_type_48 (Or.inr ⟨fun hq => hbad (hq.2 i (by omega)), rfl⟩)
    · refine z_aload_n (pc := 55) C dX10_type_55 rfl ?_
      refine z_getI (pc := 56) C zf_X10_208 rfl rfl (by decide) dX10_type_56 ?_
      refine z_iload_n (pc := 59) C dX10_type_59 rfl ?_
      refine z_iadd (pc := 60) C dX10_type_60 ?_
      refine z_bipush (pc := 61) (v := 120) C dX10_type_61 (by decide) ?_
      refine z_icmp_le (pc := 63) 69 C dX10_type_63 (by decide) (fun _ => ?_) (fun h => absurd (by show (0 : Int32) + nI N ≤ nI 120; rw [Int32.zero_add]; exact nI_le (by omega) (by omega)) h)
      refine z_iload_n (pc := 69) C dX10_type_69 rfl ?_
      refine z_iconst (pc := 70) (v := 1) C dX10_type_70 (by decide) ?_
      refine z_isub (pc := 71) C dX10_type_71 ?_
      refine z_istore (pc := 72) C dX10_type_72 (by rw [hn]; decide) rfl ?_
      rw [show nI N - 1 = nI N + (-1) from by rw [Int32.sub_eq_add_neg]]
      refine typem_put (w := w) hN C hn (fun g o4 hl => ?_) N (zmix f) (Nat.le_refl N) (by rw [Nat.sub_self]; rfl)
      refine z_aload_n (pc := 116) C dX10_type_116 rfl ?_
      refine z_getI (pc := 117) C zf_X10_208 rfl rfl (by decide) dX10_type_117 ?_
      exact z_iret (pc := 120) C hr dX10_type_120 (Or.inl ⟨⟨hb, fun i hi => hok i (by omega)⟩, by rw [hl]⟩)
  · skip
    refine z_if_ne (pc := 9) 14 C dX10_type_9 (by decide) (fun h9 => absurd (of_decide_eq_true rfl) h9) (fun h9 => ?_)
    refine z_iconst (pc := 12) (v := -1) C dX10_type_12 (by decide) ?_
    exact z_iret (pc := 13) C hr dX10_type_13 (Or.inr ⟨fun hq => h6 (by rw [z64]; exact hq.1), rfl⟩)