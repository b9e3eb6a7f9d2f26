/-- a byte of a long, as the class takes it -/
def zby (w : Int64) (i : Int32) : Int32 := (w.toUInt64 >>> ((8 * i).toInt64.toUInt64 &&& Int64.toUInt64 63)).toInt64.toInt32 &&& 255
def zbyok (w : Int64) (i : Nat) : Prop := 32 ≤ (zby w (nI i)).toInt ∧ (zby w (nI i)).toInt ≤ 126
set_option maxRecDepth 100000 in
set_option maxHeartbeats 4000000 in
theorem m_X9_byteOf (d : Nat) (f : zM) (w : Int64) (i : Int32) : ZM d yX9_byteOf cX9_byteOf 3 (some .int) [zl w, zi i] f (fun r g => r = some (zi (zby w i)) ∧ g = f) := by
  refine ZM.intro (by decide +kernel) (Nat.le_of_ble_eq_true rfl) ?_
  intro X C hr hn
  show Z X 0 [some (zl w), none, some (zi i)] [] f
  refine z_lload_n (pc := 0) C dX9_byteOf_0 rfl ?_
  refine z_bipush (pc := 1) (v := 8) C dX9_byteOf_1 (by decide) ?_
  refine z_iload_n (pc := 3) C dX9_byteOf_3 rfl ?_
  refine z_imul (pc := 4) C dX9_byteOf_4 ?_
  refine z_lushr (pc := 5) C dX9_byteOf_5 ?_
  refine z_l2i (pc := 6) C dX9_byteOf_6 ?_
  refine z_sipush (pc := 7) (v := 255) C dX9_byteOf_7 (by decide) ?_
  refine z_iand (pc := 10) C dX9_byteOf_10 ?_
  exact z_iret (pc := 11) C hr dX9_byteOf_11 (⟨rfl, rfl⟩)

set_option maxRecDepth 100000 in
set_option maxHeartbeats 4000000 in
theorem m_X7_write (d : Nat) (f : zM) (v : Int32) (h0 : ¬ 120 ≤ f 18 0 3) (hi : vp_in (f 18 0 3) 120) : ZM d yX7_write cX7_write 2 none [zr 18 0, zi v] f (fun r g => r = none ∧ g = zup (zup f 19 0 (f 18 0 3).toNatClampNeg (vp_nar .char v)) 18 0 3 (f 18 0 3 + 1)) := by
  refine ZM.intro (by decide +kernel) (Nat.le_of_ble_eq_true rfl) ?_
  intro X C hr hn
  show Z X 0 [some (zr 18 0), some (zi v)] [] f
  refine z_aload_n (pc := 0) C dX7_write_0 rfl ?_
  refine z_getI (pc := 1) C zf_X7_29 rfl rfl (by decide) dX7_write_1 ?_
  refine z_bipush (pc := 4) (v := 120) C dX7_write_4 (by decide) ?_
  refine z_icmp_ge (pc := 6) 29 C dX7_write_6 (by decide) (fun h6 => absurd h6 h0) (fun h6 => ?_)
  refine z_aload_n (pc := 9) C dX7_write_9 rfl ?_
  refine z_getR (pc := 10) C zf_X7_9 rfl rfl (by decide) dX7_write_10 ?_
  refine z_aload_n (pc := 13) C dX7_write_13 rfl ?_
  refine z_getI (pc := 14) C zf_X7_29 rfl rfl (by decide) dX7_write_14 ?_
  refine z_iload_n (pc := 17) C dX7_write_17 rfl ?_
  refine z_cast (pc := 18) C rfl (by decide) hi dX7_write_18 ?_
  refine z_aload_n (pc := 19) C dX7_write_19 rfl ?_
  first | refine z_dupr (pc := 20) C dX7_write_20 ?_ | refine z_dupi (pc := 20) C dX7_write_20 ?_
  refine z_getI (pc := 21) C zf_X7_29 rfl rfl (by decide) dX7_write_21 ?_
  refine z_iconst (pc := 24) (v := 1) C dX7_write_24 (by decide) ?_
  refine z_iadd (pc := 25) C dX7_write_25 ?_
  refine z_putI (pc := 26) C zf_X7_29 zp_7_3 rfl rfl (by decide) dX7_write_26 ?_
  exact z_vret (pc := 29) C hr dX7_write_29 (⟨rfl, by rw [zup_ne _ _ (by omega)]⟩)

set_option maxRecDepth 100000 in
set_option maxHeartbeats 4000000 in
theorem type_chk {X : zX} {d : Nat} {w : Int64} {N : Nat} {f : zM} (hN : N ≤ 8) (C : zC X cX9_type yX9_type.cls (d + 1)) (hn : znL X = 6)
    (kbad : ∀ (i : Nat) (o4 o5 : Option zV), i < N → ¬ zbyok w i → Z X 44 [some (zr 0 0), some (zl w), none, some (zi (nI N)), o4, o5] [] f)
    (kk : ∀ (o4 o5 : Option zV), (∀ i, i < N → zbyok w i) → Z X 52 [some (zr 0 0), some (zl w), none, some (zi (nI N)), o4, o5] [] f) :
    ∀ (m i : Nat) (o5 : Option zV), i + m = N → (∀ j, j < i → zbyok w j) → Z X 16 [some (zr 0 0), some (zl w), none, some (zi (nI N)), some (zi (nI i)), o5] [] f := by
  intro m
  induction m with
  | zero =>
    intro i o5 hi hok
    obtain rfl : i = N := by omega
    refine z_iload (pc := 16) C dX9_type_16 rfl ?_
    refine z_iload_n (pc := 18) C dX9_type_18 rfl ?_
    exact z_icmp_ge (pc := 19) 52 C dX9_type_19 (by decide) (fun _ => kk _ o5 hok) (fun h => absurd (Int32.le_refl _) h)
  | succ m ih =>
    intro i o5 hi hok
    refine z_iload (pc := 16) C dX9_type_16 rfl ?_
    refine z_iload_n (pc := 18) C dX9_type_18 rfl ?_
    refine z_icmp_ge (pc := 19) 52 C dX9_type_19 (by decide) (fun h => absurd h (nI_ge (by omega) (by omega))) (fun _ => ?_)
    refine z_lload_n (pc := 22) C dX9_type_22 rfl ?_
    refine z_iload (pc := 23) C dX9_type_23 rfl ?_
    refine z_callSx (pc := 25) C zk_X9_104 (m_X9_byteOf _ _ _ _) rfl rfl (Nat.le_of_ble_eq_true rfl) dX9_type_25 ?_
    simp only [Option.toList, List.cons_append, List.nil_append]
    refine z_istore (pc := 28) C dX9_type_28 (by rw [hn]; decide) rfl ?_
    refine z_iload (pc := 30) C dX9_type_30 rfl ?_
    refine z_bipush (pc := 32) (v := 32) C dX9_type_32 (by decide) ?_
    refine z_icmp_lt (pc := 34) 44 C dX9_type_34 (by decide) (fun h34 => ?_) (fun h34 => ?_)
    · skip
      exact kbad i _ _ (by omega) (by intro hq; unfold zbyok at hq; simp only [z32lt, z32le, z32eq, Int32.reduceToInt, Int32.toInt_zero, Int32.toInt_one] at *; omega)
    · skip
      refine z_iload (pc := 37) C dX9_type_37 rfl ?_
      refine z_bipush (pc := 39) (v := 126) C dX9_type_39 (by decide) ?_
      refine z_icmp_le (pc := 41) 46 C dX9_type_41 (by decide) (fun h41 => ?_) (fun h41 => ?_)
      · skip
        refine z_iinc (pc := 46) (v := 1) C dX9_type_46 rfl (by decide) (by rw [hn]; decide) rfl ?_
        refine z_goto (pc := 49) 16 C dX9_type_49 (by decide) ?_
        rw [← nI_succ]
        exact ih (i + 1) _ (by omega) (fun j hj => by
          by_cases hji : j = i
          · subst hji; unfold zbyok; simp only [z32lt, z32le, z32eq, Int32.reduceToInt, Int32.toInt_zero, Int32.toInt_one] at *; omega
          · exact hok j (by omega))
      · skip
        exact kbad i _ _ (by omega) (by intro hq; unfold zbyok at hq; simp only [z32lt, z32le, z32eq, Int32.reduceToInt, Int32.toInt_zero, Int32.toInt_one] at *; omega)
set_option maxRecDepth 100000 in
set_option maxHeartbeats 4000000 in
theorem type_put {X : zX} {d : Nat} {w : Int64} {N : Nat} (hN : N ≤ 8) (C : zC X cX9_type yX9_type.cls (d + 1)) (hn : znL X = 6)
    (kk : ∀ (f : zM) (o4 o5 : Option zV), zKeep f → f 18 0 3 = nI N → Z X 99 [some (zr 0 0), some (zl w), none, some (zi (nI N)), o4, o5] [] f) :
    ∀ (m : Nat) (f : zM) (o5 : Option zV), m ≤ N → zKeep f → f 18 0 3 = nI (N - m) → Z X 74 [some (zr 0 0), some (zl w), none, some (zi (nI N)), some (zi (nI m + (-1))), o5] [] f := by
  intro m
  induction m with
  | zero =>
    intro f o5 hm hk hl
    refine z_iload (pc := 74) C dX9_type_74 rfl ?_
    exact z_if_lt (pc := 76) 99 C dX9_type_76 (by decide) (fun _ => kk f _ o5 hk (by rw [hl, Nat.sub_zero])) (fun h => absurd (by decide) h)
  | succ m ih =>
    intro f o5 hm hk hl
    rw [nI_dec]
    have e1 : (nI (N - (m + 1))).toNatClampNeg = N - (m + 1) := nI_clamp (by omega)
    refine z_iload (pc := 74) C dX9_type_74 rfl ?_
    refine z_if_lt (pc := 76) 99 C dX9_type_76 (by decide) (fun h => absurd h (nI_pos (by omega))) (fun _ => ?_)
    refine z_aload_n (pc := 79) C dX9_type_79 rfl ?_
    refine z_getR (pc := 80) C zf_X9_31 rfl rfl (by decide) dX9_type_80 ?_
    refine z_lload_n (pc := 83) C dX9_type_83 rfl ?_
    refine z_iload (pc := 84) C dX9_type_84 rfl ?_
    refine z_callSx (pc := 86) C zk_X9_104 (m_X9_byteOf _ _ _ _) rfl rfl (Nat.le_of_ble_eq_true rfl) dX9_type_86 ?_
    simp only [Option.toList, List.cons_append, List.nil_append]
    refine z_i2c (pc := 89) C dX9_type_89 ?_
    refine z_callVx (pc := 90) C zk_X9_111 (m_X7_write _ _ _ (by rw [hl]; exact nI_ge (a := N - (m + 1)) (b := 120) (by omega) (by omega)) (by rw [hl]; exact nI_in (by omega) (by omega))) rfl rfl (by decide) rfl rfl (Nat.le_of_ble_eq_true rfl) dX9_type_90 ?_
    simp only [Option.toList, List.cons_append, List.nil_append]
    refine z_iinc (pc := 93) (v := -1) C dX9_type_93 rfl (by decide) (by rw [hn]; decide) rfl ?_
    refine z_goto (pc := 96) 74 C dX9_type_96 (by decide) ?_
    exact ih _ _ (by omega) (by repeat (first | exact hk | refine zKeep.up ?_ (by decide))) (by rw [zup_same, hl, ← nI_succ]; congr 1; omega)
theorem nI_ofI {x : Int32} (h0 : 0 ≤ x.toInt) : x = nI x.toInt.toNat ∧ x.toInt.toNat < 2 ^ 31 := by
  have h1 := x.toInt_lt
  have h2 : x.toInt.toNat < 2 ^ 31 := by omega
  refine ⟨?_, h2⟩
  rw [← Int32.toInt_inj, nI_toInt h2]
  omega

theorem p_X9_type (d : Nat) (w : Int64) (a2 : Int32) : ZM (d + 1) yX9_type cX9_type 6 (some .int) [zr 0 0, zl w, zi a2] z0 (fun r g => ((((1 ≤ a2.toInt ∧ a2.toInt ≤ 8) ∧ ∀ i, i < a2.toInt.toNat → zbyok w i) ∧ r = some (zi a2)) ∨ (¬ ((1 ≤ a2.toInt ∧ a2.toInt ≤ 8) ∧ ∀ i, i < a2.toInt.toNat → zbyok w i) ∧ r = some (zi (-1)))) ∧ zKeep g) := by
  refine ZM.intro (by decide +kernel) (Nat.le_of_ble_eq_true rfl) ?_
  intro X C hr hn
  show Z X 0 [some (zr 0 0), some (zl w), none, some (zi a2), none, none] [] z0
  refine z_iload_n (pc := 0) C dX9_type_0 rfl ?_
  refine z_iconst (pc := 1) (v := 1) C dX9_type_1 (by decide) ?_
  refine z_icmp_lt (pc := 2) 11 C dX9_type_2 (by decide) (fun h2 => ?_) (fun h2 => ?_)
  · refine z_iconst (pc := 11) (v := -1) C dX9_type_11 (by decide) ?_
    exact z_iret (pc := 12) C hr dX9_type_12 ⟨Or.inr ⟨by simp only [z32lt, z32le, z32eq, Int32.reduceToInt, Int32.toInt_zero, Int32.toInt_one] at *; omega, rfl⟩, zk0⟩
  · refine z_iload_n (pc := 5) C dX9_type_5 rfl ?_
    refine z_bipush (pc := 6) (v := 8) C dX9_type_6 (by decide) ?_
    refine z_icmp_le (pc := 8) 13 C dX9_type_8 (by decide) (fun h8 => ?_) (fun h8 => ?_)
    · have hb : 1 ≤ a2.toInt ∧ a2.toInt ≤ 8 := by simp only [z32lt, z32le, z32eq, Int32.reduceToInt, Int32.toInt_zero, Int32.toInt_one] at *; omega
      obtain ⟨e1, e2⟩ := nI_ofI (x := a2) (by omega)
      generalize hNd : a2.toInt.toNat = N at e1 e2
      have hN : N ≤ 8 := by omega
      subst e1
      refine z_iconst (pc := 13) (v := 0) C dX9_type_13 (by decide) ?_
      refine z_istore (pc := 14) C dX9_type_14 (by rw [hn]; decide) rfl ?_
      refine type_chk (w := w) (f := z0) hN C hn (fun i o4 o5 hi hbad => ?_) (fun o4 o5 hok => ?_) N 0 none (by omega) (fun j hj => absurd hj (Nat.not_lt_zero j))
      · refine z_iconst (pc := 44) (v := -1) C dX9_type_44 (by decide) ?_
        exact z_iret (pc := 45) C hr dX9_type_45 ⟨Or.inr ⟨fun hq => hbad (hq.2 i (by omega)), rfl⟩, zk0⟩
      · refine z_aload_n (pc := 52) C dX9_type_52 rfl ?_
        refine z_getR (pc := 53) C zf_X9_31 rfl rfl (by decide) dX9_type_53 ?_
        refine z_getI (pc := 56) C zf_X9_108 rfl rfl (by decide) dX9_type_56 ?_
        refine z_iload_n (pc := 59) C dX9_type_59 rfl ?_
        refine z_iadd (pc := 60) C dX9_type_60 ?_
        refine z_bipush (pc := 61) (v := 120) C dX9_type_61 (by decide) ?_
        refine z_icmp_le (pc := 63) 69 C dX9_type_63 (by decide) (fun _ => ?_) (fun h => absurd (by show (0 : Int32) + nI N ≤ nI 120; rw [Int32.zero_add]; exact nI_le (by omega) (by omega)) h)
        refine z_iload_n (pc := 69) C dX9_type_69 rfl ?_
        refine z_iconst (pc := 70) (v := 1) C dX9_type_70 (by decide) ?_
        refine z_isub (pc := 71) C dX9_type_71 ?_
        refine z_istore (pc := 72) C dX9_type_72 (by rw [hn]; decide) rfl ?_
        rw [show nI N - 1 = nI N + (-1) from by rw [Int32.sub_eq_add_neg]]
        refine type_put (w := w) hN C hn (fun f o4 o5 hk hl => ?_) N z0 _ (Nat.le_refl N) zk0 (by rw [Nat.sub_self]; decide)
        refine z_aload_n (pc := 99) C dX9_type_99 rfl ?_
        refine z_getR (pc := 100) C zf_X9_31 rfl rfl (by decide) dX9_type_100 ?_
        refine z_getI (pc := 103) C zf_X9_108 rfl rfl (by decide) dX9_type_103 ?_
        exact z_iret (pc := 106) C hr dX9_type_106 ⟨Or.inl ⟨⟨hb, fun i hi => hok i (by omega)⟩, by rw [hl]⟩, hk⟩
    · refine z_iconst (pc := 11) (v := -1) C dX9_type_11 (by decide) ?_
      exact z_iret (pc := 12) C hr dX9_type_12 ⟨Or.inr ⟨by simp only [z32lt, z32le, z32eq, Int32.reduceToInt, Int32.toInt_zero, Int32.toInt_one] at *; omega, rfl⟩, zk0⟩