/-- how many bits of six -/
def zpn (x : Int32) : Nat := x.toInt.toNat % 2 + x.toInt.toNat / 2 % 2 + x.toInt.toNat / 4 % 2 + x.toInt.toNat / 8 % 2 + x.toInt.toNat / 16 % 2 + x.toInt.toNat / 32 % 2
def zu_ (x y : Int32) : Int32 := (x.toUInt32 >>> (y.toUInt32 &&& Int32.toUInt32 31)).toInt32
def zbc1 (x : Int32) : Int32 := x - (zu_ x 1 &&& 1431655765)
def zbc2 (x : Int32) : Int32 := (x &&& 858993459) + (zu_ x 2 &&& 858993459)
def zbc3 (x : Int32) : Int32 := (x + zu_ x 4) &&& 252645135
def zbc4 (x : Int32) : Int32 := x + zu_ x 8
def zbc5 (x : Int32) : Int32 := x + zu_ x 16
theorem zbc_e {x : Int32} (h : zB x 0 63) : (zbc5 (zbc4 (zbc3 (zbc2 (zbc1 x)))) &&& 63).toInt = (zpn x : Int) := by
  have hi := (nI_ofI h.1).1
  have key : ∀ q : Fin 64, (zbc5 (zbc4 (zbc3 (zbc2 (zbc1 (nI q.val))))) &&& 63).toInt = (zpn (nI q.val) : Int) := by decide +kernel
  have k := key ⟨x.toInt.toNat, by have := h.1; have := h.2; omega⟩
  simp only at k
  rw [← hi] at k
  exact k
theorem zones_s {x : Int32} (h : zB x 1 63) : (x &&& (x - 1)).toInt < x.toInt ∧ zpn (x &&& (x - 1)) + 1 = zpn x := by
  have hi := (nI_ofI (Int.le_trans (by decide) h.1)).1
  have key : ∀ q : Fin 64, 1 ≤ q.val → (nI q.val &&& (nI q.val - 1)).toInt < (nI q.val).toInt ∧ zpn (nI q.val &&& (nI q.val - 1)) + 1 = zpn (nI q.val) := by decide +kernel
  have k := key ⟨x.toInt.toNat, by have := h.1; have := h.2; omega⟩ (by have := h.1; simp only; omega)
  simp only at k
  rw [← hi] at k
  exact k
def zls (v b : Int32) : Prop := b.toInt < 0 ∨ zpn v < zpn b ∨ (zpn v = zpn b ∧ v.toInt < b.toInt)
/-- the least of those that are so, as they come -/
noncomputable def zbe (L : Nat → Prop) (V : Nat → Int32) : Nat → Int32
  | 0 => -4
  | k + 1 => @ite Int32 (L k ∧ zls (V k) (zbe L V k)) (Classical.propDecidable _) (V k) (zbe L V k)
theorem zbe_congr {L M : Nat → Prop} {V W : Nat → Int32} : ∀ n : Nat, (∀ k, k < n → (L k ↔ M k) ∧ V k = W k) → zbe L V n = zbe M W n
  | 0, _ => rfl
  | n + 1, h => by
    obtain ⟨h1, h2⟩ := h n (by omega)
    rw [zbe, zbe, zbe_congr n (fun k hk => h k (by omega)), h2]
    by_cases q : L n ∧ zls (W n) (zbe M W n)
    · rw [if_pos q, if_pos ⟨h1.mp q.1, q.2⟩]
    · rw [if_neg q, if_neg (fun z => q ⟨h1.mpr z.1, z.2⟩)]
theorem zbt_bit {v : Int32} {P : Nat → Prop} {n i : Nat} (hv : v = zbf P n) (hn : n ≤ 8) (hi : i < n) : bt v i = true ↔ P i := by
  rw [hv, zbf_bit (by omega) _ (by omega)]
  exact ⟨fun q => q.2, fun q => ⟨hi, q⟩⟩

set_option maxRecDepth 100000 in
set_option maxHeartbeats 4000000 in
theorem x_J6_bitCount_0f7a4 (d : Nat) (f : zM) (a0 : Int32) (b0 : zB a0 0 63) (hI : zInv f) : ZM d yJ6_bitCount_0f7a4 cJ6_bitCount_0f7a4 1 (some .int) [zi a0] f (fun r g => (∃ v, r = some (zi v) ∧ zB v 0 63) ∧ zInv g ∧ zFr [] f g ∧ (∀ v : Int32, r = some (zi v) → v.toInt = (zpn a0 : Int))) := by
  refine ZM.intro (by decide +kernel) (Nat.le_of_ble_eq_true rfl) ?_
  intro X C hr hn
  have hF : zFr [] f f := zFr.rf _ _
  show Z X 0 [some (zi a0)] [] f
  refine z_iload_n (pc := 0) C dJ6_bitCount_0f7a4_0 rfl ?_
  refine z_iload_n (pc := 1) C dJ6_bitCount_0f7a4_1 rfl ?_
  refine z_iconst (pc := 2) (v := 1) C dJ6_bitCount_0f7a4_2 (by decide) ?_
  refine z_iushr (pc := 3) C dJ6_bitCount_0f7a4_3 ?_
  refine w_gp (fun v => v = (a0.toUInt32 >>> ((1 : Int32).toUInt32 &&& Int32.toUInt32 31)).toInt32) rfl (fun v1 q1 => ?_)
  refine z_ldcw (pc := 4) C zw_939 dJ6_bitCount_0f7a4_4 ?_
  refine z_iand (pc := 7) C dJ6_bitCount_0f7a4_7 ?_
  refine w_gp (fun v => v = v1 &&& (1431655765 : Int32)) rfl (fun v2 q2 => ?_)
  have b2x : zB v2 0 1431655765 := by rw [q2]; exact (zand_b (zB_any v1) (zB.of (x := 1431655765) 1431655765 (by decide)) (by decide))
  refine z_isub (pc := 8) C dJ6_bitCount_0f7a4_8 ?_
  refine w_gp (fun v => v = a0 - v2) rfl (fun v3 q3 => ?_)
  have e3 : v3.toInt = a0.toInt - v2.toInt := by rw [q3]; exact (zsub_eb b0 b2x (by decide) (by decide))
  have b3x : zB v3 (-1431655765) 63 := by have q1 := b0; have q2 := b2x; constructor <;> omega
  refine z_istore_n (pc := 9) C dJ6_bitCount_0f7a4_9 (by rw [hn]; decide) rfl ?_
  refine z_iload_n (pc := 10) C dJ6_bitCount_0f7a4_10 rfl ?_
  refine z_ldcw (pc := 11) C zw_940 dJ6_bitCount_0f7a4_11 ?_
  refine z_iand (pc := 14) C dJ6_bitCount_0f7a4_14 ?_
  refine w_gp (fun v => v = v3 &&& (858993459 : Int32)) rfl (fun v4 q4 => ?_)
  have b4x : zB v4 0 858993459 := by rw [q4]; exact (zand_b b3x (zB.of (x := 858993459) 858993459 (by decide)) (by decide))
  refine z_iload_n (pc := 15) C dJ6_bitCount_0f7a4_15 rfl ?_
  refine z_iconst (pc := 16) (v := 2) C dJ6_bitCount_0f7a4_16 (by decide) ?_
  refine z_iushr (pc := 17) C dJ6_bitCount_0f7a4_17 ?_
  refine w_gp (fun v => v = (v3.toUInt32 >>> ((2 : Int32).toUInt32 &&& Int32.toUInt32 31)).toInt32) rfl (fun v5 q5 => ?_)
  refine z_ldcw (pc := 18) C zw_940 dJ6_bitCount_0f7a4_18 ?_
  refine z_iand (pc := 21) C dJ6_bitCount_0f7a4_21 ?_
  refine w_gp (fun v => v = v5 &&& (858993459 : Int32)) rfl (fun v6 q6 => ?_)
  have b6x : zB v6 0 858993459 := by rw [q6]; exact (zand_b (zB_any v5) (zB.of (x := 858993459) 858993459 (by decide)) (by decide))
  refine z_iadd (pc := 22) C dJ6_bitCount_0f7a4_22 ?_
  refine w_gp (fun v => v = v4 + v6) rfl (fun v7 q7 => ?_)
  have e7 : v7.toInt = v4.toInt + v6.toInt := by rw [q7]; exact (zadd_eb b4x b6x (by decide) (by decide))
  have b7x : zB v7 0 1717986918 := by have q1 := b4x; have q2 := b6x; constructor <;> omega
  refine z_istore_n (pc := 23) C dJ6_bitCount_0f7a4_23 (by rw [hn]; decide) rfl ?_
  refine z_iload_n (pc := 24) C dJ6_bitCount_0f7a4_24 rfl ?_
  refine z_iload_n (pc := 25) C dJ6_bitCount_0f7a4_25 rfl ?_
  refine z_iconst (pc := 26) (v := 4) C dJ6_bitCount_0f7a4_26 (by decide) ?_
  refine z_iushr (pc := 27) C dJ6_bitCount_0f7a4_27 ?_
  refine w_gp (fun v => v = (v7.toUInt32 >>> ((4 : Int32).toUInt32 &&& Int32.toUInt32 31)).toInt32) rfl (fun v8 q8 => ?_)
  refine z_iadd (pc := 28) C dJ6_bitCount_0f7a4_28 ?_
  refine w_gp (fun v => v = v7 + v8) rfl (fun v9 q9 => ?_)
  refine z_ldcw (pc := 29) C zw_941 dJ6_bitCount_0f7a4_29 ?_
  refine z_iand (pc := 32) C dJ6_bitCount_0f7a4_32 ?_
  refine w_gp (fun v => v = v9 &&& (252645135 : Int32)) rfl (fun v10 q10 => ?_)
  have b10x : zB v10 0 252645135 := by rw [q10]; exact (zand_b (zB_any v9) (zB.of (x := 252645135) 252645135 (by decide)) (by decide))
  refine z_istore_n (pc := 33) C dJ6_bitCount_0f7a4_33 (by rw [hn]; decide) rfl ?_
  refine z_iload_n (pc := 34) C dJ6_bitCount_0f7a4_34 rfl ?_
  refine z_iload_n (pc := 35) C dJ6_bitCount_0f7a4_35 rfl ?_
  refine z_bipush (pc := 36) (v := 8) C dJ6_bitCount_0f7a4_36 (by decide) ?_
  refine z_iushr (pc := 38) C dJ6_bitCount_0f7a4_38 ?_
  refine w_gp (fun v => v = (v10.toUInt32 >>> ((8 : Int32).toUInt32 &&& Int32.toUInt32 31)).toInt32) rfl (fun v11 q11 => ?_)
  refine z_iadd (pc := 39) C dJ6_bitCount_0f7a4_39 ?_
  refine w_gp (fun v => v = v10 + v11) rfl (fun v12 q12 => ?_)
  refine z_istore_n (pc := 40) C dJ6_bitCount_0f7a4_40 (by rw [hn]; decide) rfl ?_
  refine z_iload_n (pc := 41) C dJ6_bitCount_0f7a4_41 rfl ?_
  refine z_iload_n (pc := 42) C dJ6_bitCount_0f7a4_42 rfl ?_
  refine z_bipush (pc := 43) (v := 16) C dJ6_bitCount_0f7a4_43 (by decide) ?_
  refine z_iushr (pc := 45) C dJ6_bitCount_0f7a4_45 ?_
  refine w_gp (fun v => v = (v12.toUInt32 >>> ((16 : Int32).toUInt32 &&& Int32.toUInt32 31)).toInt32) rfl (fun v13 q13 => ?_)
  refine z_iadd (pc := 46) C dJ6_bitCount_0f7a4_46 ?_
  refine w_gp (fun v => v = v12 + v13) rfl (fun v14 q14 => ?_)
  refine z_istore_n (pc := 47) C dJ6_bitCount_0f7a4_47 (by rw [hn]; decide) rfl ?_
  refine z_iload_n (pc := 48) C dJ6_bitCount_0f7a4_48 rfl ?_
  refine z_bipush (pc := 49) (v := 63) C dJ6_bitCount_0f7a4_49 (by decide) ?_
  refine z_iand (pc := 51) C dJ6_bitCount_0f7a4_51 ?_
  refine w_gp (fun v => v = v14 &&& (63 : Int32)) rfl (fun v15 q15 => ?_)
  have b15x : zB v15 0 63 := by rw [q15]; exact (zand_b (zB_any v14) (zB.of (x := 63) 63 (by decide)) (by decide))
  exact z_iret (pc := 52) C hr dJ6_bitCount_0f7a4_52 ⟨⟨_, rfl, b15x⟩, hI, hF, (by
                                                                                          intro v hv; cases hv
                                                                                          have e1 : v3 = zbc1 a0 := by rw [q3, q2, q1]; rfl
                                                                                          have e2 : v7 = zbc2 v3 := by rw [q7, q6, q5, q4]; rfl
                                                                                          have e3 : v10 = zbc3 v7 := by rw [q10, q9, q8]; rfl
                                                                                          have e4 : v12 = zbc4 v10 := by rw [q12, q11]; rfl
                                                                                          have e5 : v14 = zbc5 v12 := by rw [q14, q13]; rfl
                                                                                          rw [q15, e5, e4, e3, e2, e1]
                                                                                          exact zbc_e b0)⟩

set_option maxRecDepth 100000 in
set_option maxHeartbeats 4000000 in
theorem x_X9_isLess (d : Nat) (f : zM) (a0 : Int32) (b0 : zB a0 0 7) (a1 : Int32) (b1 : zB a1 (-4) 7) (hp0 : (a1.toInt = -4 ∨ 0 ≤ a1.toInt)) (hI : zInv f) : ZM (d + 1) yX9_isLess cX9_isLess 3 (some .boolean) [zi a0, zi a1] f (fun r g => (∃ v, r = some (zi v) ∧ zB v 0 1) ∧ zInv g ∧ zFr [] f g ∧ (∀ v : Int32, r = some (zi v) → zbo v (zls a0 a1))) := by
  refine ZM.intro (by decide +kernel) (Nat.le_of_ble_eq_true rfl) ?_
  intro X C hr hn
  have hF : zFr [] f f := zFr.rf _ _
  show Z X 0 [some (zi a0), some (zi a1), none] [] f
  refine z_iload_n (pc := 0) C dX9_isLess_0 rfl ?_
  refine z_bipush (pc := 1) (v := -4) C dX9_isLess_1 (by decide) ?_
  refine z_icmp_ne (pc := 3) 8 C dX9_isLess_3 (by decide) (fun h3_0 => ?_) (fun h3_0 => ?_)
  · skip
    have b2x : zB a1 (-3) 7 := by have q1 := b1; have q2 := (zB.of (x := (-4)) (-4) (by decide)); simp only [z32lt, z32le, z32eq, Int32.reduceToInt, Int32.toInt_zero] at h3_0; constructor <;> omega
    refine z_iload_n (pc := 8) C dX9_isLess_8 rfl ?_
    refine z_callS (pc := 9) C zk_X9_348 (x_J6_bitCount_0f7a4 _ _ a0 (zB.wk (a' := 0) (b' := 63) b0 (by decide) (by decide)) hI) rfl rfl (Nat.le_of_ble_eq_true rfl) dX9_isLess_9 (fun r3 g3 q3 => ?_)
    obtain ⟨⟨v3, rfl, b3x⟩, hI3, hF3q, hp3_0⟩ := q3
    have hp3_0 := hp3_0 _ rfl
    obtain rfl := zFr_nil hF3q
    simp only [Option.toList, List.cons_append, List.nil_append]
    refine z_iload_n (pc := 12) C dX9_isLess_12 rfl ?_
    refine z_callS (pc := 13) C zk_X9_348 (x_J6_bitCount_0f7a4 _ _ a1 (show zB a1 0 63 from by constructor <;> omega) hI) rfl rfl (Nat.le_of_ble_eq_true rfl) dX9_isLess_13 (fun r4 g4 q4 => ?_)
    obtain ⟨⟨v4, rfl, b4x⟩, hI4, hF4q, hp4_0⟩ := q4
    have hp4_0 := hp4_0 _ rfl
    obtain rfl := zFr_nil hF4q
    simp only [Option.toList, List.cons_append, List.nil_append]
    refine z_isub (pc := 16) C dX9_isLess_16 ?_
    refine w_gp (fun v => v = v3 - v4) rfl (fun v5 q5 => ?_)
    have e5 : v5.toInt = v3.toInt - v4.toInt := by rw [q5]; exact (zsub_eb b3x b4x (by decide) (by decide))
    have b5x : zB v5 (-63) 63 := by have q1 := b3x; have q2 := b4x; constructor <;> omega
    refine z_istore_n (pc := 17) C dX9_isLess_17 (by rw [hn]; decide) rfl ?_
    refine z_iload_n (pc := 18) C dX9_isLess_18 rfl ?_
    refine z_if_lt (pc := 19) 31 C dX9_isLess_19 (by decide) (fun h19_5 => ?_) (fun h19_5 => ?_)
    · skip
      have b7x : zB v5 (-63) (-1) := by have q1 := b5x; have q2 := (zB.of (x := 0) 0 (by decide)); simp only [z32lt, z32le, z32eq, Int32.reduceToInt, Int32.toInt_zero] at h19_5; constructor <;> omega
      refine z_iconst (pc := 31) (v := 1) C dX9_isLess_31 (by decide) ?_
      refine z_goto (pc := 32) 36 C dX9_isLess_32 (by decide) ?_
      exact z_zret (pc := 36) C hr (z01 (zB.wk (a' := 0) (b' := 1) (zB.of (x := 1) 1 (by decide)) (by decide) (by decide))) dX9_isLess_36 ⟨⟨_, rfl, (zB.wk (a' := 0) (b' := 1) (zB.of (x := 1) 1 (by decide)) (by decide) (by decide))⟩, hI, hF, (by
                                                                                          intro v hv; cases hv
                                                                                          have h1 := hp3_0
                                                                                          have h2 := hp4_0
                                                                                          first
                                                                                            | exact Or.inl ⟨rfl, Or.inr (by omega)⟩
                                                                                            | exact Or.inr ⟨rfl, fun h => by unfold zls at h; omega⟩)⟩
    · skip
      have b8x : zB v5 0 63 := by have q1 := b5x; have q2 := (zB.of (x := 0) 0 (by decide)); simp only [z32lt, z32le, z32eq, Int32.reduceToInt, Int32.toInt_zero] at h19_5; constructor <;> omega
      refine z_iload_n (pc := 22) C dX9_isLess_22 rfl ?_
      refine z_if_ne (pc := 23) 35 C dX9_isLess_23 (by decide) (fun h23_8 => ?_) (fun h23_8 => ?_)
      · skip
        have b10x : zB v5 1 63 := by have q1 := b8x; have q2 := (zB.of (x := 0) 0 (by decide)); simp only [z32lt, z32le, z32eq, Int32.reduceToInt, Int32.toInt_zero] at h23_8; constructor <;> omega
        refine z_iconst (pc := 35) (v := 0) C dX9_isLess_35 (by decide) ?_
        exact z_zret (pc := 36) C hr (z01 (zB.wk (a' := 0) (b' := 1) (zB.of (x := 0) 0 (by decide)) (by decide) (by decide))) dX9_isLess_36 ⟨⟨_, rfl, (zB.wk (a' := 0) (b' := 1) (zB.of (x := 0) 0 (by decide)) (by decide) (by decide))⟩, hI, hF, (by
                                                                                          intro v hv; cases hv
                                                                                          have h1 := hp3_0
                                                                                          have h2 := hp4_0
                                                                                          first
                                                                                            | exact Or.inl ⟨rfl, Or.inr (by omega)⟩
                                                                                            | exact Or.inr ⟨rfl, fun h => by unfold zls at h; omega⟩)⟩
      · skip
        have b11x : zB v5 0 0 := by have q1 := b8x; have q2 := (zB.of (x := 0) 0 (by decide)); simp only [z32lt, z32le, z32eq, Int32.reduceToInt, Int32.toInt_zero] at h23_8; constructor <;> omega
        refine z_iload_n (pc := 26) C dX9_isLess_26 rfl ?_
        refine z_iload_n (pc := 27) C dX9_isLess_27 rfl ?_
        refine z_icmp_ge (pc := 28) 35 C dX9_isLess_28 (by decide) (fun h28_11 => ?_) (fun h28_11 => ?_)
        · skip
          have rr13 : a0.toInt ≥ a1.toInt := by simp only [z32lt, z32le, z32eq] at h28_11; omega
          refine z_iconst (pc := 35) (v := 0) C dX9_isLess_35 (by decide) ?_
          exact z_zret (pc := 36) C hr (z01 (zB.wk (a' := 0) (b' := 1) (zB.of (x := 0) 0 (by decide)) (by decide) (by decide))) dX9_isLess_36 ⟨⟨_, rfl, (zB.wk (a' := 0) (b' := 1) (zB.of (x := 0) 0 (by decide)) (by decide) (by decide))⟩, hI, hF, (by
                                                                                          intro v hv; cases hv
                                                                                          have h1 := hp3_0
                                                                                          have h2 := hp4_0
                                                                                          first
                                                                                            | exact Or.inl ⟨rfl, Or.inr (by omega)⟩
                                                                                            | exact Or.inr ⟨rfl, fun h => by unfold zls at h; omega⟩)⟩
        · skip
          have rr14 : a0.toInt < a1.toInt := by simp only [z32lt, z32le, z32eq] at h28_11; omega
          have b15x : zB a0 0 6 := by have q1 := b0; have q2 := b2x; simp only [z32lt, z32le, z32eq, Int32.reduceToInt, Int32.toInt_zero] at h28_11; constructor <;> omega
          have b16x : zB a1 1 7 := by have q1 := b0; have q2 := b2x; simp only [z32lt, z32le, z32eq, Int32.reduceToInt, Int32.toInt_zero] at h28_11; constructor <;> omega
          refine z_iconst (pc := 31) (v := 1) C dX9_isLess_31 (by decide) ?_
          refine z_goto (pc := 32) 36 C dX9_isLess_32 (by decide) ?_
          exact z_zret (pc := 36) C hr (z01 (zB.wk (a' := 0) (b' := 1) (zB.of (x := 1) 1 (by decide)) (by decide) (by decide))) dX9_isLess_36 ⟨⟨_, rfl, (zB.wk (a' := 0) (b' := 1) (zB.of (x := 1) 1 (by decide)) (by decide) (by decide))⟩, hI, hF, (by
                                                                                          intro v hv; cases hv
                                                                                          have h1 := hp3_0
                                                                                          have h2 := hp4_0
                                                                                          first
                                                                                            | exact Or.inl ⟨rfl, Or.inr (by omega)⟩
                                                                                            | exact Or.inr ⟨rfl, fun h => by unfold zls at h; omega⟩)⟩
  · skip
    have b17x : zB a1 (-4) (-4) := by have q1 := b1; have q2 := (zB.of (x := (-4)) (-4) (by decide)); simp only [z32lt, z32le, z32eq, Int32.reduceToInt, Int32.toInt_zero] at h3_0; constructor <;> omega
    refine z_iconst (pc := 6) (v := 1) C dX9_isLess_6 (by decide) ?_
    exact z_zret (pc := 7) C hr (z01 (zB.wk (a' := 0) (b' := 1) (zB.of (x := 1) 1 (by decide)) (by decide) (by decide))) dX9_isLess_7 ⟨⟨_, rfl, (zB.wk (a' := 0) (b' := 1) (zB.of (x := 1) 1 (by decide)) (by decide) (by decide))⟩, hI, hF, (by intro v hv; cases hv; exact Or.inl ⟨rfl, Or.inl (by omega)⟩)⟩

theorem zgbf {f g : zM} {p : Nat} {v : Int32} (hg : zInv g) (hW : zWs g) (hp : (p : Int) < (g 1 0 7).toInt) (k1 : g 1 0 6 = f 1 0 6) (a : ∀ j, j < 8 → g 11 p j = f 11 p j) (b : ∀ n j, g 8 n j = f 8 n j) (c : ∀ n j, g 9 n j = f 9 n j) (e : ∀ n j, g 10 n j = f 10 n j) (k6 : ∀ n j, g 6 n j = f 6 n j) (h : (¬ (g 11 p 1 = g 6 0 1 ∧ (g 6 0 5 = -4 ∨ g 6 0 5 = g 11 p 2)) ∧ v = 0) ∨ ((g 11 p 1 = g 6 0 1 ∧ (g 6 0 5 = -4 ∨ g 6 0 5 = g 11 p 2)) ∧ ¬ (¬ g 6 0 4 = 0 ∧ g 11 p 7 &&& 1 = 0) ∧ v = g 11 p 8 &&& g 6 0 6) ∨ ((g 11 p 1 = g 6 0 1 ∧ (g 6 0 5 = -4 ∨ g 6 0 5 = g 11 p 2)) ∧ (¬ g 6 0 4 = 0 ∧ g 11 p 7 &&& 1 = 0) ∧ v = (g 11 p 8 &&& g 6 0 6) &&& (g 11 p 9 ^^^ -1))) : v = zbf (zga f p (f 6 0 1) (f 6 0 4) (f 6 0 5) (f 6 0 6)) (f 1 0 6).toInt.toNat := by
  have hv := zgb (f := g) hg hW hp (fun j => rfl) h
  rw [hv, k1, k6, k6, k6, k6]
  exact zbf_congr _ (fun i _ => zga_k a b c e (k6 0 0) (k6 0 2))

set_option maxRecDepth 100000 in
set_option maxHeartbeats 4000000 in
theorem y_X9_promises (d : Nat) (f : zM) (a1 : Int32) (b1 : zB a1 (-2147483648) 2147483647) (a2 : Int32) (b2 : zB a2 (-2147483648) 2147483647) (hI : zInv f) : ZM (d + 4) yX9_promises cX9_promises 6 (some .int) [zr 0 0, zi a1, zi a2] f (fun r g => (∃ v, r = some (zi v) ∧ zB v (-4) 7) ∧ zInv g ∧ zFr [(11, some 8), (11, some 9)] f g ∧ (∀ v : Int32, r = some (zi v) → (¬ ((0 ≤ a1.toInt ∧ a1.toInt ≤ 5) ∧ (0 ≤ a2.toInt ∧ a2.toInt < (f 1 0 6).toInt)) ∧ v = -1) ∨ (((0 ≤ a1.toInt ∧ a1.toInt ≤ 5) ∧ (0 ≤ a2.toInt ∧ a2.toInt < (f 1 0 6).toInt)) ∧ v = zbe (fun k => f 11 k 2 = a1 ∧ zga f k (f 6 0 1) (f 6 0 4) (f 6 0 5) (f 6 0 6) a2.toInt.toNat) (fun k => f 11 k 7) (f 1 0 7).toInt.toNat))) := by
  refine ZM.intro (by decide +kernel) (Nat.le_of_ble_eq_true rfl) ?_
  intro X C hr hn
  have hF : zFr [(11, some 8), (11, some 9)] f f := zFr.rf _ _
  have ct1_0_7 : zB (f 1 0 7) 0 12 := hI 1 0 7
  have J : ∀ t : Nat, (zB a1 0 5 → zB a2 0 7 → ∀ a30_3 : Int32, zB a30_3 (-4) 7 → ∀ a30_4 : Int32, zB a30_4 0 12 → ∀ g : zM, zInv g → zFr [(11, some 8), (11, some 9)] f g → zB (g 1 0 7) 0 12 → (zWs g) → (a30_3 = zbe (fun k => f 11 k 2 = a1 ∧ zga f k (f 6 0 1) (f 6 0 4) (f 6 0 5) (f 6 0 6) a2.toInt.toNat) (fun k => f 11 k 7) (a30_4.toInt.toNat)) → ((a30_3.toInt = -4 ∨ 0 ≤ a30_3.toInt)) → (((0 ≤ a1.toInt ∧ a1.toInt ≤ 5) ∧ (0 ≤ a2.toInt ∧ a2.toInt < (f 1 0 6).toInt))) → (a30_4.toInt ≤ (f 1 0 7).toInt) → ((g 1 0 7).toInt = (f 1 0 7).toInt) → (0 + 3 * (12 - a30_4.toInt) : Int) < t → Z X 30 [some (zr 0 0), some (zi a1), some (zi a2), some (zi a30_3), some (zi a30_4), none] [] g) := by
    intro t
    induction t with
    | zero =>
      intros; exfalso; omega
    | succ t ih =>
      have ih0 := ih
      intro b30_1 b30_2 a30_3 b30_3 a30_4 b30_4 g30_ hI30_ hF30_ f30_1_0_7 hR30_0 hR30_1 hR30_2 hR30_3 hR30_4 hR30_5 hM30_
      refine z_iload (pc := 30) C dX9_promises_30 rfl ?_
      refine z_aload_n (pc := 32) C dX9_promises_32 rfl ?_
      refine z_getR (pc := 33) C zf_X9_10 rfl rfl (by decide) dX9_promises_33 ?_
      refine z_getI (pc := 36) C zf_X9_119 rfl rfl (by decide) dX9_promises_36 ?_
      refine w_gp (fun v => v = g30_ 1 0 7) rfl (fun v1 q1 => ?_)
      have e1 : v1.toInt = (g30_ 1 0 7).toInt := by rw [q1]
      have b1x : zB v1 0 12 := by first | exact zB.eqv e1 f30_1_0_7 | (have q9 := f30_1_0_7; constructor <;> omega)
      refine z_icmp_ge (pc := 39) 106 C dX9_promises_39 (by decide) (fun h39_1 => ?_) (fun h39_1 => ?_)
      · skip
        have rr3 : a30_4.toInt ≥ v1.toInt := by simp only [z32lt, z32le, z32eq] at h39_1; omega
        refine z_iload_n (pc := 106) C dX9_promises_106 rfl ?_
        exact z_iret (pc := 107) C hr dX9_promises_107 ⟨⟨_, rfl, b30_3⟩, hI30_, hF30_, (by
                                                                                          intro v hv; cases hv
                                                                                          have hn : (f 1 0 7).toInt.toNat = a30_4.toInt.toNat := by omega
                                                                                          exact Or.inr ⟨hR30_3, by rw [hn]; exact hR30_1⟩)⟩
      · skip
        have rr4 : a30_4.toInt < v1.toInt := by simp only [z32lt, z32le, z32eq] at h39_1; omega
        have b5x : zB a30_4 0 11 := by have q1 := b30_4; have q2 := b1x; simp only [z32lt, z32le, z32eq, Int32.reduceToInt, Int32.toInt_zero] at h39_1; constructor <;> omega
        have b6x : zB v1 1 12 := by have q1 := b30_4; have q2 := b1x; simp only [z32lt, z32le, z32eq, Int32.reduceToInt, Int32.toInt_zero] at h39_1; constructor <;> omega
        have c7x : zB (g30_ 1 0 7) 1 12 := by first | assumption | (constructor <;> omega)
        refine z_aload_n (pc := 42) C dX9_promises_42 rfl ?_
        refine z_getR (pc := 43) C zf_X9_10 rfl rfl (by decide) dX9_promises_43 ?_
        refine z_getR (pc := 46) C zf_X9_90 rfl rfl (by decide) dX9_promises_46 ?_
        refine z_iload (pc := 49) C dX9_promises_49 rfl ?_
        refine z_aald (pc := 51) C rfl ⟨rfl, by decide⟩ (by decide) (zIx b5x (by decide) (by decide)) dX9_promises_51 ?_
        refine w_grx (by have hq := zN b5x (by decide); show 12 * 0 + a30_4.toNatClampNeg < 36; omega) (fun m8 q8r h8x => ?_)
        have q8r : m8 = 12 * 0 + a30_4.toNatClampNeg := q8r
        have k8r : a30_4.toNatClampNeg = a30_4.toInt.toNat := rfl
        refine z_astore (pc := 52) C dX9_promises_52 (by rw [hn]; decide) rfl ?_
        refine z_aload (pc := 54) C dX9_promises_54 rfl ?_
        refine z_getI (pc := 56) C zf_X9_162 rfl rfl h8x dX9_promises_56 ?_
        refine w_gp (fun v => v = g30_ 11 m8 2) rfl (fun v10 q10 => ?_)
        have b10x : zB v10 0 5 := by rw [q10]; exact (hI30_ 11 m8 2)
        refine z_iload_n (pc := 59) C dX9_promises_59 rfl ?_
        refine z_icmp_ne (pc := 60) 100 C dX9_promises_60 (by decide) (fun h60_10 => ?_) (fun h60_10 => ?_)
        · skip
          refine z_iinc (pc := 100) (v := 1) C dX9_promises_100 rfl (by decide) (by rw [hn]; decide) rfl ?_
          obtain ⟨v12, hv12, e12⟩ : ∃ v : Int32, v = a30_4 + 1 ∧ v.toInt = a30_4.toInt + 1 := ⟨_, rfl, zadd_eb b5x (zB.of (x := 1) 1 (by decide)) (by decide) (by decide)⟩
          rw [← hv12]
          have b12x : zB v12 1 12 := by have q9 := b5x; constructor <;> omega
          refine z_goto (pc := 103) 30 C dX9_promises_103 (by decide) ?_
          refine w_mask [5] ?_
          exact ih0 b30_1 b30_2 a30_3 b30_3 v12 (zB.wk (a' := 0) (b' := 12) b12x (by decide) (by decide)) g30_ hI30_ hF30_ (zB.wk c7x (by decide) (by decide)) (by exact hR30_0) (by
                                                                                          have hn : (v12).toInt.toNat = a30_4.toInt.toNat + 1 := by omega
                                                                                          have hx : m8 = a30_4.toInt.toNat := by omega
                                                                                          have b8 : (f 1 0 6).toInt ≤ 8 := (hI 1 0 6).2
                                                                                          have k11 : ∀ q j, j < 8 → g30_ 11 q j = f 11 q j := fun q j hj => by rcases (show j = 0 ∨ j = 1 ∨ j = 2 ∨ j = 3 ∨ j = 4 ∨ j = 5 ∨ j = 6 ∨ j = 7 by omega) with rfl | rfl | rfl | rfl | rfl | rfl | rfl | rfl <;> exact hF30_ 11 q _ rfl
                                                                                          have k8 : ∀ n j, g30_ 8 n j = f 8 n j := fun n j => hF30_ 8 n j rfl
                                                                                          have k9 : ∀ n j, g30_ 9 n j = f 9 n j := fun n j => hF30_ 9 n j rfl
                                                                                          have k10 : ∀ n j, g30_ 10 n j = f 10 n j := fun n j => hF30_ 10 n j rfl
                                                                                          have k6 : ∀ n j, g30_ 6 n j = f 6 n j := fun n j => hF30_ 6 n j rfl
                                                                                          have k1 : g30_ 1 0 6 = f 1 0 6 := hF30_ 1 0 6 rfl
                                                                                          have r56 := q10
                                                                                          rw [hx, k11 _ 2 (by decide)] at r56
                                                                                          rw [hn, zbe, ← hR30_1]
                                                                                          rw [if_neg (fun h => absurd (r56.trans h.1.1) (by assumption))]) (by omega) (by exact hR30_3) (by omega) (by omega) (by omega)
        · skip
          have rr13 : v10.toInt = a1.toInt := by simp only [z32lt, z32le, z32eq] at h60_10; omega
          refine z_aload_n (pc := 63) C dX9_promises_63 rfl ?_
          refine z_getR (pc := 64) C zf_X9_10 rfl rfl (by decide) dX9_promises_64 ?_
          refine z_getR (pc := 67) C zf_X9_220 rfl rfl (by decide) dX9_promises_67 ?_
          refine z_aload (pc := 70) C dX9_promises_70 rfl ?_
          refine z_callV (pc := 72) C zk_X9_262 (x_X3_goesBy _ _ 0 (by decide) m8 h8x hI30_) rfl rfl (by decide) rfl rfl (Nat.le_of_ble_eq_true rfl) dX9_promises_72 (fun r14 g14 q14 => ?_)
          obtain ⟨⟨v14, rfl, b14x⟩, hI14, hF14q, hp14_0⟩ := q14
          have hp14_0 := hp14_0 _ rfl
          obtain rfl := zFr_nil hF14q
          simp only [Option.toList, List.cons_append, List.nil_append]
          refine z_iload_n (pc := 75) C dX9_promises_75 rfl ?_
          refine z_ishr (pc := 76) C dX9_promises_76 ?_
          refine w_gp (fun v => v = v14 >>> (a2 &&& 31)) rfl (fun v15 q15 => ?_)
          refine z_iconst (pc := 77) (v := 1) C dX9_promises_77 (by decide) ?_
          refine z_iand (pc := 78) C dX9_promises_78 ?_
          refine w_gp (fun v => v = v15 &&& (1 : Int32)) rfl (fun v16 q16 => ?_)
          have b16x : zB v16 0 1 := by rw [q16]; exact (zand_b (zB_any v15) (zB.of (x := 1) 1 (by decide)) (by decide))
          refine z_if_eq (pc := 79) 100 C dX9_promises_79 (by decide) (fun h79_16 => ?_) (fun h79_16 => ?_)
          · skip
            have b18x : zB v16 0 0 := by have q1 := b16x; have q2 := (zB.of (x := 0) 0 (by decide)); simp only [z32lt, z32le, z32eq, Int32.reduceToInt, Int32.toInt_zero] at h79_16; constructor <;> omega
            refine z_iinc (pc := 100) (v := 1) C dX9_promises_100 rfl (by decide) (by rw [hn]; decide) rfl ?_
            obtain ⟨v19, hv19, e19⟩ : ∃ v : Int32, v = a30_4 + 1 ∧ v.toInt = a30_4.toInt + 1 := ⟨_, rfl, zadd_eb b5x (zB.of (x := 1) 1 (by decide)) (by decide) (by decide)⟩
            rw [← hv19]
            have b19x : zB v19 1 12 := by have q9 := b5x; constructor <;> omega
            refine z_goto (pc := 103) 30 C dX9_promises_103 (by decide) ?_
            refine w_mask [5] ?_
            exact ih0 b30_1 b30_2 a30_3 b30_3 v19 (zB.wk (a' := 0) (b' := 12) b19x (by decide) (by decide)) g30_ hI30_ hF30_ (zB.wk c7x (by decide) (by decide)) (by exact hR30_0) (by
                                                                                          have hn : (v19).toInt.toNat = a30_4.toInt.toNat + 1 := by omega
                                                                                          have hx : m8 = a30_4.toInt.toNat := by omega
                                                                                          have b8 : (f 1 0 6).toInt ≤ 8 := (hI 1 0 6).2
                                                                                          have k11 : ∀ q j, j < 8 → g30_ 11 q j = f 11 q j := fun q j hj => by rcases (show j = 0 ∨ j = 1 ∨ j = 2 ∨ j = 3 ∨ j = 4 ∨ j = 5 ∨ j = 6 ∨ j = 7 by omega) with rfl | rfl | rfl | rfl | rfl | rfl | rfl | rfl <;> exact hF30_ 11 q _ rfl
                                                                                          have k8 : ∀ n j, g30_ 8 n j = f 8 n j := fun n j => hF30_ 8 n j rfl
                                                                                          have k9 : ∀ n j, g30_ 9 n j = f 9 n j := fun n j => hF30_ 9 n j rfl
                                                                                          have k10 : ∀ n j, g30_ 10 n j = f 10 n j := fun n j => hF30_ 10 n j rfl
                                                                                          have k6 : ∀ n j, g30_ 6 n j = f 6 n j := fun n j => hF30_ 6 n j rfl
                                                                                          have k1 : g30_ 1 0 6 = f 1 0 6 := hF30_ 1 0 6 rfl
                                                                                          have r56 := q10
                                                                                          rw [hx, k11 _ 2 (by decide)] at r56
                                                                                          rw [hn, zbe, ← hR30_1]
                                                                                          have hg := hp14_0
                                                                                          rw [hx] at hg
                                                                                          have hv := zgbf (f := f) hI30_ hR30_0 (by omega) k1 (k11 _) k8 k9 k10 k6 hg
                                                                                          have hb := zbt_bit (i := a2.toInt.toNat) hv (by omega) (by omega)
                                                                                          have hd : a2 = nI a2.toInt.toNat := (nI_ofI (by omega)).1
                                                                                          have z := z01b (x := v14) (a := a2.toInt.toNat) (by omega)
                                                                                          rw [← hd, ← q15, ← q16] at z
                                                                                          rw [if_neg (fun h => by
                                                                                            rw [if_pos (hb.mpr h.1.2)] at z
                                                                                            exact absurd (show v16 = 0 by assumption) (by rw [z]; decide))]) (by omega) (by exact hR30_3) (by omega) (by omega) (by omega)
          · skip
            have b20x : zB v16 1 1 := by have q1 := b16x; have q2 := (zB.of (x := 0) 0 (by decide)); simp only [z32lt, z32le, z32eq, Int32.reduceToInt, Int32.toInt_zero] at h79_16; constructor <;> omega
            refine z_aload (pc := 82) C dX9_promises_82 rfl ?_
            refine z_getI (pc := 84) C zf_X9_176 rfl rfl h8x dX9_promises_84 ?_
            refine w_gp (fun v => v = g30_ 11 m8 7) rfl (fun v22 q22 => ?_)
            have b22x : zB v22 0 7 := by rw [q22]; exact (hI30_ 11 m8 7)
            refine z_iload_n (pc := 87) C dX9_promises_87 rfl ?_
            refine z_callS (pc := 88) C zk_X9_317 (x_X9_isLess _ _ v22 b22x a30_3 b30_3 (by first | assumption | omega) hI30_) rfl rfl (Nat.le_of_ble_eq_true rfl) dX9_promises_88 (fun r23 g23 q23 => ?_)
            obtain ⟨⟨v23, rfl, b23x⟩, hI23, hF23q, hp23_0⟩ := q23
            have hp23_0 := hp23_0 _ rfl
            obtain rfl := zFr_nil hF23q
            simp only [Option.toList, List.cons_append, List.nil_append]
            refine z_if_eq (pc := 91) 100 C dX9_promises_91 (by decide) (fun h91_23 => ?_) (fun h91_23 => ?_)
            · skip
              have b25x : zB v23 0 0 := by have q1 := b23x; have q2 := (zB.of (x := 0) 0 (by decide)); simp only [z32lt, z32le, z32eq, Int32.reduceToInt, Int32.toInt_zero] at h91_23; constructor <;> omega
              refine z_iinc (pc := 100) (v := 1) C dX9_promises_100 rfl (by decide) (by rw [hn]; decide) rfl ?_
              obtain ⟨v26, hv26, e26⟩ : ∃ v : Int32, v = a30_4 + 1 ∧ v.toInt = a30_4.toInt + 1 := ⟨_, rfl, zadd_eb b5x (zB.of (x := 1) 1 (by decide)) (by decide) (by decide)⟩
              rw [← hv26]
              have b26x : zB v26 1 12 := by have q9 := b5x; constructor <;> omega
              refine z_goto (pc := 103) 30 C dX9_promises_103 (by decide) ?_
              refine w_mask [5] ?_
              exact ih0 b30_1 b30_2 a30_3 b30_3 v26 (zB.wk (a' := 0) (b' := 12) b26x (by decide) (by decide)) g30_ hI30_ hF30_ (zB.wk c7x (by decide) (by decide)) (by exact hR30_0) (by
                                                                                          have hn : (v26).toInt.toNat = a30_4.toInt.toNat + 1 := by omega
                                                                                          have hx : m8 = a30_4.toInt.toNat := by omega
                                                                                          have b8 : (f 1 0 6).toInt ≤ 8 := (hI 1 0 6).2
                                                                                          have k11 : ∀ q j, j < 8 → g30_ 11 q j = f 11 q j := fun q j hj => by rcases (show j = 0 ∨ j = 1 ∨ j = 2 ∨ j = 3 ∨ j = 4 ∨ j = 5 ∨ j = 6 ∨ j = 7 by omega) with rfl | rfl | rfl | rfl | rfl | rfl | rfl | rfl <;> exact hF30_ 11 q _ rfl
                                                                                          have k8 : ∀ n j, g30_ 8 n j = f 8 n j := fun n j => hF30_ 8 n j rfl
                                                                                          have k9 : ∀ n j, g30_ 9 n j = f 9 n j := fun n j => hF30_ 9 n j rfl
                                                                                          have k10 : ∀ n j, g30_ 10 n j = f 10 n j := fun n j => hF30_ 10 n j rfl
                                                                                          have k6 : ∀ n j, g30_ 6 n j = f 6 n j := fun n j => hF30_ 6 n j rfl
                                                                                          have k1 : g30_ 1 0 6 = f 1 0 6 := hF30_ 1 0 6 rfl
                                                                                          have r56 := q10
                                                                                          rw [hx, k11 _ 2 (by decide)] at r56
                                                                                          rw [hn, zbe, ← hR30_1]
                                                                                          have hg := hp14_0
                                                                                          rw [hx] at hg
                                                                                          have hv := zgbf (f := f) hI30_ hR30_0 (by omega) k1 (k11 _) k8 k9 k10 k6 hg
                                                                                          have hb := zbt_bit (i := a2.toInt.toNat) hv (by omega) (by omega)
                                                                                          have hd : a2 = nI a2.toInt.toNat := (nI_ofI (by omega)).1
                                                                                          have z := z01b (x := v14) (a := a2.toInt.toNat) (by omega)
                                                                                          rw [← hd, ← q15, ← q16] at z
                                                                                          have hbt : zga f a30_4.toInt.toNat (f 6 0 1) (f 6 0 4) (f 6 0 5) (f 6 0 6) a2.toInt.toNat := by
                                                                                            refine hb.mp ?_
                                                                                            cases q : bt v14 a2.toInt.toNat
                                                                                            · rw [q, if_neg (by decide)] at z
                                                                                              exact absurd z (by assumption)
                                                                                            · rfl
                                                                                          have r84 := q22
                                                                                          rw [hx, k11 _ 7 (by decide)] at r84
                                                                                          have hl := hp23_0
                                                                                          rw [r84] at hl
                                                                                          rw [if_neg (fun h => zbo_n hl (by omega) h.2)]) (by omega) (by exact hR30_3) (by omega) (by omega) (by omega)
            · skip
              have b27x : zB v23 1 1 := by have q1 := b23x; have q2 := (zB.of (x := 0) 0 (by decide)); simp only [z32lt, z32le, z32eq, Int32.reduceToInt, Int32.toInt_zero] at h91_23; constructor <;> omega
              refine z_aload (pc := 94) C dX9_promises_94 rfl ?_
              refine z_getI (pc := 96) C zf_X9_176 rfl rfl h8x dX9_promises_96 ?_
              refine w_gp (fun v => v = g30_ 11 m8 7) rfl (fun v29 q29 => ?_)
              have b29x : zB v29 0 7 := by rw [q29]; exact (hI30_ 11 m8 7)
              refine z_istore_n (pc := 99) C dX9_promises_99 (by rw [hn]; decide) rfl ?_
              refine z_iinc (pc := 100) (v := 1) C dX9_promises_100 rfl (by decide) (by rw [hn]; decide) rfl ?_
              obtain ⟨v30, hv30, e30⟩ : ∃ v : Int32, v = a30_4 + 1 ∧ v.toInt = a30_4.toInt + 1 := ⟨_, rfl, zadd_eb b5x (zB.of (x := 1) 1 (by decide)) (by decide) (by decide)⟩
              rw [← hv30]
              have b30x : zB v30 1 12 := by have q9 := b5x; constructor <;> omega
              refine z_goto (pc := 103) 30 C dX9_promises_103 (by decide) ?_
              refine w_mask [5] ?_
              exact ih0 b30_1 b30_2 v29 (zB.wk (a' := (-4)) (b' := 7) b29x (by decide) (by decide)) v30 (zB.wk (a' := 0) (b' := 12) b30x (by decide) (by decide)) g30_ hI30_ hF30_ (zB.wk c7x (by decide) (by decide)) (by exact hR30_0) (by
                                                                                          have hn : (v30).toInt.toNat = a30_4.toInt.toNat + 1 := by omega
                                                                                          have hx : m8 = a30_4.toInt.toNat := by omega
                                                                                          have b8 : (f 1 0 6).toInt ≤ 8 := (hI 1 0 6).2
                                                                                          have k11 : ∀ q j, j < 8 → g30_ 11 q j = f 11 q j := fun q j hj => by rcases (show j = 0 ∨ j = 1 ∨ j = 2 ∨ j = 3 ∨ j = 4 ∨ j = 5 ∨ j = 6 ∨ j = 7 by omega) with rfl | rfl | rfl | rfl | rfl | rfl | rfl | rfl <;> exact hF30_ 11 q _ rfl
                                                                                          have k8 : ∀ n j, g30_ 8 n j = f 8 n j := fun n j => hF30_ 8 n j rfl
                                                                                          have k9 : ∀ n j, g30_ 9 n j = f 9 n j := fun n j => hF30_ 9 n j rfl
                                                                                          have k10 : ∀ n j, g30_ 10 n j = f 10 n j := fun n j => hF30_ 10 n j rfl
                                                                                          have k6 : ∀ n j, g30_ 6 n j = f 6 n j := fun n j => hF30_ 6 n j rfl
                                                                                          have k1 : g30_ 1 0 6 = f 1 0 6 := hF30_ 1 0 6 rfl
                                                                                          have r56 := q10
                                                                                          rw [hx, k11 _ 2 (by decide)] at r56
                                                                                          rw [hn, zbe, ← hR30_1]
                                                                                          have hg := hp14_0
                                                                                          rw [hx] at hg
                                                                                          have hv := zgbf (f := f) hI30_ hR30_0 (by omega) k1 (k11 _) k8 k9 k10 k6 hg
                                                                                          have hb := zbt_bit (i := a2.toInt.toNat) hv (by omega) (by omega)
                                                                                          have hd : a2 = nI a2.toInt.toNat := (nI_ofI (by omega)).1
                                                                                          have z := z01b (x := v14) (a := a2.toInt.toNat) (by omega)
                                                                                          rw [← hd, ← q15, ← q16] at z
                                                                                          have hbt : zga f a30_4.toInt.toNat (f 6 0 1) (f 6 0 4) (f 6 0 5) (f 6 0 6) a2.toInt.toNat := by
                                                                                            refine hb.mp ?_
                                                                                            cases q : bt v14 a2.toInt.toNat
                                                                                            · rw [q, if_neg (by decide)] at z
                                                                                              exact absurd z (by assumption)
                                                                                            · rfl
                                                                                          have r84 := q22
                                                                                          rw [hx, k11 _ 7 (by decide)] at r84
                                                                                          have hl := hp23_0
                                                                                          rw [r84] at hl
                                                                                          have r96 := q29
                                                                                          rw [hx, k11 _ 7 (by decide)] at r96
                                                                                          rw [if_pos ⟨⟨r56.symm.trans (by assumption), hbt⟩, zbo_y hl (by omega)⟩]
                                                                                          exact r96) (by omega) (by exact hR30_3) (by omega) (by omega) (by omega)
  have J0 := J 51
  show Z X 0 [some (zr 0 0), some (zi a1), some (zi a2), none, none, none] [] f
  refine z_iload_n (pc := 0) C dX9_promises_0 rfl ?_
  refine z_callSb (pc := 1) C zk_X9_46 (m_X9_isLand _ _ _) rfl rfl (Nat.le_of_ble_eq_true rfl) dX9_promises_1 (fun h1_30 => ?_) (fun h1_30 => ?_)
  · skip
    have b32x : zB a1 0 5 := h1_30
    refine z_if_eq (pc := 4) 15 C dX9_promises_4 (by decide) (fun h => absurd h (by decide)) (fun _ => ?_)
    refine z_aload_n (pc := 7) C dX9_promises_7 rfl ?_
    refine z_iload_n (pc := 8) C dX9_promises_8 rfl ?_
    refine z_callVb (pc := 9) C zk_X9_179 (m_X9_isDeed _ _ _) rfl rfl (by decide) rfl rfl (Nat.le_of_ble_eq_true rfl) dX9_promises_9 (fun h9_32 => ?_) (fun h9_32 => ?_)
    · skip
      have b34x : zB a2 0 7 := (zltc h9_32 (hI 1 0 6).2)
      refine z_if_ne (pc := 12) 17 C dX9_promises_12 (by decide) (fun _ => ?_) (fun h => absurd h (by decide))
      refine z_aload_n (pc := 17) C dX9_promises_17 rfl ?_
      refine z_getR (pc := 18) C zf_X9_10 rfl rfl (by decide) dX9_promises_18 ?_
      refine z_callV (pc := 21) C zk_X9_280 (x_X8_weighAll _ _  hI) rfl rfl (by decide) rfl rfl (Nat.le_of_ble_eq_true rfl) dX9_promises_21 (fun r35 g35 q35 => ?_)
      obtain ⟨rfl, hI35, hF35q, hp35_0⟩ := q35
      have hF35 := zFr.tr hF hF35q (by decide)
      simp only [Option.toList, List.cons_append, List.nil_append]
      have ek35_1_0_7 : (g35 1 0 7).toInt = (f 1 0 7).toInt := by rw [hF35q 1 0 7 rfl]
      have c35_1_0_7x : zB (g35 1 0 7) 0 12 := by rw [hF35q 1 0 7 rfl]; exact ct1_0_7
      refine z_bipush (pc := 24) (v := -4) C dX9_promises_24 (by decide) ?_
      refine z_istore_n (pc := 26) C dX9_promises_26 (by rw [hn]; decide) rfl ?_
      refine z_iconst (pc := 27) (v := 0) C dX9_promises_27 (by decide) ?_
      refine z_istore (pc := 28) C dX9_promises_28 (by rw [hn]; decide) rfl ?_
      exact J0 b32x b34x (-4) (zB.wk (a' := (-4)) (b' := 7) (zB.of (x := (-4)) (-4) (by decide)) (by decide) (by decide)) 0 (zB.wk (a' := 0) (b' := 12) (zB.of (x := 0) 0 (by decide)) (by decide) (by decide)) g35 hI35 hF35 c35_1_0_7x (by exact hp35_0) (by rfl) (by exact Or.inl (by decide)) (by omega) (by have qc0 : ((-4) : Int32).toInt = (-4) := (by decide); have qc1 : (0 : Int32).toInt = 0 := (by decide); omega) (by have qc0 : ((-4) : Int32).toInt = (-4) := (by decide); have qc1 : (0 : Int32).toInt = 0 := (by decide); omega) (by have qc0 : ((-4) : Int32).toInt = (-4) := (by decide); have qc1 : (0 : Int32).toInt = 0 := (by decide); omega)
    · skip
      refine z_if_ne (pc := 12) 17 C dX9_promises_12 (by decide) (fun h => absurd (by decide) h) (fun _ => ?_)
      refine z_iconst (pc := 15) (v := -1) C dX9_promises_15 (by decide) ?_
      exact z_iret (pc := 16) C hr dX9_promises_16 ⟨⟨_, rfl, (zB.wk (a' := (-4)) (b' := 7) (zB.of (x := (-1)) (-1) (by decide)) (by decide) (by decide))⟩, hI, hF, (by intro v hv; cases hv; exact Or.inl ⟨by omega, rfl⟩)⟩
  · skip
    refine z_if_eq (pc := 4) 15 C dX9_promises_4 (by decide) (fun _ => ?_) (fun h => absurd (by decide) h)
    refine z_iconst (pc := 15) (v := -1) C dX9_promises_15 (by decide) ?_
    exact z_iret (pc := 16) C hr dX9_promises_16 ⟨⟨_, rfl, (zB.wk (a' := (-4)) (b' := 7) (zB.of (x := (-1)) (-1) (by decide)) (by decide) (by decide))⟩, hI, hF, (by intro v hv; cases hv; exact Or.inl ⟨by omega, rfl⟩)⟩

set_option maxRecDepth 100000 in
set_option maxHeartbeats 4000000 in
theorem x_X10_ones (d : Nat) (f : zM) (a0 : Int32) (b0 : zB a0 0 63) (hI : zInv f) : ZM d yX10_ones cX10_ones 3 (some .int) [zi a0] f (fun r g => (∃ v, r = some (zi v) ∧ zB v 0 63) ∧ zInv g ∧ zFr [] f g ∧ (∀ v : Int32, r = some (zi v) → v.toInt = (zpn a0 : Int))) := by
  refine ZM.intro (by decide +kernel) (Nat.le_of_ble_eq_true rfl) ?_
  intro X C hr hn
  have hF : zFr [] f f := zFr.rf _ _
  have J : ∀ t : Nat, (∀ a4_1 : Int32, zB a4_1 0 63 → ∀ a4_2 : Int32, zB a4_2 0 63 → ∀ g : zM, zInv g → zFr [] f g → (a4_1.toInt + a4_2.toInt ≤ 63) → (zpn a4_2 + a4_1.toInt.toNat = zpn a0) → (0 + 3 * (a4_2.toInt - 0) : Int) < t → Z X 4 [some (zi a0), some (zi a4_1), some (zi a4_2)] [] g) := by
    intro t
    induction t with
    | zero =>
      intros; exfalso; omega
    | succ t ih =>
      have ih0 := ih
      intro a4_1 b4_1 a4_2 b4_2 g4_ hI4_ hF4_ hR4_0 hR4_1 hM4_
      refine z_iload_n (pc := 4) C dX10_ones_4 rfl ?_
      refine z_if_eq (pc := 5) 20 C dX10_ones_5 (by decide) (fun h5_0 => ?_) (fun h5_0 => ?_)
      · skip
        have b2x : zB a4_2 0 0 := by have q1 := b4_2; have q2 := (zB.of (x := 0) 0 (by decide)); simp only [z32lt, z32le, z32eq, Int32.reduceToInt, Int32.toInt_zero] at h5_0; constructor <;> omega
        refine z_iload_n (pc := 20) C dX10_ones_20 rfl ?_
        exact z_iret (pc := 21) C hr dX10_ones_21 ⟨⟨_, rfl, b4_1⟩, hI4_, hF4_, (by
                                                                                          intro v hv; cases hv
                                                                                          have hz : zpn a4_2 = 0 := by rw [show a4_2 = 0 by assumption]; rfl
                                                                                          omega)⟩
      · skip
        have b3x : zB a4_2 1 63 := by have q1 := b4_2; have q2 := (zB.of (x := 0) 0 (by decide)); simp only [z32lt, z32le, z32eq, Int32.reduceToInt, Int32.toInt_zero] at h5_0; constructor <;> omega
        refine z_iinc (pc := 8) (v := 1) C dX10_ones_8 rfl (by decide) (by rw [hn]; decide) rfl ?_
        obtain ⟨v4, hv4, e4⟩ : ∃ v : Int32, v = a4_1 + 1 ∧ v.toInt = a4_1.toInt + 1 := ⟨_, rfl, zadd_eb b4_1 (zB.of (x := 1) 1 (by decide)) (by decide) (by decide)⟩
        rw [← hv4]
        have b4x : zB v4 1 64 := by have q9 := b4_1; constructor <;> omega
        refine z_iload_n (pc := 11) C dX10_ones_11 rfl ?_
        refine z_iload_n (pc := 12) C dX10_ones_12 rfl ?_
        refine z_iconst (pc := 13) (v := 1) C dX10_ones_13 (by decide) ?_
        refine z_isub (pc := 14) C dX10_ones_14 ?_
        refine w_gp (fun v => v = a4_2 - (1 : Int32)) rfl (fun v5 q5 => ?_)
        have e5 : v5.toInt = a4_2.toInt - 1 := by rw [q5]; exact (zsub_eb b3x (zB.of (x := 1) 1 (by decide)) (by decide) (by decide))
        have b5x : zB v5 0 62 := by have q1 := b3x; have q2 := (zB.of (x := 1) 1 (by decide)); constructor <;> omega
        refine z_iand (pc := 15) C dX10_ones_15 ?_
        refine w_gp (fun v => v = a4_2 &&& v5) rfl (fun v6 q6 => ?_)
        have b6x : zB v6 0 62 := by rw [q6]; exact (zand_b b3x b5x (by decide))
        have hz16 : v6.toInt < a4_2.toInt ∧ zpn v6 + 1 = zpn a4_2 := by rw [q6, q5]; exact zones_s b3x
        refine z_istore_n (pc := 16) C dX10_ones_16 (by rw [hn]; decide) rfl ?_
        refine z_goto (pc := 17) 4 C dX10_ones_17 (by decide) ?_
        exact ih0 v4 (by constructor <;> omega) v6 (zB.wk (a' := 0) (b' := 63) b6x (by decide) (by decide)) g4_ hI4_ hF4_ (by omega) (by omega) (by omega)
  have J0 := J 204
  show Z X 0 [some (zi a0), none, none] [] f
  refine z_iconst (pc := 0) (v := 0) C dX10_ones_0 (by decide) ?_
  refine z_istore_n (pc := 1) C dX10_ones_1 (by rw [hn]; decide) rfl ?_
  refine z_iload_n (pc := 2) C dX10_ones_2 rfl ?_
  refine z_istore_n (pc := 3) C dX10_ones_3 (by rw [hn]; decide) rfl ?_
  exact J0 0 (zB.wk (a' := 0) (b' := 63) (zB.of (x := 0) 0 (by decide)) (by decide) (by decide)) a0 b0 f hI hF (by have qc0 : (0 : Int32).toInt = 0 := (by decide); omega) (by rfl) (by have qc0 : (0 : Int32).toInt = 0 := (by decide); omega)

set_option maxRecDepth 100000 in
set_option maxHeartbeats 4000000 in
theorem y_X10_promises (d : Nat) (f : zM) (a1 : Int32) (b1 : zB a1 (-2147483648) 2147483647) (a2 : Int32) (b2 : zB a2 (-2147483648) 2147483647) (hI : zInv f) : ZM (d + 6) yX10_promises cX10_promises 6 (some .int) [zr 25 0, zi a1, zi a2] f (fun r g => (∃ v, r = some (zi v) ∧ zB v (-4) 7) ∧ zInv g ∧ zFr [(31, none)] f g ∧ (∀ v : Int32, r = some (zi v) → (¬ ((0 ≤ a1.toInt ∧ a1.toInt ≤ 5) ∧ (0 ≤ a2.toInt ∧ a2.toInt < (f 25 0 2).toInt)) ∧ v = -1) ∨ (((0 ≤ a1.toInt ∧ a1.toInt ≤ 5) ∧ (0 ≤ a2.toInt ∧ a2.toInt < (f 25 0 2).toInt)) ∧ v = zbe (fun k => f 28 0 (8 * k + 2) = a1 ∧ zgr f k (f 30 0 1) (f 30 0 3) (f 30 0 4) (f 30 0 5) a2.toInt.toNat) (fun k => f 28 0 (8 * k + 7)) (f 25 0 4).toInt.toNat))) := by
  refine ZM.intro (by decide +kernel) (Nat.le_of_ble_eq_true rfl) ?_
  intro X C hr hn
  have hF : zFr [(31, none)] f f := zFr.rf _ _
  have ct25_0_4 : zB (f 25 0 4) 0 12 := hI 25 0 4
  have J : ∀ t : Nat, (zB a1 0 5 → zB a2 0 7 → ∀ a27_3 : Int32, zB a27_3 (-4) 7 → ∀ a27_4 : Int32, zB a27_4 0 12 → ∀ g : zM, zInv g → zFr [(31, none)] f g → zB (g 25 0 4) 0 12 → ((∀ q : Nat, (q : Int) < (f 25 0 4).toInt → g 31 0 q = zbf (fun i => zcr f q i ∧ zsr f q i = 0) (f 25 0 2).toInt.toNat)) → (a27_3 = zbe (fun k => f 28 0 (8 * k + 2) = a1 ∧ zgr f k (f 30 0 1) (f 30 0 3) (f 30 0 4) (f 30 0 5) a2.toInt.toNat) (fun k => f 28 0 (8 * k + 7)) (a27_4.toInt.toNat)) → ((a27_3.toInt = -4 ∨ 0 ≤ a27_3.toInt)) → (((0 ≤ a1.toInt ∧ a1.toInt ≤ 5) ∧ (0 ≤ a2.toInt ∧ a2.toInt < (f 25 0 2).toInt))) → (a27_4.toInt ≤ (f 25 0 4).toInt) → ((g 25 0 4).toInt = (f 25 0 4).toInt) → (0 + 3 * (12 - a27_4.toInt) : Int) < t → Z X 27 [some (zr 25 0), some (zi a1), some (zi a2), some (zi a27_3), some (zi a27_4), none] [] g) := by
    intro t
    induction t with
    | zero =>
      intros; exfalso; omega
    | succ t ih =>
      have ih0 := ih
      intro b27_1 b27_2 a27_3 b27_3 a27_4 b27_4 g27_ hI27_ hF27_ f27_25_0_4 hR27_0 hR27_1 hR27_2 hR27_3 hR27_4 hR27_5 hM27_
      refine z_iload (pc := 27) C dX10_promises_27 rfl ?_
      refine z_aload_n (pc := 29) C dX10_promises_29 rfl ?_
      refine z_getI (pc := 30) C zf_X10_77 rfl rfl (by decide) dX10_promises_30 ?_
      refine w_gp (fun v => v = g27_ 25 0 4) rfl (fun v1 q1 => ?_)
      have e1 : v1.toInt = (g27_ 25 0 4).toInt := by rw [q1]
      have b1x : zB v1 0 12 := by first | exact zB.eqv e1 f27_25_0_4 | (have q9 := f27_25_0_4; constructor <;> omega)
      refine z_icmp_ge (pc := 33) 128 C dX10_promises_33 (by decide) (fun h33_1 => ?_) (fun h33_1 => ?_)
      · skip
        have rr3 : a27_4.toInt ≥ v1.toInt := by simp only [z32lt, z32le, z32eq] at h33_1; omega
        refine z_iload_n (pc := 128) C dX10_promises_128 rfl ?_
        exact z_iret (pc := 129) C hr dX10_promises_129 ⟨⟨_, rfl, b27_3⟩, hI27_, hF27_, (by
                                                                                          intro v hv; cases hv
                                                                                          have hn : (f 25 0 4).toInt.toNat = a27_4.toInt.toNat := by omega
                                                                                          exact Or.inr ⟨hR27_3, by rw [hn]; exact hR27_1⟩)⟩
      · skip
        have rr4 : a27_4.toInt < v1.toInt := by simp only [z32lt, z32le, z32eq] at h33_1; omega
        have b5x : zB a27_4 0 11 := by have q1 := b27_4; have q2 := b1x; simp only [z32lt, z32le, z32eq, Int32.reduceToInt, Int32.toInt_zero] at h33_1; constructor <;> omega
        have b6x : zB v1 1 12 := by have q1 := b27_4; have q2 := b1x; simp only [z32lt, z32le, z32eq, Int32.reduceToInt, Int32.toInt_zero] at h33_1; constructor <;> omega
        have c7x : zB (g27_ 25 0 4) 1 12 := by first | assumption | (constructor <;> omega)
        refine z_aload_n (pc := 36) C dX10_promises_36 rfl ?_
        refine z_getR (pc := 37) C zf_X10_16 rfl rfl (by decide) dX10_promises_37 ?_
        refine z_bipush (pc := 40) (v := 8) C dX10_promises_40 (by decide) ?_
        refine z_iload (pc := 42) C dX10_promises_42 rfl ?_
        refine z_imul (pc := 44) C dX10_promises_44 ?_
        refine w_gp (fun v => v = (8 : Int32) * a27_4) rfl (fun v8 q8 => ?_)
        have e8 : v8.toInt = 8 * a27_4.toInt := by rw [q8]; exact (zmul_kb 8 (by decide) (by decide) b5x (by decide) (by decide))
        have b8x : zB v8 0 88 := zmul_bb e8 (by decide) b5x
        refine z_bipush (pc := 45) (v := 7) C dX10_promises_45 (by decide) ?_
        refine z_iadd (pc := 47) C dX10_promises_47 ?_
        refine w_gp (fun v => v = v8 + (7 : Int32)) rfl (fun v9 q9 => ?_)
        have e9 : v9.toInt = v8.toInt + 7 := by rw [q9]; exact (zadd_eb b8x (zB.of (x := 7) 7 (by decide)) (by decide) (by decide))
        have b9x : zB v9 7 95 := by have q1 := b8x; have q2 := (zB.of (x := 7) 7 (by decide)); constructor <;> omega
        refine z_iald (pc := 48) C rfl (by decide) (zIx b9x (by decide) (by decide)) dX10_promises_48 ?_
        have kq48_9 : v9.toNatClampNeg = v9.toInt.toNat := rfl
        refine w_gp (fun v => v = g27_ 28 0 v9.toNatClampNeg) rfl (fun v10 q10 => ?_)
        have b10x : zB v10 0 7 := by rw [q10]; exact (by have hq9 := hI27_ 28 0 v9.toNatClampNeg; rw [zrg28 (r := 7) (by have hq : v9.toNatClampNeg = v9.toInt.toNat := rfl; have hq2 := b9x; omega)] at hq9; exact hq9)
        refine z_istore (pc := 49) C dX10_promises_49 (by rw [hn]; decide) rfl ?_
        refine z_aload_n (pc := 51) C dX10_promises_51 rfl ?_
        refine z_getR (pc := 52) C zf_X10_16 rfl rfl (by decide) dX10_promises_52 ?_
        refine z_bipush (pc := 55) (v := 8) C dX10_promises_55 (by decide) ?_
        refine z_iload (pc := 57) C dX10_promises_57 rfl ?_
        refine z_imul (pc := 59) C dX10_promises_59 ?_
        refine w_gp (fun v => v = (8 : Int32) * a27_4) rfl (fun v11 q11 => ?_)
        have e11 : v11.toInt = 8 * a27_4.toInt := by rw [q11]; exact (zmul_kb 8 (by decide) (by decide) b5x (by decide) (by decide))
        have b11x : zB v11 0 88 := zmul_bb e11 (by decide) b5x
        refine z_iconst (pc := 60) (v := 2) C dX10_promises_60 (by decide) ?_
        refine z_iadd (pc := 61) C dX10_promises_61 ?_
        refine w_gp (fun v => v = v11 + (2 : Int32)) rfl (fun v12 q12 => ?_)
        have e12 : v12.toInt = v11.toInt + 2 := by rw [q12]; exact (zadd_eb b11x (zB.of (x := 2) 2 (by decide)) (by decide) (by decide))
        have b12x : zB v12 2 90 := by have q1 := b11x; have q2 := (zB.of (x := 2) 2 (by decide)); constructor <;> omega
        refine z_iald (pc := 62) C rfl (by decide) (zIx b12x (by decide) (by decide)) dX10_promises_62 ?_
        have kq62_12 : v12.toNatClampNeg = v12.toInt.toNat := rfl
        refine w_gp (fun v => v = g27_ 28 0 v12.toNatClampNeg) rfl (fun v13 q13 => ?_)
        have b13x : zB v13 0 5 := by rw [q13]; exact (by have hq9 := hI27_ 28 0 v12.toNatClampNeg; rw [zrg28 (r := 2) (by have hq : v12.toNatClampNeg = v12.toInt.toNat := rfl; have hq2 := b12x; omega)] at hq9; exact hq9)
        refine z_iload_n (pc := 63) C dX10_promises_63 rfl ?_
        refine z_icmp_ne (pc := 64) 122 C dX10_promises_64 (by decide) (fun h64_13 => ?_) (fun h64_13 => ?_)
        · skip
          refine z_iinc (pc := 122) (v := 1) C dX10_promises_122 rfl (by decide) (by rw [hn]; decide) rfl ?_
          obtain ⟨v15, hv15, e15⟩ : ∃ v : Int32, v = a27_4 + 1 ∧ v.toInt = a27_4.toInt + 1 := ⟨_, rfl, zadd_eb b5x (zB.of (x := 1) 1 (by decide)) (by decide) (by decide)⟩
          rw [← hv15]
          have b15x : zB v15 1 12 := by have q9 := b5x; constructor <;> omega
          refine z_goto (pc := 125) 27 C dX10_promises_125 (by decide) ?_
          refine w_mask [5] ?_
          exact ih0 b27_1 b27_2 a27_3 b27_3 v15 (zB.wk (a' := 0) (b' := 12) b15x (by decide) (by decide)) g27_ hI27_ hF27_ (zB.wk c7x (by decide) (by decide)) (by exact hR27_0) (by
                                                                                          have hn : (v15).toInt.toNat = a27_4.toInt.toNat + 1 := by omega
                                                                                          have b8 : (f 25 0 2).toInt ≤ 8 := (hI 25 0 2).2
                                                                                          have k25 : g27_ 25 0 = f 25 0 := funext (fun j => hF27_ 25 0 j rfl)
                                                                                          have k26 : g27_ 26 0 = f 26 0 := funext (fun j => hF27_ 26 0 j rfl)
                                                                                          have k27 : g27_ 27 0 = f 27 0 := funext (fun j => hF27_ 27 0 j rfl)
                                                                                          have k28 : g27_ 28 0 = f 28 0 := funext (fun j => hF27_ 28 0 j rfl)
                                                                                          have k30 : g27_ 30 0 = f 30 0 := funext (fun j => hF27_ 30 0 j rfl)
                                                                                          have x48 : (v9).toNatClampNeg = 8 * a27_4.toInt.toNat + 7 := by omega
                                                                                          have r48 := q10
                                                                                          rw [x48, k28] at r48
                                                                                          have x62 : (v12).toNatClampNeg = 8 * a27_4.toInt.toNat + 2 := by omega
                                                                                          have r62 := q13
                                                                                          rw [x62, k28] at r62
                                                                                          rw [hn, zbe, ← hR27_1]
                                                                                          rw [if_neg (fun h => absurd (r62.trans h.1.1) (by assumption))]) (by omega) (by exact hR27_3) (by omega) (by omega) (by omega)
        · skip
          have rr16 : v13.toInt = a1.toInt := by simp only [z32lt, z32le, z32eq] at h64_13; omega
          refine z_aload_n (pc := 67) C dX10_promises_67 rfl ?_
          refine z_iload (pc := 68) C dX10_promises_68 rfl ?_
          refine z_callV (pc := 70) C zk_X10_154 (x_X10_goesNow _ _ a27_4 b5x hI27_) rfl rfl (by decide) rfl rfl (Nat.le_of_ble_eq_true rfl) dX10_promises_70 (fun r17 g17 q17 => ?_)
          obtain ⟨⟨v17, rfl, b17x⟩, hI17, hF17q, hp17_0⟩ := q17
          have hp17_0 := hp17_0 _ rfl
          obtain rfl := zFr_nil hF17q
          simp only [Option.toList, List.cons_append, List.nil_append]
          refine z_iload_n (pc := 73) C dX10_promises_73 rfl ?_
          refine z_ishr (pc := 74) C dX10_promises_74 ?_
          refine w_gp (fun v => v = v17 >>> (a2 &&& 31)) rfl (fun v18 q18 => ?_)
          refine z_iconst (pc := 75) (v := 1) C dX10_promises_75 (by decide) ?_
          refine z_iand (pc := 76) C dX10_promises_76 ?_
          refine w_gp (fun v => v = v18 &&& (1 : Int32)) rfl (fun v19 q19 => ?_)
          have b19x : zB v19 0 1 := by rw [q19]; exact (zand_b (zB_any v18) (zB.of (x := 1) 1 (by decide)) (by decide))
          refine z_iconst (pc := 77) (v := 1) C dX10_promises_77 (by decide) ?_
          refine z_icmp_ne (pc := 78) 122 C dX10_promises_78 (by decide) (fun h78_19 => ?_) (fun h78_19 => ?_)
          · skip
            have b21x : zB v19 0 0 := by have q1 := b19x; have q2 := (zB.of (x := 1) 1 (by decide)); simp only [z32lt, z32le, z32eq, Int32.reduceToInt, Int32.toInt_zero] at h78_19; constructor <;> omega
            refine z_iinc (pc := 122) (v := 1) C dX10_promises_122 rfl (by decide) (by rw [hn]; decide) rfl ?_
            obtain ⟨v22, hv22, e22⟩ : ∃ v : Int32, v = a27_4 + 1 ∧ v.toInt = a27_4.toInt + 1 := ⟨_, rfl, zadd_eb b5x (zB.of (x := 1) 1 (by decide)) (by decide) (by decide)⟩
            rw [← hv22]
            have b22x : zB v22 1 12 := by have q9 := b5x; constructor <;> omega
            refine z_goto (pc := 125) 27 C dX10_promises_125 (by decide) ?_
            refine w_mask [5] ?_
            exact ih0 b27_1 b27_2 a27_3 b27_3 v22 (zB.wk (a' := 0) (b' := 12) b22x (by decide) (by decide)) g27_ hI27_ hF27_ (zB.wk c7x (by decide) (by decide)) (by exact hR27_0) (by
                                                                                          have hn : (v22).toInt.toNat = a27_4.toInt.toNat + 1 := by omega
                                                                                          have b8 : (f 25 0 2).toInt ≤ 8 := (hI 25 0 2).2
                                                                                          have k25 : g27_ 25 0 = f 25 0 := funext (fun j => hF27_ 25 0 j rfl)
                                                                                          have k26 : g27_ 26 0 = f 26 0 := funext (fun j => hF27_ 26 0 j rfl)
                                                                                          have k27 : g27_ 27 0 = f 27 0 := funext (fun j => hF27_ 27 0 j rfl)
                                                                                          have k28 : g27_ 28 0 = f 28 0 := funext (fun j => hF27_ 28 0 j rfl)
                                                                                          have k30 : g27_ 30 0 = f 30 0 := funext (fun j => hF27_ 30 0 j rfl)
                                                                                          have x48 : (v9).toNatClampNeg = 8 * a27_4.toInt.toNat + 7 := by omega
                                                                                          have r48 := q10
                                                                                          rw [x48, k28] at r48
                                                                                          have x62 : (v12).toNatClampNeg = 8 * a27_4.toInt.toNat + 2 := by omega
                                                                                          have r62 := q13
                                                                                          rw [x62, k28] at r62
                                                                                          rw [hn, zbe, ← hR27_1]
                                                                                          have hv := zgs (f := f) hI k25 k26 k27 k28 (hR27_0 a27_4.toInt.toNat (by omega)) hp17_0
                                                                                          rw [k30] at hv
                                                                                          have hb := zbt_bit (i := a2.toInt.toNat) hv (by omega) (by omega)
                                                                                          have hd : a2 = nI a2.toInt.toNat := (nI_ofI (by omega)).1
                                                                                          have z := z01b (x := v17) (a := a2.toInt.toNat) (by omega)
                                                                                          rw [← hd, ← q18, ← q19] at z
                                                                                          rw [if_neg (fun h => by
                                                                                            rw [if_pos (hb.mpr h.1.2)] at z
                                                                                            exact absurd z (by assumption))]) (by omega) (by exact hR27_3) (by omega) (by omega) (by omega)
          · skip
            have b23x : zB v19 1 1 := by have q1 := b19x; have q2 := (zB.of (x := 1) 1 (by decide)); simp only [z32lt, z32le, z32eq, Int32.reduceToInt, Int32.toInt_zero] at h78_19; constructor <;> omega
            refine z_iload_n (pc := 81) C dX10_promises_81 rfl ?_
            refine z_if_lt (pc := 82) 115 C dX10_promises_82 (by decide) (fun h82_23 => ?_) (fun h82_23 => ?_)
            · skip
              have b25x : zB a27_3 (-4) (-1) := by have q1 := b27_3; have q2 := (zB.of (x := 0) 0 (by decide)); simp only [z32lt, z32le, z32eq, Int32.reduceToInt, Int32.toInt_zero] at h82_23; constructor <;> omega
              refine z_iload (pc := 115) C dX10_promises_115 rfl ?_
              refine z_goto (pc := 117) 121 C dX10_promises_117 (by decide) ?_
              refine z_istore_n (pc := 121) C dX10_promises_121 (by rw [hn]; decide) rfl ?_
              refine z_iinc (pc := 122) (v := 1) C dX10_promises_122 rfl (by decide) (by rw [hn]; decide) rfl ?_
              obtain ⟨v26, hv26, e26⟩ : ∃ v : Int32, v = a27_4 + 1 ∧ v.toInt = a27_4.toInt + 1 := ⟨_, rfl, zadd_eb b5x (zB.of (x := 1) 1 (by decide)) (by decide) (by decide)⟩
              rw [← hv26]
              have b26x : zB v26 1 12 := by have q9 := b5x; constructor <;> omega
              refine z_goto (pc := 125) 27 C dX10_promises_125 (by decide) ?_
              refine w_mask [5] ?_
              exact ih0 b27_1 b27_2 v10 (zB.wk (a' := (-4)) (b' := 7) b10x (by decide) (by decide)) v26 (zB.wk (a' := 0) (b' := 12) b26x (by decide) (by decide)) g27_ hI27_ hF27_ (zB.wk c7x (by decide) (by decide)) (by exact hR27_0) (by
                                                                                          have hn : (v26).toInt.toNat = a27_4.toInt.toNat + 1 := by omega
                                                                                          have b8 : (f 25 0 2).toInt ≤ 8 := (hI 25 0 2).2
                                                                                          have k25 : g27_ 25 0 = f 25 0 := funext (fun j => hF27_ 25 0 j rfl)
                                                                                          have k26 : g27_ 26 0 = f 26 0 := funext (fun j => hF27_ 26 0 j rfl)
                                                                                          have k27 : g27_ 27 0 = f 27 0 := funext (fun j => hF27_ 27 0 j rfl)
                                                                                          have k28 : g27_ 28 0 = f 28 0 := funext (fun j => hF27_ 28 0 j rfl)
                                                                                          have k30 : g27_ 30 0 = f 30 0 := funext (fun j => hF27_ 30 0 j rfl)
                                                                                          have x48 : (v9).toNatClampNeg = 8 * a27_4.toInt.toNat + 7 := by omega
                                                                                          have r48 := q10
                                                                                          rw [x48, k28] at r48
                                                                                          have x62 : (v12).toNatClampNeg = 8 * a27_4.toInt.toNat + 2 := by omega
                                                                                          have r62 := q13
                                                                                          rw [x62, k28] at r62
                                                                                          rw [hn, zbe, ← hR27_1]
                                                                                          have hv := zgs (f := f) hI k25 k26 k27 k28 (hR27_0 a27_4.toInt.toNat (by omega)) hp17_0
                                                                                          rw [k30] at hv
                                                                                          have hb := zbt_bit (i := a2.toInt.toNat) hv (by omega) (by omega)
                                                                                          have hd : a2 = nI a2.toInt.toNat := (nI_ofI (by omega)).1
                                                                                          have z := z01b (x := v17) (a := a2.toInt.toNat) (by omega)
                                                                                          rw [← hd, ← q18, ← q19] at z
                                                                                          have hbt : zgr f a27_4.toInt.toNat (f 30 0 1) (f 30 0 3) (f 30 0 4) (f 30 0 5) a2.toInt.toNat := by
                                                                                            refine hb.mp ?_
                                                                                            cases q : bt v17 a2.toInt.toNat
                                                                                            · rw [q, if_neg (by decide)] at z
                                                                                              exact absurd (show v19 = 1 by assumption) (by rw [z]; decide)
                                                                                            · rfl
                                                                                          have hl : zls (v10) a27_3 := by unfold zls; omega
                                                                                          rw [r48] at hl
                                                                                          rw [if_pos ⟨⟨r62.symm.trans (by assumption), hbt⟩, hl⟩]
                                                                                          exact r48) (by omega) (by exact hR27_3) (by omega) (by omega) (by omega)
            · skip
              have b27x : zB a27_3 0 7 := by have q1 := b27_3; have q2 := (zB.of (x := 0) 0 (by decide)); simp only [z32lt, z32le, z32eq, Int32.reduceToInt, Int32.toInt_zero] at h82_23; constructor <;> omega
              refine z_iload (pc := 85) C dX10_promises_85 rfl ?_
              refine z_callS (pc := 87) C zk_X10_194 (x_X10_ones _ _ v10 (zB.wk (a' := 0) (b' := 63) b10x (by decide) (by decide)) hI27_) rfl rfl (Nat.le_of_ble_eq_true rfl) dX10_promises_87 (fun r28 g28 q28 => ?_)
              obtain ⟨⟨v28, rfl, b28x⟩, hI28, hF28q, hp28_0⟩ := q28
              have hp28_0 := hp28_0 _ rfl
              obtain rfl := zFr_nil hF28q
              simp only [Option.toList, List.cons_append, List.nil_append]
              refine z_iload_n (pc := 90) C dX10_promises_90 rfl ?_
              refine z_callS (pc := 91) C zk_X10_194 (x_X10_ones _ _ a27_3 (zB.wk (a' := 0) (b' := 63) b27x (by decide) (by decide)) hI27_) rfl rfl (Nat.le_of_ble_eq_true rfl) dX10_promises_91 (fun r29 g29 q29 => ?_)
              obtain ⟨⟨v29, rfl, b29x⟩, hI29, hF29q, hp29_0⟩ := q29
              have hp29_0 := hp29_0 _ rfl
              obtain rfl := zFr_nil hF29q
              simp only [Option.toList, List.cons_append, List.nil_append]
              refine z_icmp_lt (pc := 94) 115 C dX10_promises_94 (by decide) (fun h94_29 => ?_) (fun h94_29 => ?_)
              · skip
                have rr31 : v28.toInt < v29.toInt := by simp only [z32lt, z32le, z32eq] at h94_29; omega
                have b32x : zB v28 0 62 := by have q1 := b28x; have q2 := b29x; simp only [z32lt, z32le, z32eq, Int32.reduceToInt, Int32.toInt_zero] at h94_29; constructor <;> omega
                have b33x : zB v29 1 63 := by have q1 := b28x; have q2 := b29x; simp only [z32lt, z32le, z32eq, Int32.reduceToInt, Int32.toInt_zero] at h94_29; constructor <;> omega
                refine z_iload (pc := 115) C dX10_promises_115 rfl ?_
                refine z_goto (pc := 117) 121 C dX10_promises_117 (by decide) ?_
                refine z_istore_n (pc := 121) C dX10_promises_121 (by rw [hn]; decide) rfl ?_
                refine z_iinc (pc := 122) (v := 1) C dX10_promises_122 rfl (by decide) (by rw [hn]; decide) rfl ?_
                obtain ⟨v34, hv34, e34⟩ : ∃ v : Int32, v = a27_4 + 1 ∧ v.toInt = a27_4.toInt + 1 := ⟨_, rfl, zadd_eb b5x (zB.of (x := 1) 1 (by decide)) (by decide) (by decide)⟩
                rw [← hv34]
                have b34x : zB v34 1 12 := by have q9 := b5x; constructor <;> omega
                refine z_goto (pc := 125) 27 C dX10_promises_125 (by decide) ?_
                refine w_mask [5] ?_
                exact ih0 b27_1 b27_2 v10 (zB.wk (a' := (-4)) (b' := 7) b10x (by decide) (by decide)) v34 (zB.wk (a' := 0) (b' := 12) b34x (by decide) (by decide)) g27_ hI27_ hF27_ (zB.wk c7x (by decide) (by decide)) (by exact hR27_0) (by
                                                                                          have hn : (v34).toInt.toNat = a27_4.toInt.toNat + 1 := by omega
                                                                                          have b8 : (f 25 0 2).toInt ≤ 8 := (hI 25 0 2).2
                                                                                          have k25 : g27_ 25 0 = f 25 0 := funext (fun j => hF27_ 25 0 j rfl)
                                                                                          have k26 : g27_ 26 0 = f 26 0 := funext (fun j => hF27_ 26 0 j rfl)
                                                                                          have k27 : g27_ 27 0 = f 27 0 := funext (fun j => hF27_ 27 0 j rfl)
                                                                                          have k28 : g27_ 28 0 = f 28 0 := funext (fun j => hF27_ 28 0 j rfl)
                                                                                          have k30 : g27_ 30 0 = f 30 0 := funext (fun j => hF27_ 30 0 j rfl)
                                                                                          have x48 : (v9).toNatClampNeg = 8 * a27_4.toInt.toNat + 7 := by omega
                                                                                          have r48 := q10
                                                                                          rw [x48, k28] at r48
                                                                                          have x62 : (v12).toNatClampNeg = 8 * a27_4.toInt.toNat + 2 := by omega
                                                                                          have r62 := q13
                                                                                          rw [x62, k28] at r62
                                                                                          rw [hn, zbe, ← hR27_1]
                                                                                          have hv := zgs (f := f) hI k25 k26 k27 k28 (hR27_0 a27_4.toInt.toNat (by omega)) hp17_0
                                                                                          rw [k30] at hv
                                                                                          have hb := zbt_bit (i := a2.toInt.toNat) hv (by omega) (by omega)
                                                                                          have hd : a2 = nI a2.toInt.toNat := (nI_ofI (by omega)).1
                                                                                          have z := z01b (x := v17) (a := a2.toInt.toNat) (by omega)
                                                                                          rw [← hd, ← q18, ← q19] at z
                                                                                          have hbt : zgr f a27_4.toInt.toNat (f 30 0 1) (f 30 0 3) (f 30 0 4) (f 30 0 5) a2.toInt.toNat := by
                                                                                            refine hb.mp ?_
                                                                                            cases q : bt v17 a2.toInt.toNat
                                                                                            · rw [q, if_neg (by decide)] at z
                                                                                              exact absurd (show v19 = 1 by assumption) (by rw [z]; decide)
                                                                                            · rfl
                                                                                          have o87 := hp28_0
                                                                                          have o91 := hp29_0
                                                                                          have hl : zls (v10) a27_3 := by unfold zls; omega
                                                                                          rw [r48] at hl
                                                                                          rw [if_pos ⟨⟨r62.symm.trans (by assumption), hbt⟩, hl⟩]
                                                                                          exact r48) (by omega) (by exact hR27_3) (by omega) (by omega) (by omega)
              · skip
                have rr35 : v28.toInt ≥ v29.toInt := by simp only [z32lt, z32le, z32eq] at h94_29; omega
                refine z_iload (pc := 97) C dX10_promises_97 rfl ?_
                refine z_callS (pc := 99) C zk_X10_194 (x_X10_ones _ _ v10 (zB.wk (a' := 0) (b' := 63) b10x (by decide) (by decide)) hI27_) rfl rfl (Nat.le_of_ble_eq_true rfl) dX10_promises_99 (fun r36 g36 q36 => ?_)
                obtain ⟨⟨v36, rfl, b36x⟩, hI36, hF36q, hp36_0⟩ := q36
                have hp36_0 := hp36_0 _ rfl
                obtain rfl := zFr_nil hF36q
                simp only [Option.toList, List.cons_append, List.nil_append]
                refine z_iload_n (pc := 102) C dX10_promises_102 rfl ?_
                refine z_callS (pc := 103) C zk_X10_194 (x_X10_ones _ _ a27_3 (zB.wk (a' := 0) (b' := 63) b27x (by decide) (by decide)) hI27_) rfl rfl (Nat.le_of_ble_eq_true rfl) dX10_promises_103 (fun r37 g37 q37 => ?_)
                obtain ⟨⟨v37, rfl, b37x⟩, hI37, hF37q, hp37_0⟩ := q37
                have hp37_0 := hp37_0 _ rfl
                obtain rfl := zFr_nil hF37q
                simp only [Option.toList, List.cons_append, List.nil_append]
                refine z_icmp_ne (pc := 106) 120 C dX10_promises_106 (by decide) (fun h106_37 => ?_) (fun h106_37 => ?_)
                · skip
                  refine z_iload_n (pc := 120) C dX10_promises_120 rfl ?_
                  refine z_istore_n (pc := 121) C dX10_promises_121 (by rw [hn]; decide) rfl ?_
                  refine z_iinc (pc := 122) (v := 1) C dX10_promises_122 rfl (by decide) (by rw [hn]; decide) rfl ?_
                  obtain ⟨v39, hv39, e39⟩ : ∃ v : Int32, v = a27_4 + 1 ∧ v.toInt = a27_4.toInt + 1 := ⟨_, rfl, zadd_eb b5x (zB.of (x := 1) 1 (by decide)) (by decide) (by decide)⟩
                  rw [← hv39]
                  have b39x : zB v39 1 12 := by have q9 := b5x; constructor <;> omega
                  refine z_goto (pc := 125) 27 C dX10_promises_125 (by decide) ?_
                  refine w_mask [5] ?_
                  exact ih0 b27_1 b27_2 a27_3 (zB.wk (a' := (-4)) (b' := 7) b27x (by decide) (by decide)) v39 (zB.wk (a' := 0) (b' := 12) b39x (by decide) (by decide)) g27_ hI27_ hF27_ (zB.wk c7x (by decide) (by decide)) (by exact hR27_0) (by
                                                                                          have hn : (v39).toInt.toNat = a27_4.toInt.toNat + 1 := by omega
                                                                                          have b8 : (f 25 0 2).toInt ≤ 8 := (hI 25 0 2).2
                                                                                          have k25 : g27_ 25 0 = f 25 0 := funext (fun j => hF27_ 25 0 j rfl)
                                                                                          have k26 : g27_ 26 0 = f 26 0 := funext (fun j => hF27_ 26 0 j rfl)
                                                                                          have k27 : g27_ 27 0 = f 27 0 := funext (fun j => hF27_ 27 0 j rfl)
                                                                                          have k28 : g27_ 28 0 = f 28 0 := funext (fun j => hF27_ 28 0 j rfl)
                                                                                          have k30 : g27_ 30 0 = f 30 0 := funext (fun j => hF27_ 30 0 j rfl)
                                                                                          have x48 : (v9).toNatClampNeg = 8 * a27_4.toInt.toNat + 7 := by omega
                                                                                          have r48 := q10
                                                                                          rw [x48, k28] at r48
                                                                                          have x62 : (v12).toNatClampNeg = 8 * a27_4.toInt.toNat + 2 := by omega
                                                                                          have r62 := q13
                                                                                          rw [x62, k28] at r62
                                                                                          rw [hn, zbe, ← hR27_1]
                                                                                          have hv := zgs (f := f) hI k25 k26 k27 k28 (hR27_0 a27_4.toInt.toNat (by omega)) hp17_0
                                                                                          rw [k30] at hv
                                                                                          have hb := zbt_bit (i := a2.toInt.toNat) hv (by omega) (by omega)
                                                                                          have hd : a2 = nI a2.toInt.toNat := (nI_ofI (by omega)).1
                                                                                          have z := z01b (x := v17) (a := a2.toInt.toNat) (by omega)
                                                                                          rw [← hd, ← q18, ← q19] at z
                                                                                          have hbt : zgr f a27_4.toInt.toNat (f 30 0 1) (f 30 0 3) (f 30 0 4) (f 30 0 5) a2.toInt.toNat := by
                                                                                            refine hb.mp ?_
                                                                                            cases q : bt v17 a2.toInt.toNat
                                                                                            · rw [q, if_neg (by decide)] at z
                                                                                              exact absurd (show v19 = 1 by assumption) (by rw [z]; decide)
                                                                                            · rfl
                                                                                          have o87 := hp28_0
                                                                                          have o91 := hp29_0
                                                                                          have o99 := hp36_0
                                                                                          have o103 := hp37_0
                                                                                          have hl : ¬ zls (v10) a27_3 := fun h => by
                                                                                            unfold zls at h
                                                                                            first
                                                                                              | omega
                                                                                              | (have hne : ¬ v36.toInt = v37.toInt := fun q => absurd ((z32eq _ _).mpr q) (by assumption)
                                                                                                 omega)
                                                                                          rw [r48] at hl
                                                                                          rw [if_neg (fun h => hl h.2)]) (by omega) (by exact hR27_3) (by omega) (by omega) (by omega)
                · skip
                  have rr40 : v36.toInt = v37.toInt := by simp only [z32lt, z32le, z32eq] at h106_37; omega
                  refine z_iload (pc := 109) C dX10_promises_109 rfl ?_
                  refine z_iload_n (pc := 111) C dX10_promises_111 rfl ?_
                  refine z_icmp_ge (pc := 112) 120 C dX10_promises_112 (by decide) (fun h112_40 => ?_) (fun h112_40 => ?_)
                  · skip
                    have rr42 : v10.toInt ≥ a27_3.toInt := by simp only [z32lt, z32le, z32eq] at h112_40; omega
                    refine z_iload_n (pc := 120) C dX10_promises_120 rfl ?_
                    refine z_istore_n (pc := 121) C dX10_promises_121 (by rw [hn]; decide) rfl ?_
                    refine z_iinc (pc := 122) (v := 1) C dX10_promises_122 rfl (by decide) (by rw [hn]; decide) rfl ?_
                    obtain ⟨v43, hv43, e43⟩ : ∃ v : Int32, v = a27_4 + 1 ∧ v.toInt = a27_4.toInt + 1 := ⟨_, rfl, zadd_eb b5x (zB.of (x := 1) 1 (by decide)) (by decide) (by decide)⟩
                    rw [← hv43]
                    have b43x : zB v43 1 12 := by have q9 := b5x; constructor <;> omega
                    refine z_goto (pc := 125) 27 C dX10_promises_125 (by decide) ?_
                    refine w_mask [5] ?_
                    exact ih0 b27_1 b27_2 a27_3 (zB.wk (a' := (-4)) (b' := 7) b27x (by decide) (by decide)) v43 (zB.wk (a' := 0) (b' := 12) b43x (by decide) (by decide)) g27_ hI27_ hF27_ (zB.wk c7x (by decide) (by decide)) (by exact hR27_0) (by
                                                                                          have hn : (v43).toInt.toNat = a27_4.toInt.toNat + 1 := by omega
                                                                                          have b8 : (f 25 0 2).toInt ≤ 8 := (hI 25 0 2).2
                                                                                          have k25 : g27_ 25 0 = f 25 0 := funext (fun j => hF27_ 25 0 j rfl)
                                                                                          have k26 : g27_ 26 0 = f 26 0 := funext (fun j => hF27_ 26 0 j rfl)
                                                                                          have k27 : g27_ 27 0 = f 27 0 := funext (fun j => hF27_ 27 0 j rfl)
                                                                                          have k28 : g27_ 28 0 = f 28 0 := funext (fun j => hF27_ 28 0 j rfl)
                                                                                          have k30 : g27_ 30 0 = f 30 0 := funext (fun j => hF27_ 30 0 j rfl)
                                                                                          have x48 : (v9).toNatClampNeg = 8 * a27_4.toInt.toNat + 7 := by omega
                                                                                          have r48 := q10
                                                                                          rw [x48, k28] at r48
                                                                                          have x62 : (v12).toNatClampNeg = 8 * a27_4.toInt.toNat + 2 := by omega
                                                                                          have r62 := q13
                                                                                          rw [x62, k28] at r62
                                                                                          rw [hn, zbe, ← hR27_1]
                                                                                          have hv := zgs (f := f) hI k25 k26 k27 k28 (hR27_0 a27_4.toInt.toNat (by omega)) hp17_0
                                                                                          rw [k30] at hv
                                                                                          have hb := zbt_bit (i := a2.toInt.toNat) hv (by omega) (by omega)
                                                                                          have hd : a2 = nI a2.toInt.toNat := (nI_ofI (by omega)).1
                                                                                          have z := z01b (x := v17) (a := a2.toInt.toNat) (by omega)
                                                                                          rw [← hd, ← q18, ← q19] at z
                                                                                          have hbt : zgr f a27_4.toInt.toNat (f 30 0 1) (f 30 0 3) (f 30 0 4) (f 30 0 5) a2.toInt.toNat := by
                                                                                            refine hb.mp ?_
                                                                                            cases q : bt v17 a2.toInt.toNat
                                                                                            · rw [q, if_neg (by decide)] at z
                                                                                              exact absurd (show v19 = 1 by assumption) (by rw [z]; decide)
                                                                                            · rfl
                                                                                          have o87 := hp28_0
                                                                                          have o91 := hp29_0
                                                                                          have o99 := hp36_0
                                                                                          have o103 := hp37_0
                                                                                          have hl : ¬ zls (v10) a27_3 := fun h => by
                                                                                            unfold zls at h
                                                                                            first
                                                                                              | omega
                                                                                              | (have hne : ¬ v36.toInt = v37.toInt := fun q => absurd ((z32eq _ _).mpr q) (by assumption)
                                                                                                 omega)
                                                                                          rw [r48] at hl
                                                                                          rw [if_neg (fun h => hl h.2)]) (by omega) (by exact hR27_3) (by omega) (by omega) (by omega)
                  · skip
                    have rr44 : v10.toInt < a27_3.toInt := by simp only [z32lt, z32le, z32eq] at h112_40; omega
                    have b45x : zB v10 0 6 := by have q1 := b10x; have q2 := b27x; simp only [z32lt, z32le, z32eq, Int32.reduceToInt, Int32.toInt_zero] at h112_40; constructor <;> omega
                    have b46x : zB a27_3 1 7 := by have q1 := b10x; have q2 := b27x; simp only [z32lt, z32le, z32eq, Int32.reduceToInt, Int32.toInt_zero] at h112_40; constructor <;> omega
                    refine z_iload (pc := 115) C dX10_promises_115 rfl ?_
                    refine z_goto (pc := 117) 121 C dX10_promises_117 (by decide) ?_
                    refine z_istore_n (pc := 121) C dX10_promises_121 (by rw [hn]; decide) rfl ?_
                    refine z_iinc (pc := 122) (v := 1) C dX10_promises_122 rfl (by decide) (by rw [hn]; decide) rfl ?_
                    obtain ⟨v47, hv47, e47⟩ : ∃ v : Int32, v = a27_4 + 1 ∧ v.toInt = a27_4.toInt + 1 := ⟨_, rfl, zadd_eb b5x (zB.of (x := 1) 1 (by decide)) (by decide) (by decide)⟩
                    rw [← hv47]
                    have b47x : zB v47 1 12 := by have q9 := b5x; constructor <;> omega
                    refine z_goto (pc := 125) 27 C dX10_promises_125 (by decide) ?_
                    refine w_mask [5] ?_
                    exact ih0 b27_1 b27_2 v10 (zB.wk (a' := (-4)) (b' := 7) b45x (by decide) (by decide)) v47 (zB.wk (a' := 0) (b' := 12) b47x (by decide) (by decide)) g27_ hI27_ hF27_ (zB.wk c7x (by decide) (by decide)) (by exact hR27_0) (by
                                                                                          have hn : (v47).toInt.toNat = a27_4.toInt.toNat + 1 := by omega
                                                                                          have b8 : (f 25 0 2).toInt ≤ 8 := (hI 25 0 2).2
                                                                                          have k25 : g27_ 25 0 = f 25 0 := funext (fun j => hF27_ 25 0 j rfl)
                                                                                          have k26 : g27_ 26 0 = f 26 0 := funext (fun j => hF27_ 26 0 j rfl)
                                                                                          have k27 : g27_ 27 0 = f 27 0 := funext (fun j => hF27_ 27 0 j rfl)
                                                                                          have k28 : g27_ 28 0 = f 28 0 := funext (fun j => hF27_ 28 0 j rfl)
                                                                                          have k30 : g27_ 30 0 = f 30 0 := funext (fun j => hF27_ 30 0 j rfl)
                                                                                          have x48 : (v9).toNatClampNeg = 8 * a27_4.toInt.toNat + 7 := by omega
                                                                                          have r48 := q10
                                                                                          rw [x48, k28] at r48
                                                                                          have x62 : (v12).toNatClampNeg = 8 * a27_4.toInt.toNat + 2 := by omega
                                                                                          have r62 := q13
                                                                                          rw [x62, k28] at r62
                                                                                          rw [hn, zbe, ← hR27_1]
                                                                                          have hv := zgs (f := f) hI k25 k26 k27 k28 (hR27_0 a27_4.toInt.toNat (by omega)) hp17_0
                                                                                          rw [k30] at hv
                                                                                          have hb := zbt_bit (i := a2.toInt.toNat) hv (by omega) (by omega)
                                                                                          have hd : a2 = nI a2.toInt.toNat := (nI_ofI (by omega)).1
                                                                                          have z := z01b (x := v17) (a := a2.toInt.toNat) (by omega)
                                                                                          rw [← hd, ← q18, ← q19] at z
                                                                                          have hbt : zgr f a27_4.toInt.toNat (f 30 0 1) (f 30 0 3) (f 30 0 4) (f 30 0 5) a2.toInt.toNat := by
                                                                                            refine hb.mp ?_
                                                                                            cases q : bt v17 a2.toInt.toNat
                                                                                            · rw [q, if_neg (by decide)] at z
                                                                                              exact absurd (show v19 = 1 by assumption) (by rw [z]; decide)
                                                                                            · rfl
                                                                                          have o87 := hp28_0
                                                                                          have o91 := hp29_0
                                                                                          have o99 := hp36_0
                                                                                          have o103 := hp37_0
                                                                                          have hl : zls (v10) a27_3 := by unfold zls; omega
                                                                                          rw [r48] at hl
                                                                                          rw [if_pos ⟨⟨r62.symm.trans (by assumption), hbt⟩, hl⟩]
                                                                                          exact r48) (by omega) (by exact hR27_3) (by omega) (by omega) (by omega)
  have J0 := J 51
  show Z X 0 [some (zr 25 0), some (zi a1), some (zi a2), none, none, none] [] f
  refine z_iload_n (pc := 0) C dX10_promises_0 rfl ?_
  refine z_callSb (pc := 1) C zk_X10_83 (m_X10_isLand _ _ _) rfl rfl (Nat.le_of_ble_eq_true rfl) dX10_promises_1 (fun h1_47 => ?_) (fun h1_47 => ?_)
  · skip
    have b49x : zB a1 0 5 := h1_47
    refine z_if_eq (pc := 4) 15 C dX10_promises_4 (by decide) (fun h => absurd h (by decide)) (fun _ => ?_)
    refine z_aload_n (pc := 7) C dX10_promises_7 rfl ?_
    refine z_iload_n (pc := 8) C dX10_promises_8 rfl ?_
    refine z_callVb (pc := 9) C zk_X10_120 (m_X10_isDeed _ _ _ hI) rfl rfl (by decide) rfl rfl (Nat.le_of_ble_eq_true rfl) dX10_promises_9 (fun h9_49 => ?_) (fun h9_49 => ?_)
    · skip
      have b51x : zB a2 0 7 := (zltc h9_49 (hI 25 0 2).2)
      refine z_if_ne (pc := 12) 17 C dX10_promises_12 (by decide) (fun _ => ?_) (fun h => absurd h (by decide))
      refine z_aload_n (pc := 17) C dX10_promises_17 rfl ?_
      refine z_callV (pc := 18) C zk_X10_151 (x_X10_findOpen _ _  hI) rfl rfl (by decide) rfl rfl (Nat.le_of_ble_eq_true rfl) dX10_promises_18 (fun r52 g52 q52 => ?_)
      obtain ⟨rfl, hI52, hF52q, hp52_0⟩ := q52
      have hF52 := zFr.tr hF hF52q (by decide)
      simp only [Option.toList, List.cons_append, List.nil_append]
      have ek52_25_0_4 : (g52 25 0 4).toInt = (f 25 0 4).toInt := by rw [hF52q 25 0 4 rfl]
      have c52_25_0_4x : zB (g52 25 0 4) 0 12 := by rw [hF52q 25 0 4 rfl]; exact ct25_0_4
      refine z_bipush (pc := 21) (v := -4) C dX10_promises_21 (by decide) ?_
      refine z_istore_n (pc := 23) C dX10_promises_23 (by rw [hn]; decide) rfl ?_
      refine z_iconst (pc := 24) (v := 0) C dX10_promises_24 (by decide) ?_
      refine z_istore (pc := 25) C dX10_promises_25 (by rw [hn]; decide) rfl ?_
      exact J0 b49x b51x (-4) (zB.wk (a' := (-4)) (b' := 7) (zB.of (x := (-4)) (-4) (by decide)) (by decide) (by decide)) 0 (zB.wk (a' := 0) (b' := 12) (zB.of (x := 0) 0 (by decide)) (by decide) (by decide)) g52 hI52 hF52 c52_25_0_4x (by exact hp52_0) (by rfl) (by exact Or.inl (by decide)) (by omega) (by have qc0 : ((-4) : Int32).toInt = (-4) := (by decide); have qc1 : (0 : Int32).toInt = 0 := (by decide); omega) (by have qc0 : ((-4) : Int32).toInt = (-4) := (by decide); have qc1 : (0 : Int32).toInt = 0 := (by decide); omega) (by have qc0 : ((-4) : Int32).toInt = (-4) := (by decide); have qc1 : (0 : Int32).toInt = 0 := (by decide); omega)
    · skip
      refine z_if_ne (pc := 12) 17 C dX10_promises_12 (by decide) (fun h => absurd (by decide) h) (fun _ => ?_)
      refine z_iconst (pc := 15) (v := -1) C dX10_promises_15 (by decide) ?_
      exact z_iret (pc := 16) C hr dX10_promises_16 ⟨⟨_, rfl, (zB.wk (a' := (-4)) (b' := 7) (zB.of (x := (-1)) (-1) (by decide)) (by decide) (by decide))⟩, hI, hF, (by intro v hv; cases hv; exact Or.inl ⟨by omega, rfl⟩)⟩
  · skip
    refine z_if_eq (pc := 4) 15 C dX10_promises_4 (by decide) (fun _ => ?_) (fun h => absurd (by decide) h)
    refine z_iconst (pc := 15) (v := -1) C dX10_promises_15 (by decide) ?_
    exact z_iret (pc := 16) C hr dX10_promises_16 ⟨⟨_, rfl, (zB.wk (a' := (-4)) (b' := 7) (zB.of (x := (-1)) (-1) (by decide)) (by decide) (by decide))⟩, hI, hF, (by intro v hv; cases hv; exact Or.inl ⟨by omega, rfl⟩)⟩

theorem zgr_k {f g : zM} {p i : Nat} {x y z w : Int32} (k25 : g 25 0 = f 25 0) (k26 : g 26 0 = f 26 0) (k27 : g 27 0 = f 27 0) (k28 : g 28 0 = f 28 0) (k30 : g 30 0 = f 30 0) : zgr g p x y z w i = zgr f p x y z w i := by
  unfold zgr; rw [zcr_k k25 k26 k27 k28, zsr_k k25 k26 k27 k28 k30, zmg_k k25 k26 k27 k28, k28]

theorem qd_promises {f g g2 : zM} {v v2 : Int32} {a1 a2 : Int32} (hI : zInv f) (hg : zInv g) (Rc : zRc f) (Rd : zRd f) (Rq : zRq f) (Rp : zRp f) (Rl : zRl f) (Rn : zRn f) (Rm : zRm f) (Ro : zRo f) (hF : zFr [(11, some 8), (11, some 9)] f g) (hG : zFr [(31, none)] g g2) (hP : (¬ ((0 ≤ a1.toInt ∧ a1.toInt ≤ 5) ∧ (0 ≤ a2.toInt ∧ a2.toInt < (f 1 0 6).toInt)) ∧ v = -1) ∨ (((0 ≤ a1.toInt ∧ a1.toInt ≤ 5) ∧ (0 ≤ a2.toInt ∧ a2.toInt < (f 1 0 6).toInt)) ∧ v = zbe (fun k => f 11 k 2 = a1 ∧ zga f k (f 6 0 1) (f 6 0 4) (f 6 0 5) (f 6 0 6) a2.toInt.toNat) (fun k => f 11 k 7) (f 1 0 7).toInt.toNat)) (hQ : (¬ ((0 ≤ a1.toInt ∧ a1.toInt ≤ 5) ∧ (0 ≤ a2.toInt ∧ a2.toInt < (g 25 0 2).toInt)) ∧ v2 = -1) ∨ (((0 ≤ a1.toInt ∧ a1.toInt ≤ 5) ∧ (0 ≤ a2.toInt ∧ a2.toInt < (g 25 0 2).toInt)) ∧ v2 = zbe (fun k => g 28 0 (8 * k + 2) = a1 ∧ zgr g k (g 30 0 1) (g 30 0 3) (g 30 0 4) (g 30 0 5) a2.toInt.toNat) (fun k => g 28 0 (8 * k + 7)) (g 25 0 4).toInt.toNat)) : v2 = v := by
  have k25 : g 25 0 = f 25 0 := funext (fun j => hF 25 0 j rfl)
  have k26 : g 26 0 = f 26 0 := funext (fun j => hF 26 0 j rfl)
  have k27 : g 27 0 = f 27 0 := funext (fun j => hF 27 0 j rfl)
  have k28 : g 28 0 = f 28 0 := funext (fun j => hF 28 0 j rfl)
  have k30 : g 30 0 = f 30 0 := funext (fun j => hF 30 0 j rfl)
  obtain ⟨m0, m1, m2, m3, m4, m5, m6, m7⟩ := zRm_e Rm
  rw [k25, ← Rc.1, ← Rp.1] at hQ
  rcases hP with ⟨p1, p2⟩ | ⟨p1, p2⟩ <;> rcases hQ with ⟨q1, q2⟩ | ⟨q1, q2⟩
  · exact q2.trans p2.symm
  · exact absurd q1 p1
  · exact absurd p1 q1
  · rw [q2, p2]
    refine (zbe_congr _ (fun k hk => ⟨?_, ?_⟩)).symm
    · rw [k28, k30, zgr_k k25 k26 k27 k28 k30, ← Rp.2.2.1 k 2 (by omega) (by decide), zga_r hI Rd Rq Rp Rl Rn Rm m7 (by omega) (by omega), m1, m4, m5, m6]
    · rw [k28]; exact Rp.2.2.1 k 7 (by omega) (by decide)
