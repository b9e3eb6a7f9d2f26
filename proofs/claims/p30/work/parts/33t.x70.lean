theorem zsub {x m : Int32} : x &&& (m ^^^ -1) = 0 ↔ m &&& x = x := by
  rw [zmkb]
  constructor
  · intro h
    apply b_ext
    intro i hi
    rw [b_and]
    cases q : bt x i
    · rw [Bool.and_false]
    · rw [h i hi q]; rfl
  · intro h i hi hx
    have e : bt (m &&& x) i = bt x i := by rw [h]
    rw [b_and, hx, Bool.and_true] at e
    exact e
def zcw (C : Nat → Nat → Int32) (m l : Int32) : Nat → Int32
  | 0 => 0
  | k + 1 => zcw C m l k ||| (if C k 0 = l ∧ zmt (C k) m then 1 <<< (nI k &&& 31) else 0)
def zlw (C : Nat → Nat → Int32) (m : Int32) : Nat → Int32
  | 0 => 0
  | k + 1 => zlw C m k ||| (if zmt (C k) m then 1 <<< (C k 0 &&& 31) else 0)
theorem zcw_bit {C : Nat → Nat → Int32} {m l : Int32} {i : Nat} (hi : i < 32) : ∀ n : Nat, n ≤ 32 → (bt (zcw C m l n) i = true ↔ i < n ∧ C i 0 = l ∧ zmt (C i) m)
  | 0, _ => by rw [zcw, b_0]; constructor
               · intro h; cases h
               · intro h; exact absurd h.1 (Nat.not_lt_zero i)
  | n + 1, hn => by
    rw [zcw, b_or, Bool.or_eq_true, zcw_bit hi n (by omega)]
    by_cases h : C n 0 = l ∧ zmt (C n) m
    · rw [if_pos h, b_one n (by omega) i hi, decide_eq_true_iff]
      constructor
      · rintro (q | q)
        · exact ⟨by omega, q.2⟩
        · subst q; exact ⟨by omega, h⟩
      · intro q
        by_cases e : i = n
        · exact Or.inr e
        · exact Or.inl ⟨by omega, q.2⟩
    · rw [if_neg h, b_0]
      constructor
      · rintro (q | q)
        · exact ⟨by omega, q.2⟩
        · cases q
      · intro q
        refine Or.inl ⟨?_, q.2⟩
        by_cases e : i = n
        · subst e; exact absurd q.2 h
        · omega
theorem zcw_ne {C : Nat → Nat → Int32} {m l : Int32} {n : Nat} (hn : n ≤ 32) : ¬ zcw C m l n = 0 ↔ ∃ k, k < n ∧ C k 0 = l ∧ zmt (C k) m := by
  constructor
  · intro h
    by_cases q : ∃ k, k < n ∧ C k 0 = l ∧ zmt (C k) m
    · exact q
    · refine absurd (b_ext (fun i hi => ?_)) h
      rw [b_0]
      cases hb : bt (zcw C m l n) i
      · rfl
      · exact absurd ⟨i, (zcw_bit hi n hn).mp hb⟩ q
  · rintro ⟨k, h1, h2⟩ h
    have e := (zcw_bit (C := C) (m := m) (l := l) (i := k) (by omega) n hn).mpr ⟨h1, h2⟩
    rw [h, b_0] at e; cases e
theorem zlw_bit {C : Nat → Nat → Int32} {m : Int32} {a : Nat} (ha : a < 6) : ∀ n : Nat, (∀ k, k < n → zB (C k 0) 0 5) → (bt (zlw C m n) a = true ↔ ∃ k, k < n ∧ C k 0 = nI a ∧ zmt (C k) m)
  | 0, _ => by rw [zlw, b_0]; constructor
               · intro h; cases h
               · rintro ⟨k, h, _⟩; exact absurd h (Nat.not_lt_zero k)
  | n + 1, hC => by
    rw [zlw, b_or, Bool.or_eq_true, zlw_bit ha n (fun k hk => hC k (by omega))]
    have hb := hC n (by omega)
    obtain ⟨e1, e2⟩ := nI_ofI (x := C n 0) hb.1
    have h5 : (C n 0).toInt.toNat < 6 := by have := hb.2; omega
    have hone : ∀ q : Fin 6, ∀ a : Fin 6, (bt ((1 : Int32) <<< (nI q.val &&& 31)) a.val = true ↔ nI q.val = nI a.val) := by decide +kernel
    by_cases h : zmt (C n) m
    · rw [if_pos h]
      have hq := hone ⟨(C n 0).toInt.toNat, h5⟩ ⟨a, ha⟩
      simp only at hq
      rw [← e1] at hq
      rw [hq]
      constructor
      · rintro (⟨k, q1, q2⟩ | q)
        · exact ⟨k, by omega, q2⟩
        · exact ⟨n, by omega, q, h⟩
      · rintro ⟨k, q1, q2, q3⟩
        by_cases e : k = n
        · subst e; exact Or.inr q2
        · exact Or.inl ⟨k, by omega, q2, q3⟩
    · rw [if_neg h, b_0]
      constructor
      · rintro (⟨k, q1, q2⟩ | q)
        · exact ⟨k, by omega, q2⟩
        · cases q
      · rintro ⟨k, q1, q2, q3⟩
        by_cases e : k = n
        · subst e; exact absurd q3 h
        · exact Or.inl ⟨k, by omega, q2, q3⟩
theorem zcw_congr {C D : Nat → Nat → Int32} {m l : Int32} : ∀ n : Nat, (∀ k j, k < n → j < 6 → C k j = D k j) → zcw C m l n = zcw D m l n
  | 0, _ => rfl
  | n + 1, h => by
    have e : (C n 0 = l ∧ zmt (C n) m) ↔ (D n 0 = l ∧ zmt (D n) m) := by
      unfold zmt
      rw [h n 0 (by omega) (by decide), h n 1 (by omega) (by decide), h n 2 (by omega) (by decide)]
    rw [zcw, zcw, zcw_congr n (fun k j hk hj => h k j (by omega) hj)]
    congr 1
    by_cases q : C n 0 = l ∧ zmt (C n) m
    · rw [if_pos q, if_pos (e.mp q)]
    · rw [if_neg q, if_neg (fun z => q (e.mpr z))]
/-- the fold over all marks, from 63 down: the least that parts, how many part -/
def zpt (D : Nat → Bool) : Nat → Int32 × Int32
  | 0 => (-4, 0)
  | i + 1 => if D (63 - i) then (nI (63 - i), (zpt D i).2 + 1) else zpt D i
theorem zpt_congr {D E : Nat → Bool} : ∀ n : Nat, (∀ k, 1 ≤ k → k ≤ 63 → D k = E k) → n ≤ 63 → zpt D n = zpt E n
  | 0, _, _ => rfl
  | n + 1, h, hn => by rw [zpt, zpt, zpt_congr n h (by omega), h (63 - n) (by omega) (by omega)]
theorem zpt_y {D : Nat → Bool} {a : Nat} {x y : Int32} (hr : (x, y) = zpt D (63 - a)) (h1 : 1 ≤ a) (h2 : a ≤ 63) (hD : D a = true) : (nI a, y + 1) = zpt D (63 - (a - 1)) := by
  rw [show 63 - (a - 1) = (63 - a) + 1 by omega, zpt, show 63 - (63 - a) = a by omega, if_pos hD, ← hr]
theorem zpt_n {D : Nat → Bool} {a : Nat} {x y : Int32} (hr : (x, y) = zpt D (63 - a)) (h1 : 1 ≤ a) (h2 : a ≤ 63) (hD : D a = false) : (x, y) = zpt D (63 - (a - 1)) := by
  rw [show 63 - (a - 1) = (63 - a) + 1 by omega, zpt, show 63 - (63 - a) = a by omega, if_neg (by rw [hD]; decide), ← hr]
theorem z01b {x : Int32} {a : Nat} (ha : a < 32) : (x >>> (nI a &&& 31) &&& 1) = if bt x a then 1 else 0 := by
  have e0 : bt (x >>> (nI a &&& 31) &&& 1) 0 = bt x a := by
    rw [b_and, b_sshr a ha x (by decide), if_pos (by omega), Nat.add_zero, show bt 1 0 = true by decide, Bool.and_true]
  apply b_ext
  intro i hi
  by_cases q : i = 0
  · subst q; rw [e0]
    cases bt x a <;> decide
  · have q1 : ∀ i, i < 32 → i ≠ 0 → bt 1 i = false := by decide +kernel
    rw [b_and, q1 i hi q, Bool.and_false]
    cases bt x a
    · rw [if_neg (by decide), b_0]
    · rw [if_pos rfl, q1 i hi q]

set_option maxRecDepth 100000 in
set_option maxHeartbeats 4000000 in
theorem x_X10_areCrime (d : Nat) (f : zM) (a1 : Int32) (b1 : zB a1 0 63) (a2 : Int32) (b2 : zB a2 0 23) (hI : zInv f) : ZM d yX10_areCrime cX10_areCrime 3 (some .boolean) [zr 25 0, zi a1, zi a2] f (fun r g => (∃ v, r = some (zi v) ∧ zB v 0 1) ∧ zInv g ∧ zFr [] f g ∧ (∀ v : Int32, r = some (zi v) → (v = 1 ∧ zmt (fun j => f 26 0 (6 * a2.toInt.toNat + j)) a1) ∨ (v = 0 ∧ ¬ zmt (fun j => f 26 0 (6 * a2.toInt.toNat + j)) a1))) := by
  refine ZM.intro (by decide +kernel) (Nat.le_of_ble_eq_true rfl) ?_
  intro X C hr hn
  have hF : zFr [] f f := zFr.rf _ _
  show Z X 0 [some (zr 25 0), some (zi a1), some (zi a2)] [] f
  refine z_aload_n (pc := 0) C dX10_areCrime_0 rfl ?_
  refine z_getR (pc := 1) C zf_X10_7 rfl rfl (by decide) dX10_areCrime_1 ?_
  refine z_bipush (pc := 4) (v := 6) C dX10_areCrime_4 (by decide) ?_
  refine z_iload_n (pc := 6) C dX10_areCrime_6 rfl ?_
  refine z_imul (pc := 7) C dX10_areCrime_7 ?_
  refine w_gp (fun v => v = (6 : Int32) * a2) rfl (fun v1 q1 => ?_)
  have e1 : v1.toInt = 6 * a2.toInt := by rw [q1]; exact (zmul_kb 6 (by decide) (by decide) b2 (by decide) (by decide))
  have b1x : zB v1 0 138 := zmul_bb e1 (by decide) b2
  refine z_iconst (pc := 8) (v := 1) C dX10_areCrime_8 (by decide) ?_
  refine z_iadd (pc := 9) C dX10_areCrime_9 ?_
  refine w_gp (fun v => v = v1 + (1 : Int32)) rfl (fun v2 q2 => ?_)
  have e2 : v2.toInt = v1.toInt + 1 := by rw [q2]; exact (zadd_eb b1x (zB.of (x := 1) 1 (by decide)) (by decide) (by decide))
  have b2x : zB v2 1 139 := by have q1 := b1x; have q2 := (zB.of (x := 1) 1 (by decide)); constructor <;> omega
  refine z_iald (pc := 10) C rfl (by decide) (zIx b2x (by decide) (by decide)) dX10_areCrime_10 ?_
  have kq10_2 : v2.toNatClampNeg = v2.toInt.toNat := rfl
  refine w_gp (fun v => v = f 26 0 v2.toNatClampNeg) rfl (fun v3 q3 => ?_)
  have b3x : zB v3 0 63 := by rw [q3]; exact (by have hq9 := hI 26 0 v2.toNatClampNeg; rw [zrg26 (r := 1) (by have hq : v2.toNatClampNeg = v2.toInt.toNat := rfl; have hq2 := b2x; omega)] at hq9; exact hq9)
  refine z_iload_n (pc := 11) C dX10_areCrime_11 rfl ?_
  refine z_iconst (pc := 12) (v := -1) C dX10_areCrime_12 (by decide) ?_
  refine z_ixor (pc := 13) C dX10_areCrime_13 ?_
  refine w_gp (fun v => v = a1 ^^^ ((-1) : Int32)) rfl (fun v4 q4 => ?_)
  refine z_iand (pc := 14) C dX10_areCrime_14 ?_
  refine w_gp (fun v => v = v3 &&& v4) rfl (fun v5 q5 => ?_)
  have b5x : zB v5 0 63 := by rw [q5]; exact (zand_bl b3x (zB_any v4) (by decide))
  refine z_if_ne (pc := 15) 38 C dX10_areCrime_15 (by decide) (fun h15_5 => ?_) (fun h15_5 => ?_)
  · skip
    have b7x : zB v5 1 63 := by have q1 := b5x; have q2 := (zB.of (x := 0) 0 (by decide)); simp only [z32lt, z32le, z32eq, Int32.reduceToInt, Int32.toInt_zero] at h15_5; constructor <;> omega
    refine z_iconst (pc := 38) (v := 0) C dX10_areCrime_38 (by decide) ?_
    exact z_zret (pc := 39) C hr (z01 (zB.wk (a' := 0) (b' := 1) (zB.of (x := 0) 0 (by decide)) (by decide) (by decide))) dX10_areCrime_39 ⟨⟨_, rfl, (zB.wk (a' := 0) (b' := 1) (zB.of (x := 0) 0 (by decide)) (by decide) (by decide))⟩, hI, hF, (by
                                                                                          intro v hv; cases hv
                                                                                          have h1 : (v2).toNatClampNeg = 6 * a2.toInt.toNat + 1 := by omega
                                                                                          have q1 := q3
                                                                                          rw [h1] at q1
                                                                                          have e1 : v5 = f 26 0 (6 * a2.toInt.toNat + 1) &&& (a1 ^^^ -1) := by rw [q5, q4, q1]
                                                                                          exact Or.inr ⟨rfl, fun h => absurd (show v5 = 0 by rw [e1]; exact zsub.mpr h.1) (by assumption)⟩)⟩
  · skip
    have b8x : zB v5 0 0 := by have q1 := b5x; have q2 := (zB.of (x := 0) 0 (by decide)); simp only [z32lt, z32le, z32eq, Int32.reduceToInt, Int32.toInt_zero] at h15_5; constructor <;> omega
    refine z_aload_n (pc := 18) C dX10_areCrime_18 rfl ?_
    refine z_getR (pc := 19) C zf_X10_7 rfl rfl (by decide) dX10_areCrime_19 ?_
    refine z_bipush (pc := 22) (v := 6) C dX10_areCrime_22 (by decide) ?_
    refine z_iload_n (pc := 24) C dX10_areCrime_24 rfl ?_
    refine z_imul (pc := 25) C dX10_areCrime_25 ?_
    refine w_gp (fun v => v = (6 : Int32) * a2) rfl (fun v9 q9 => ?_)
    have e9 : v9.toInt = 6 * a2.toInt := by rw [q9]; exact (zmul_kb 6 (by decide) (by decide) b2 (by decide) (by decide))
    have b9x : zB v9 0 138 := zmul_bb e9 (by decide) b2
    refine z_iconst (pc := 26) (v := 2) C dX10_areCrime_26 (by decide) ?_
    refine z_iadd (pc := 27) C dX10_areCrime_27 ?_
    refine w_gp (fun v => v = v9 + (2 : Int32)) rfl (fun v10 q10 => ?_)
    have e10 : v10.toInt = v9.toInt + 2 := by rw [q10]; exact (zadd_eb b9x (zB.of (x := 2) 2 (by decide)) (by decide) (by decide))
    have b10x : zB v10 2 140 := by have q1 := b9x; have q2 := (zB.of (x := 2) 2 (by decide)); constructor <;> omega
    refine z_iald (pc := 28) C rfl (by decide) (zIx b10x (by decide) (by decide)) dX10_areCrime_28 ?_
    have kq28_10 : v10.toNatClampNeg = v10.toInt.toNat := rfl
    refine w_gp (fun v => v = f 26 0 v10.toNatClampNeg) rfl (fun v11 q11 => ?_)
    have b11x : zB v11 0 63 := by rw [q11]; exact (by have hq9 := hI 26 0 v10.toNatClampNeg; rw [zrg26 (r := 2) (by have hq : v10.toNatClampNeg = v10.toInt.toNat := rfl; have hq2 := b10x; omega)] at hq9; exact hq9)
    refine z_iload_n (pc := 29) C dX10_areCrime_29 rfl ?_
    refine z_iand (pc := 30) C dX10_areCrime_30 ?_
    refine w_gp (fun v => v = v11 &&& a1) rfl (fun v12 q12 => ?_)
    have b12x : zB v12 0 63 := by rw [q12]; exact (zand_b b11x b1 (by decide))
    refine z_if_ne (pc := 31) 38 C dX10_areCrime_31 (by decide) (fun h31_12 => ?_) (fun h31_12 => ?_)
    · skip
      have b14x : zB v12 1 63 := by have q1 := b12x; have q2 := (zB.of (x := 0) 0 (by decide)); simp only [z32lt, z32le, z32eq, Int32.reduceToInt, Int32.toInt_zero] at h31_12; constructor <;> omega
      refine z_iconst (pc := 38) (v := 0) C dX10_areCrime_38 (by decide) ?_
      exact z_zret (pc := 39) C hr (z01 (zB.wk (a' := 0) (b' := 1) (zB.of (x := 0) 0 (by decide)) (by decide) (by decide))) dX10_areCrime_39 ⟨⟨_, rfl, (zB.wk (a' := 0) (b' := 1) (zB.of (x := 0) 0 (by decide)) (by decide) (by decide))⟩, hI, hF, (by
                                                                                          intro v hv; cases hv
                                                                                          have h1 : (v2).toNatClampNeg = 6 * a2.toInt.toNat + 1 := by omega
                                                                                          have q1 := q3
                                                                                          rw [h1] at q1
                                                                                          have e1 : v5 = f 26 0 (6 * a2.toInt.toNat + 1) &&& (a1 ^^^ -1) := by rw [q5, q4, q1]
                                                                                          have h2 : (v10).toNatClampNeg = 6 * a2.toInt.toNat + 2 := by omega
                                                                                          have q2 := q11
                                                                                          rw [h2] at q2
                                                                                          have e2 : v12 = a1 &&& f 26 0 (6 * a2.toInt.toNat + 2) := by rw [q12, q2, Int32.and_comm]
                                                                                          have z1 : v5 = 0 := by assumption
                                                                                          rw [e1] at z1
                                                                                          first
                                                                                            | (refine Or.inl ⟨rfl, zsub.mp z1, ?_⟩; have z2 : v12 = 0 := by assumption
                                                                                               rw [e2] at z2; exact z2)
                                                                                            | exact Or.inr ⟨rfl, fun h => absurd (show v12 = 0 by rw [e2]; exact h.2) (by assumption)⟩)⟩
    · skip
      have b15x : zB v12 0 0 := by have q1 := b12x; have q2 := (zB.of (x := 0) 0 (by decide)); simp only [z32lt, z32le, z32eq, Int32.reduceToInt, Int32.toInt_zero] at h31_12; constructor <;> omega
      refine z_iconst (pc := 34) (v := 1) C dX10_areCrime_34 (by decide) ?_
      refine z_goto (pc := 35) 39 C dX10_areCrime_35 (by decide) ?_
      exact z_zret (pc := 39) C hr (z01 (zB.wk (a' := 0) (b' := 1) (zB.of (x := 1) 1 (by decide)) (by decide) (by decide))) dX10_areCrime_39 ⟨⟨_, rfl, (zB.wk (a' := 0) (b' := 1) (zB.of (x := 1) 1 (by decide)) (by decide) (by decide))⟩, hI, hF, (by
                                                                                          intro v hv; cases hv
                                                                                          have h1 : (v2).toNatClampNeg = 6 * a2.toInt.toNat + 1 := by omega
                                                                                          have q1 := q3
                                                                                          rw [h1] at q1
                                                                                          have e1 : v5 = f 26 0 (6 * a2.toInt.toNat + 1) &&& (a1 ^^^ -1) := by rw [q5, q4, q1]
                                                                                          have h2 : (v10).toNatClampNeg = 6 * a2.toInt.toNat + 2 := by omega
                                                                                          have q2 := q11
                                                                                          rw [h2] at q2
                                                                                          have e2 : v12 = a1 &&& f 26 0 (6 * a2.toInt.toNat + 2) := by rw [q12, q2, Int32.and_comm]
                                                                                          have z1 : v5 = 0 := by assumption
                                                                                          rw [e1] at z1
                                                                                          first
                                                                                            | (refine Or.inl ⟨rfl, zsub.mp z1, ?_⟩; have z2 : v12 = 0 := by assumption
                                                                                               rw [e2] at z2; exact z2)
                                                                                            | exact Or.inr ⟨rfl, fun h => absurd (show v12 = 0 by rw [e2]; exact h.2) (by assumption)⟩)⟩

set_option maxRecDepth 100000 in
set_option maxHeartbeats 4000000 in
theorem x_X10_crimesOf (d : Nat) (f : zM) (a1 : Int32) (b1 : zB a1 0 63) (a2 : Int32) (b2 : zB a2 0 5) (hI : zInv f) : ZM (d + 1) yX10_crimesOf cX10_crimesOf 5 (some .int) [zr 25 0, zi a1, zi a2] f (fun r g => (∃ v, r = some (zi v) ∧ zB v 0 16777215) ∧ zInv g ∧ zFr [] f g ∧ (∀ v : Int32, r = some (zi v) → v = zcw (fun k j => f 26 0 (6 * k + j)) a1 a2 (f 25 0 0).toInt.toNat)) := by
  refine ZM.intro (by decide +kernel) (Nat.le_of_ble_eq_true rfl) ?_
  intro X C hr hn
  have hF : zFr [] f f := zFr.rf _ _
  have ct25_0_0 : zB (f 25 0 0) 0 24 := hI 25 0 0
  have J : ∀ t : Nat, (∀ a5_3 : Int32, zB a5_3 0 16777215 → ∀ a5_4 : Int32, zB a5_4 0 24 → ∀ g : zM, zInv g → zFr [] f g → zB (g 25 0 0) 0 24 → (g = f) → (a5_3 = zcw (fun k j => f 26 0 (6 * k + j)) a1 a2 (a5_4.toInt.toNat)) → (a5_4.toInt ≤ (f 25 0 0).toInt) → ((g 25 0 0).toInt = (f 25 0 0).toInt) → (0 + 3 * (24 - a5_4.toInt) : Int) < t → Z X 5 [some (zr 25 0), some (zi a1), some (zi a2), some (zi a5_3), some (zi a5_4)] [] g) := by
    intro t
    induction t with
    | zero =>
      intros; exfalso; omega
    | succ t ih =>
      have ih0 := ih
      intro a5_3 b5_3 a5_4 b5_4 g5_ hI5_ hF5_ f5_25_0_0 hR5_0 hR5_1 hR5_2 hR5_3 hM5_
      refine z_iload (pc := 5) C dX10_crimesOf_5 rfl ?_
      refine z_aload_n (pc := 7) C dX10_crimesOf_7 rfl ?_
      refine z_getI (pc := 8) C zf_X10_80 rfl rfl (by decide) dX10_crimesOf_8 ?_
      refine w_gp (fun v => v = g5_ 25 0 0) rfl (fun v1 q1 => ?_)
      have e1 : v1.toInt = (g5_ 25 0 0).toInt := by rw [q1]
      have b1x : zB v1 0 24 := by first | exact zB.eqv e1 f5_25_0_0 | (have q9 := f5_25_0_0; constructor <;> omega)
      refine z_icmp_ge (pc := 11) 55 C dX10_crimesOf_11 (by decide) (fun h11_1 => ?_) (fun h11_1 => ?_)
      · skip
        have rr3 : a5_4.toInt ≥ v1.toInt := by simp only [z32lt, z32le, z32eq] at h11_1; omega
        refine z_iload_n (pc := 55) C dX10_crimesOf_55 rfl ?_
        exact z_iret (pc := 56) C hr dX10_crimesOf_56 ⟨⟨_, rfl, b5_3⟩, hI5_, hF5_, (by
                                                                                          intro v hv; cases hv
                                                                                          have hn : (f 25 0 0).toInt.toNat = a5_4.toInt.toNat := by omega
                                                                                          rw [hn]; exact hR5_1)⟩
      · skip
        have rr4 : a5_4.toInt < v1.toInt := by simp only [z32lt, z32le, z32eq] at h11_1; omega
        have b5x : zB a5_4 0 23 := by have q1 := b5_4; have q2 := b1x; simp only [z32lt, z32le, z32eq, Int32.reduceToInt, Int32.toInt_zero] at h11_1; constructor <;> omega
        have b6x : zB v1 1 24 := by have q1 := b5_4; have q2 := b1x; simp only [z32lt, z32le, z32eq, Int32.reduceToInt, Int32.toInt_zero] at h11_1; constructor <;> omega
        have c7x : zB (g5_ 25 0 0) 1 24 := by first | assumption | (constructor <;> omega)
        refine z_iload_n (pc := 14) C dX10_crimesOf_14 rfl ?_
        refine z_aload_n (pc := 15) C dX10_crimesOf_15 rfl ?_
        refine z_getR (pc := 16) C zf_X10_7 rfl rfl (by decide) dX10_crimesOf_16 ?_
        refine z_bipush (pc := 19) (v := 6) C dX10_crimesOf_19 (by decide) ?_
        refine z_iload (pc := 21) C dX10_crimesOf_21 rfl ?_
        refine z_imul (pc := 23) C dX10_crimesOf_23 ?_
        refine w_gp (fun v => v = (6 : Int32) * a5_4) rfl (fun v8 q8 => ?_)
        have e8 : v8.toInt = 6 * a5_4.toInt := by rw [q8]; exact (zmul_kb 6 (by decide) (by decide) b5x (by decide) (by decide))
        have b8x : zB v8 0 138 := zmul_bb e8 (by decide) b5x
        refine z_iald (pc := 24) C rfl (by decide) (zIx b8x (by decide) (by decide)) dX10_crimesOf_24 ?_
        have kq24_8 : v8.toNatClampNeg = v8.toInt.toNat := rfl
        refine w_gp (fun v => v = g5_ 26 0 v8.toNatClampNeg) rfl (fun v9 q9 => ?_)
        have b9x : zB v9 0 5 := by rw [q9]; exact (by have hq9 := hI5_ 26 0 v8.toNatClampNeg; rw [zrg26 (r := 0) (by have hq : v8.toNatClampNeg = v8.toInt.toNat := rfl; have hq2 := b8x; omega)] at hq9; exact hq9)
        refine z_iload_n (pc := 25) C dX10_crimesOf_25 rfl ?_
        refine z_icmp_ne (pc := 26) 46 C dX10_crimesOf_26 (by decide) (fun h26_9 => ?_) (fun h26_9 => ?_)
        · skip
          refine z_iconst (pc := 46) (v := 0) C dX10_crimesOf_46 (by decide) ?_
          refine z_ior (pc := 47) C dX10_crimesOf_47 ?_
          refine w_gp (fun v => v = a5_3 ||| (0 : Int32)) rfl (fun v11 q11 => ?_)
          have b11x : zB v11 0 16777215 := by rw [q11]; exact (zor_b 24 b5_3 (zB.of (x := 0) 0 (by decide)) (by decide) (by decide) (by decide) (by decide) (by decide))
          refine z_istore_n (pc := 48) C dX10_crimesOf_48 (by rw [hn]; decide) rfl ?_
          refine z_iinc (pc := 49) (v := 1) C dX10_crimesOf_49 rfl (by decide) (by rw [hn]; decide) rfl ?_
          obtain ⟨v12, hv12, e12⟩ : ∃ v : Int32, v = a5_4 + 1 ∧ v.toInt = a5_4.toInt + 1 := ⟨_, rfl, zadd_eb b5x (zB.of (x := 1) 1 (by decide)) (by decide) (by decide)⟩
          rw [← hv12]
          have b12x : zB v12 1 24 := by have q9 := b5x; constructor <;> omega
          refine z_goto (pc := 52) 5 C dX10_crimesOf_52 (by decide) ?_
          exact ih0 v11 b11x v12 (zB.wk (a' := 0) (b' := 24) b12x (by decide) (by decide)) g5_ hI5_ hF5_ (zB.wk c7x (by decide) (by decide)) (by exact hR5_0) (by
                                                                                          have hn : (v12).toInt.toNat = a5_4.toInt.toNat + 1 := by omega
                                                                                          have hi : a5_4 = nI a5_4.toInt.toNat := (nI_ofI (by omega)).1
                                                                                          have hx : (v8).toNatClampNeg = 6 * a5_4.toInt.toNat + 0 := by omega
                                                                                          have hq := q9
                                                                                          rw [hx, hR5_0] at hq
                                                                                          have ho := q11
                                                                                          rw [hn, zcw, ← hR5_1, ho]
                                                                                          congr 1
                                                                                          rw [if_neg (fun h => absurd (hq.trans h.1) (by assumption))]) (by omega) (by omega) (by omega)
        · skip
          have rr13 : v9.toInt = a2.toInt := by simp only [z32lt, z32le, z32eq] at h26_9; omega
          refine z_aload_n (pc := 29) C dX10_crimesOf_29 rfl ?_
          refine z_iload_n (pc := 30) C dX10_crimesOf_30 rfl ?_
          refine z_iload (pc := 31) C dX10_crimesOf_31 rfl ?_
          refine z_callV (pc := 33) C zk_X10_112 (x_X10_areCrime _ _ a1 b1 a5_4 b5x hI5_) rfl rfl (by decide) rfl rfl (Nat.le_of_ble_eq_true rfl) dX10_crimesOf_33 (fun r14 g14 q14 => ?_)
          obtain ⟨⟨v14, rfl, b14x⟩, hI14, hF14q, hp14_0⟩ := q14
          have hp14_0 := hp14_0 _ rfl
          obtain rfl := zFr_nil hF14q
          simp only [Option.toList, List.cons_append, List.nil_append]
          refine z_if_eq (pc := 36) 46 C dX10_crimesOf_36 (by decide) (fun h36_14 => ?_) (fun h36_14 => ?_)
          · skip
            have b16x : zB v14 0 0 := by have q1 := b14x; have q2 := (zB.of (x := 0) 0 (by decide)); simp only [z32lt, z32le, z32eq, Int32.reduceToInt, Int32.toInt_zero] at h36_14; constructor <;> omega
            refine z_iconst (pc := 46) (v := 0) C dX10_crimesOf_46 (by decide) ?_
            refine z_ior (pc := 47) C dX10_crimesOf_47 ?_
            refine w_gp (fun v => v = a5_3 ||| (0 : Int32)) rfl (fun v17 q17 => ?_)
            have b17x : zB v17 0 16777215 := by rw [q17]; exact (zor_b 24 b5_3 (zB.of (x := 0) 0 (by decide)) (by decide) (by decide) (by decide) (by decide) (by decide))
            refine z_istore_n (pc := 48) C dX10_crimesOf_48 (by rw [hn]; decide) rfl ?_
            refine z_iinc (pc := 49) (v := 1) C dX10_crimesOf_49 rfl (by decide) (by rw [hn]; decide) rfl ?_
            obtain ⟨v18, hv18, e18⟩ : ∃ v : Int32, v = a5_4 + 1 ∧ v.toInt = a5_4.toInt + 1 := ⟨_, rfl, zadd_eb b5x (zB.of (x := 1) 1 (by decide)) (by decide) (by decide)⟩
            rw [← hv18]
            have b18x : zB v18 1 24 := by have q9 := b5x; constructor <;> omega
            refine z_goto (pc := 52) 5 C dX10_crimesOf_52 (by decide) ?_
            exact ih0 v17 b17x v18 (zB.wk (a' := 0) (b' := 24) b18x (by decide) (by decide)) g5_ hI5_ hF5_ (zB.wk c7x (by decide) (by decide)) (by exact hR5_0) (by
                                                                                          have hn : (v18).toInt.toNat = a5_4.toInt.toNat + 1 := by omega
                                                                                          have hi : a5_4 = nI a5_4.toInt.toNat := (nI_ofI (by omega)).1
                                                                                          have hx : (v8).toNatClampNeg = 6 * a5_4.toInt.toNat + 0 := by omega
                                                                                          have hq := q9
                                                                                          rw [hx, hR5_0] at hq
                                                                                          have ho := q17
                                                                                          rw [hn, zcw, ← hR5_1, ho]
                                                                                          congr 1
                                                                                          have hl : f 26 0 (6 * a5_4.toInt.toNat + 0) = a2 := hq.symm.trans (by assumption)
                                                                                          have ha := hp14_0
                                                                                          rw [hR5_0] at ha
                                                                                          rcases ha with ⟨h1, h2⟩ | ⟨h1, h2⟩
                                                                                          · first
                                                                                              | (rw [if_pos ⟨hl, h2⟩, ← hi]; first | rfl | assumption)
                                                                                              | (exfalso; exact absurd h1 (by rw [z32eq]; have c1 : (1 : Int32).toInt = 1 := by decide
                                                                                                                              omega))
                                                                                          · first
                                                                                              | (rw [if_neg (fun h => h2 h.2)]; done)
                                                                                              | (exfalso; exact absurd h1 (by rw [z32eq]; have c0 : (0 : Int32).toInt = 0 := by decide
                                                                                                                              omega))) (by omega) (by omega) (by omega)
          · skip
            have b19x : zB v14 1 1 := by have q1 := b14x; have q2 := (zB.of (x := 0) 0 (by decide)); simp only [z32lt, z32le, z32eq, Int32.reduceToInt, Int32.toInt_zero] at h36_14; constructor <;> omega
            refine z_iconst (pc := 39) (v := 1) C dX10_crimesOf_39 (by decide) ?_
            refine z_iload (pc := 40) C dX10_crimesOf_40 rfl ?_
            refine z_ishl (pc := 42) C dX10_crimesOf_42 ?_
            refine w_gp (fun v => v = (1 : Int32) <<< (a5_4 &&& 31)) rfl (fun v20 q20 => ?_)
            have b20x : zB v20 0 8388608 := by rw [q20]; exact (zshl_b b5x 23 (by decide) (by decide))
            refine z_goto (pc := 43) 47 C dX10_crimesOf_43 (by decide) ?_
            refine z_ior (pc := 47) C dX10_crimesOf_47 ?_
            refine w_gp (fun v => v = a5_3 ||| v20) rfl (fun v21 q21 => ?_)
            have b21x : zB v21 0 16777215 := by rw [q21]; exact (zor_b 24 b5_3 b20x (by decide) (by decide) (by decide) (by decide) (by decide))
            refine z_istore_n (pc := 48) C dX10_crimesOf_48 (by rw [hn]; decide) rfl ?_
            refine z_iinc (pc := 49) (v := 1) C dX10_crimesOf_49 rfl (by decide) (by rw [hn]; decide) rfl ?_
            obtain ⟨v22, hv22, e22⟩ : ∃ v : Int32, v = a5_4 + 1 ∧ v.toInt = a5_4.toInt + 1 := ⟨_, rfl, zadd_eb b5x (zB.of (x := 1) 1 (by decide)) (by decide) (by decide)⟩
            rw [← hv22]
            have b22x : zB v22 1 24 := by have q9 := b5x; constructor <;> omega
            refine z_goto (pc := 52) 5 C dX10_crimesOf_52 (by decide) ?_
            exact ih0 v21 b21x v22 (zB.wk (a' := 0) (b' := 24) b22x (by decide) (by decide)) g5_ hI5_ hF5_ (zB.wk c7x (by decide) (by decide)) (by exact hR5_0) (by
                                                                                          have hn : (v22).toInt.toNat = a5_4.toInt.toNat + 1 := by omega
                                                                                          have hi : a5_4 = nI a5_4.toInt.toNat := (nI_ofI (by omega)).1
                                                                                          have hx : (v8).toNatClampNeg = 6 * a5_4.toInt.toNat + 0 := by omega
                                                                                          have hq := q9
                                                                                          rw [hx, hR5_0] at hq
                                                                                          have ho := q21
                                                                                          rw [hn, zcw, ← hR5_1, ho]
                                                                                          congr 1
                                                                                          have hl : f 26 0 (6 * a5_4.toInt.toNat + 0) = a2 := hq.symm.trans (by assumption)
                                                                                          have ha := hp14_0
                                                                                          rw [hR5_0] at ha
                                                                                          rcases ha with ⟨h1, h2⟩ | ⟨h1, h2⟩
                                                                                          · first
                                                                                              | (rw [if_pos ⟨hl, h2⟩, ← hi]; first | rfl | assumption)
                                                                                              | (exfalso; exact absurd h1 (by rw [z32eq]; have c1 : (1 : Int32).toInt = 1 := by decide
                                                                                                                              omega))
                                                                                          · first
                                                                                              | (rw [if_neg (fun h => h2 h.2)]; done)
                                                                                              | (exfalso; exact absurd h1 (by rw [z32eq]; have c0 : (0 : Int32).toInt = 0 := by decide
                                                                                                                              omega))) (by omega) (by omega) (by omega)
  have J0 := J 87
  show Z X 0 [some (zr 25 0), some (zi a1), some (zi a2), none, none] [] f
  refine z_iconst (pc := 0) (v := 0) C dX10_crimesOf_0 (by decide) ?_
  refine z_istore_n (pc := 1) C dX10_crimesOf_1 (by rw [hn]; decide) rfl ?_
  refine z_iconst (pc := 2) (v := 0) C dX10_crimesOf_2 (by decide) ?_
  refine z_istore (pc := 3) C dX10_crimesOf_3 (by rw [hn]; decide) rfl ?_
  exact J0 0 (zB.wk (a' := 0) (b' := 16777215) (zB.of (x := 0) 0 (by decide)) (by decide) (by decide)) 0 (zB.wk (a' := 0) (b' := 24) (zB.of (x := 0) 0 (by decide)) (by decide) (by decide)) f hI hF ct25_0_0 (by rfl) (by rfl) (by have qc0 : (0 : Int32).toInt = 0 := (by decide); omega) (by have qc0 : (0 : Int32).toInt = 0 := (by decide); omega) (by have qc0 : (0 : Int32).toInt = 0 := (by decide); omega)

set_option maxRecDepth 100000 in
set_option maxHeartbeats 4000000 in
theorem x_X8_landsWhereCrime (d : Nat) (f : zM) (a1 : Int32) (b1 : zB a1 0 63) (hI : zInv f) : ZM (d + 1) yX8_landsWhereCrime cX8_landsWhereCrime 4 (some .int) [zr 1 0, zi a1] f (fun r g => (∃ v, r = some (zi v) ∧ zB v 0 63) ∧ zInv g ∧ zFr [] f g ∧ (∀ v : Int32, r = some (zi v) → v = zlw (fun k j => f 7 k j) a1 (f 1 0 5).toInt.toNat)) := by
  refine ZM.intro (by decide +kernel) (Nat.le_of_ble_eq_true rfl) ?_
  intro X C hr hn
  have hF : zFr [] f f := zFr.rf _ _
  have ct1_0_5 : zB (f 1 0 5) 0 24 := hI 1 0 5
  have J : ∀ t : Nat, (∀ a4_2 : Int32, zB a4_2 0 63 → ∀ a4_3 : Int32, zB a4_3 0 24 → ∀ g : zM, zInv g → zFr [] f g → zB (g 1 0 5) 0 24 → (g = f) → (a4_2 = zlw (fun k j => f 7 k j) a1 (a4_3.toInt.toNat)) → (a4_3.toInt ≤ (f 1 0 5).toInt) → ((g 1 0 5).toInt = (f 1 0 5).toInt) → (0 + 3 * (24 - a4_3.toInt) : Int) < t → Z X 4 [some (zr 1 0), some (zi a1), some (zi a4_2), some (zi a4_3)] [] g) := by
    intro t
    induction t with
    | zero =>
      intros; exfalso; omega
    | succ t ih =>
      have ih0 := ih
      intro a4_2 b4_2 a4_3 b4_3 g4_ hI4_ hF4_ f4_1_0_5 hR4_0 hR4_1 hR4_2 hR4_3 hM4_
      refine z_iload_n (pc := 4) C dX8_landsWhereCrime_4 rfl ?_
      refine z_aload_n (pc := 5) C dX8_landsWhereCrime_5 rfl ?_
      refine z_getI (pc := 6) C zf_X8_46 rfl rfl (by decide) dX8_landsWhereCrime_6 ?_
      refine w_gp (fun v => v = g4_ 1 0 5) rfl (fun v1 q1 => ?_)
      have e1 : v1.toInt = (g4_ 1 0 5).toInt := by rw [q1]
      have b1x : zB v1 0 24 := by first | exact zB.eqv e1 f4_1_0_5 | (have q9 := f4_1_0_5; constructor <;> omega)
      refine z_icmp_ge (pc := 9) 49 C dX8_landsWhereCrime_9 (by decide) (fun h9_1 => ?_) (fun h9_1 => ?_)
      · skip
        have rr3 : a4_3.toInt ≥ v1.toInt := by simp only [z32lt, z32le, z32eq] at h9_1; omega
        refine z_iload_n (pc := 49) C dX8_landsWhereCrime_49 rfl ?_
        exact z_iret (pc := 50) C hr dX8_landsWhereCrime_50 ⟨⟨_, rfl, b4_2⟩, hI4_, hF4_, (by
                                                                                          intro v hv; cases hv
                                                                                          have hn : (f 1 0 5).toInt.toNat = a4_3.toInt.toNat := by omega
                                                                                          rw [hn]; exact hR4_1)⟩
      · skip
        have rr4 : a4_3.toInt < v1.toInt := by simp only [z32lt, z32le, z32eq] at h9_1; omega
        have b5x : zB a4_3 0 23 := by have q1 := b4_3; have q2 := b1x; simp only [z32lt, z32le, z32eq, Int32.reduceToInt, Int32.toInt_zero] at h9_1; constructor <;> omega
        have b6x : zB v1 1 24 := by have q1 := b4_3; have q2 := b1x; simp only [z32lt, z32le, z32eq, Int32.reduceToInt, Int32.toInt_zero] at h9_1; constructor <;> omega
        have c7x : zB (g4_ 1 0 5) 1 24 := by first | assumption | (constructor <;> omega)
        refine z_iload_n (pc := 12) C dX8_landsWhereCrime_12 rfl ?_
        refine z_aload_n (pc := 13) C dX8_landsWhereCrime_13 rfl ?_
        refine z_getR (pc := 14) C zf_X8_11 rfl rfl (by decide) dX8_landsWhereCrime_14 ?_
        refine z_iload_n (pc := 17) C dX8_landsWhereCrime_17 rfl ?_
        refine z_aald (pc := 18) C rfl ⟨rfl, by decide⟩ (by decide) (zIx b5x (by decide) (by decide)) dX8_landsWhereCrime_18 ?_
        refine w_grx (by have hq := zN b5x (by decide); show 24 * 0 + a4_3.toNatClampNeg < 60; omega) (fun m8 q8r h8x => ?_)
        have q8r : m8 = 24 * 0 + a4_3.toNatClampNeg := q8r
        have k8r : a4_3.toNatClampNeg = a4_3.toInt.toNat := rfl
        refine z_iload_n (pc := 19) C dX8_landsWhereCrime_19 rfl ?_
        refine z_callV (pc := 20) C zk_X8_96 (x_X0_isMarks _ _ m8 h8x a1 b1 hI4_) rfl rfl h8x rfl rfl (Nat.le_of_ble_eq_true rfl) dX8_landsWhereCrime_20 (fun r9 g9 q9 => ?_)
        obtain ⟨⟨v9, rfl, b9x⟩, hI9, hF9q, hp9_0⟩ := q9
        have hp9_0 := hp9_0 _ rfl
        obtain rfl := zFr_nil hF9q
        simp only [Option.toList, List.cons_append, List.nil_append]
        refine z_if_eq (pc := 23) 40 C dX8_landsWhereCrime_23 (by decide) (fun h23_9 => ?_) (fun h23_9 => ?_)
        · skip
          have b11x : zB v9 0 0 := by have q1 := b9x; have q2 := (zB.of (x := 0) 0 (by decide)); simp only [z32lt, z32le, z32eq, Int32.reduceToInt, Int32.toInt_zero] at h23_9; constructor <;> omega
          refine z_iconst (pc := 40) (v := 0) C dX8_landsWhereCrime_40 (by decide) ?_
          refine z_ior (pc := 41) C dX8_landsWhereCrime_41 ?_
          refine w_gp (fun v => v = a4_2 ||| (0 : Int32)) rfl (fun v12 q12 => ?_)
          have b12x : zB v12 0 63 := by rw [q12]; exact (zor_b 6 b4_2 (zB.of (x := 0) 0 (by decide)) (by decide) (by decide) (by decide) (by decide) (by decide))
          refine z_istore_n (pc := 42) C dX8_landsWhereCrime_42 (by rw [hn]; decide) rfl ?_
          refine z_iinc (pc := 43) (v := 1) C dX8_landsWhereCrime_43 rfl (by decide) (by rw [hn]; decide) rfl ?_
          obtain ⟨v13, hv13, e13⟩ : ∃ v : Int32, v = a4_3 + 1 ∧ v.toInt = a4_3.toInt + 1 := ⟨_, rfl, zadd_eb b5x (zB.of (x := 1) 1 (by decide)) (by decide) (by decide)⟩
          rw [← hv13]
          have b13x : zB v13 1 24 := by have q9 := b5x; constructor <;> omega
          refine z_goto (pc := 46) 4 C dX8_landsWhereCrime_46 (by decide) ?_
          exact ih0 v12 b12x v13 (zB.wk (a' := 0) (b' := 24) b13x (by decide) (by decide)) g4_ hI4_ hF4_ (zB.wk c7x (by decide) (by decide)) (by exact hR4_0) (by
                                                                                          have hn : (v13).toInt.toNat = a4_3.toInt.toNat + 1 := by omega
                                                                                          have hx : m8 = a4_3.toInt.toNat := by omega
                                                                                          have ho := q12
                                                                                          rw [hn, zlw, ← hR4_1, ho]
                                                                                          congr 1
                                                                                          have ha := hp9_0
                                                                                          rw [hx, hR4_0] at ha
                                                                                          rcases ha with ⟨h1, h2⟩ | ⟨h1, h2⟩
                                                                                          · exfalso; exact absurd h1 (by rw [z32eq]; have c1 : (1 : Int32).toInt = 1 := by decide
                                                                                                                         omega)
                                                                                          · rw [if_neg h2]) (by omega) (by omega) (by omega)
        · skip
          have b14x : zB v9 1 1 := by have q1 := b9x; have q2 := (zB.of (x := 0) 0 (by decide)); simp only [z32lt, z32le, z32eq, Int32.reduceToInt, Int32.toInt_zero] at h23_9; constructor <;> omega
          refine z_iconst (pc := 26) (v := 1) C dX8_landsWhereCrime_26 (by decide) ?_
          refine z_aload_n (pc := 27) C dX8_landsWhereCrime_27 rfl ?_
          refine z_getR (pc := 28) C zf_X8_11 rfl rfl (by decide) dX8_landsWhereCrime_28 ?_
          refine z_iload_n (pc := 31) C dX8_landsWhereCrime_31 rfl ?_
          refine z_aald (pc := 32) C rfl ⟨rfl, by decide⟩ (by decide) (zIx b5x (by decide) (by decide)) dX8_landsWhereCrime_32 ?_
          refine w_grx (by have hq := zN b5x (by decide); show 24 * 0 + a4_3.toNatClampNeg < 60; omega) (fun m15 q15r h15x => ?_)
          have q15r : m15 = 24 * 0 + a4_3.toNatClampNeg := q15r
          have k15r : a4_3.toNatClampNeg = a4_3.toInt.toNat := rfl
          refine z_getI (pc := 33) C zf_X8_95 rfl rfl h15x dX8_landsWhereCrime_33 ?_
          refine w_gp (fun v => v = g4_ 7 m15 0) rfl (fun v17 q17 => ?_)
          have b17x : zB v17 0 5 := by rw [q17]; exact (hI4_ 7 m15 0)
          refine z_ishl (pc := 36) C dX8_landsWhereCrime_36 ?_
          refine w_gp (fun v => v = (1 : Int32) <<< (v17 &&& 31)) rfl (fun v18 q18 => ?_)
          have b18x : zB v18 0 32 := by rw [q18]; exact (zshl_b b17x 5 (by decide) (by decide))
          refine z_goto (pc := 37) 41 C dX8_landsWhereCrime_37 (by decide) ?_
          refine z_ior (pc := 41) C dX8_landsWhereCrime_41 ?_
          refine w_gp (fun v => v = a4_2 ||| v18) rfl (fun v19 q19 => ?_)
          have b19x : zB v19 0 63 := by rw [q19]; exact (zor_b 6 b4_2 b18x (by decide) (by decide) (by decide) (by decide) (by decide))
          refine z_istore_n (pc := 42) C dX8_landsWhereCrime_42 (by rw [hn]; decide) rfl ?_
          refine z_iinc (pc := 43) (v := 1) C dX8_landsWhereCrime_43 rfl (by decide) (by rw [hn]; decide) rfl ?_
          obtain ⟨v20, hv20, e20⟩ : ∃ v : Int32, v = a4_3 + 1 ∧ v.toInt = a4_3.toInt + 1 := ⟨_, rfl, zadd_eb b5x (zB.of (x := 1) 1 (by decide)) (by decide) (by decide)⟩
          rw [← hv20]
          have b20x : zB v20 1 24 := by have q9 := b5x; constructor <;> omega
          refine z_goto (pc := 46) 4 C dX8_landsWhereCrime_46 (by decide) ?_
          exact ih0 v19 b19x v20 (zB.wk (a' := 0) (b' := 24) b20x (by decide) (by decide)) g4_ hI4_ hF4_ (zB.wk c7x (by decide) (by decide)) (by exact hR4_0) (by
                                                                                          have hn : (v20).toInt.toNat = a4_3.toInt.toNat + 1 := by omega
                                                                                          have hx : m8 = a4_3.toInt.toNat := by omega
                                                                                          have ho := q19
                                                                                          rw [hn, zlw, ← hR4_1, ho]
                                                                                          congr 1
                                                                                          have ha := hp9_0
                                                                                          rw [hx, hR4_0] at ha
                                                                                          have hx2 : m15 = a4_3.toInt.toNat := by omega
                                                                                          have hq := q17
                                                                                          rw [hx2, hR4_0] at hq
                                                                                          rcases ha with ⟨h1, h2⟩ | ⟨h1, h2⟩
                                                                                          · rw [if_pos h2, q18, hq]
                                                                                          · exfalso; exact absurd h1 (by rw [z32eq]; have c0 : (0 : Int32).toInt = 0 := by decide
                                                                                                                         omega)) (by omega) (by omega) (by omega)
  have J0 := J 87
  show Z X 0 [some (zr 1 0), some (zi a1), none, none] [] f
  refine z_iconst (pc := 0) (v := 0) C dX8_landsWhereCrime_0 (by decide) ?_
  refine z_istore_n (pc := 1) C dX8_landsWhereCrime_1 (by rw [hn]; decide) rfl ?_
  refine z_iconst (pc := 2) (v := 0) C dX8_landsWhereCrime_2 (by decide) ?_
  refine z_istore_n (pc := 3) C dX8_landsWhereCrime_3 (by rw [hn]; decide) rfl ?_
  exact J0 0 (zB.wk (a' := 0) (b' := 63) (zB.of (x := 0) 0 (by decide)) (by decide) (by decide)) 0 (zB.wk (a' := 0) (b' := 24) (zB.of (x := 0) 0 (by decide)) (by decide) (by decide)) f hI hF ct1_0_5 (by rfl) (by rfl) (by have qc0 : (0 : Int32).toInt = 0 := (by decide); omega) (by have qc0 : (0 : Int32).toInt = 0 := (by decide); omega) (by have qc0 : (0 : Int32).toInt = 0 := (by decide); omega)

set_option maxRecDepth 100000 in
set_option maxHeartbeats 4000000 in
theorem x_X9_part (d : Nat) (f : zM) (a1 : Int32) (b1 : zB a1 (-2147483648) 2147483647) (a2 : Int32) (b2 : zB a2 (-2147483648) 2147483647) (a3 : Int32) (b3 : zB a3 (-2147483648) 2147483647) (hI : zInv f) : ZM (d + 2) yX9_part cX9_part 8 (some .int) [zr 0 0, zi a1, zi a2, zi a3] f (fun r g => (∃ v, r = some (zi v) ∧ zB v (-2147483648) 2147483647) ∧ zInv g ∧ zFr [] f g ∧ (∀ v : Int32, r = some (zi v) → (¬ ((0 ≤ a1.toInt ∧ a1.toInt ≤ 5) ∧ (0 ≤ a2.toInt ∧ a2.toInt ≤ 5) ∧ ¬ a1.toInt = a2.toInt ∧ (0 ≤ a3.toInt ∧ a3.toInt ≤ 1)) ∧ v = -1) ∨ (((0 ≤ a1.toInt ∧ a1.toInt ≤ 5) ∧ (0 ≤ a2.toInt ∧ a2.toInt ≤ 5) ∧ ¬ a1.toInt = a2.toInt ∧ (0 ≤ a3.toInt ∧ a3.toInt ≤ 1)) ∧ v = if a3 = 0 then (zpt (fun k => decide (¬ (zlw (fun k j => f 7 k j) (nI k) (f 1 0 5).toInt.toNat >>> (a1 &&& 31) &&& 1 : Int32) = zlw (fun k j => f 7 k j) (nI k) (f 1 0 5).toInt.toNat >>> (a2 &&& 31) &&& 1)) 63).1 else (zpt (fun k => decide (¬ (zlw (fun k j => f 7 k j) (nI k) (f 1 0 5).toInt.toNat >>> (a1 &&& 31) &&& 1 : Int32) = zlw (fun k j => f 7 k j) (nI k) (f 1 0 5).toInt.toNat >>> (a2 &&& 31) &&& 1)) 63).2))) := by
  refine ZM.intro (by decide +kernel) (Nat.le_of_ble_eq_true rfl) ?_
  intro X C hr hn
  have hF : zFr [] f f := zFr.rf _ _
  have J : ∀ t : Nat, (zB a1 0 5 → zB a2 0 5 → zB a3 0 1 → ∀ a41_4 : Int32, zB a41_4 (-4) 63 → ∀ a41_5 : Int32, zB a41_5 (-2147483648) 2147483647 → ∀ a41_6 : Int32, zB a41_6 0 63 → ∀ g : zM, zInv g → zFr [] f g → (g = f) → (((0 ≤ a1.toInt ∧ a1.toInt ≤ 5) ∧ (0 ≤ a2.toInt ∧ a2.toInt ≤ 5) ∧ ¬ a1.toInt = a2.toInt ∧ (0 ≤ a3.toInt ∧ a3.toInt ≤ 1))) → ((a41_4, a41_5) = zpt (fun k => decide (¬ (zlw (fun k j => f 7 k j) (nI k) (f 1 0 5).toInt.toNat >>> (a1 &&& 31) &&& 1 : Int32) = zlw (fun k j => f 7 k j) (nI k) (f 1 0 5).toInt.toNat >>> (a2 &&& 31) &&& 1)) (63 - a41_6.toInt.toNat)) → (0 + 3 * (a41_6.toInt - 0) : Int) < t → Z X 41 [some (zr 0 0), some (zi a1), some (zi a2), some (zi a3), some (zi a41_4), some (zi a41_5), some (zi a41_6), none] [] g) := by
    intro t
    induction t with
    | zero =>
      intros; exfalso; omega
    | succ t ih =>
      have ih0 := ih
      intro b41_1 b41_2 b41_3 a41_4 b41_4 a41_5 b41_5 a41_6 b41_6 g41_ hI41_ hF41_ hR41_0 hR41_1 hR41_2 hM41_
      refine z_iload (pc := 41) C dX9_part_41 rfl ?_
      refine z_iconst (pc := 43) (v := 1) C dX9_part_43 (by decide) ?_
      refine z_icmp_lt (pc := 44) 86 C dX9_part_44 (by decide) (fun h44_0 => ?_) (fun h44_0 => ?_)
      · skip
        have b2x : zB a41_6 0 0 := by have q1 := b41_6; have q2 := (zB.of (x := 1) 1 (by decide)); simp only [z32lt, z32le, z32eq, Int32.reduceToInt, Int32.toInt_zero] at h44_0; constructor <;> omega
        refine z_iload_n (pc := 86) C dX9_part_86 rfl ?_
        refine z_if_ne (pc := 87) 95 C dX9_part_87 (by decide) (fun h87_2 => ?_) (fun h87_2 => ?_)
        · skip
          have b4x : zB a3 1 1 := by have q1 := b41_3; have q2 := (zB.of (x := 0) 0 (by decide)); simp only [z32lt, z32le, z32eq, Int32.reduceToInt, Int32.toInt_zero] at h87_2; constructor <;> omega
          refine z_iload (pc := 95) C dX9_part_95 rfl ?_
          exact z_iret (pc := 97) C hr dX9_part_97 ⟨⟨_, rfl, b41_5⟩, hI41_, hF41_, (by
                                                                                          intro v hv; cases hv
                                                                                          have hz : 63 - a41_6.toInt.toNat = 63 := by omega
                                                                                          have hr := hR41_2
                                                                                          rw [hz] at hr
                                                                                          refine Or.inr ⟨hR41_1, ?_⟩
                                                                                          first
                                                                                            | rw [if_pos (by assumption), ← hr]
                                                                                            | rw [if_neg (by assumption), ← hr])⟩
        · skip
          have b5x : zB a3 0 0 := by have q1 := b41_3; have q2 := (zB.of (x := 0) 0 (by decide)); simp only [z32lt, z32le, z32eq, Int32.reduceToInt, Int32.toInt_zero] at h87_2; constructor <;> omega
          refine z_iload (pc := 90) C dX9_part_90 rfl ?_
          refine z_goto (pc := 92) 97 C dX9_part_92 (by decide) ?_
          exact z_iret (pc := 97) C hr dX9_part_97 ⟨⟨_, rfl, (zB.wk (a' := (-2147483648)) (b' := 2147483647) b41_4 (by decide) (by decide))⟩, hI41_, hF41_, (by
                                                                                          intro v hv; cases hv
                                                                                          have hz : 63 - a41_6.toInt.toNat = 63 := by omega
                                                                                          have hr := hR41_2
                                                                                          rw [hz] at hr
                                                                                          refine Or.inr ⟨hR41_1, ?_⟩
                                                                                          first
                                                                                            | rw [if_pos (by assumption), ← hr]
                                                                                            | rw [if_neg (by assumption), ← hr])⟩
      · skip
        have b6x : zB a41_6 1 63 := by have q1 := b41_6; have q2 := (zB.of (x := 1) 1 (by decide)); simp only [z32lt, z32le, z32eq, Int32.reduceToInt, Int32.toInt_zero] at h44_0; constructor <;> omega
        refine z_aload_n (pc := 47) C dX9_part_47 rfl ?_
        refine z_getR (pc := 48) C zf_X9_10 rfl rfl (by decide) dX9_part_48 ?_
        refine z_iload (pc := 51) C dX9_part_51 rfl ?_
        refine z_callV (pc := 53) C zk_X9_327 (x_X8_landsWhereCrime _ _ a41_6 (zB.wk (a' := 0) (b' := 63) b6x (by decide) (by decide)) hI41_) rfl rfl (by decide) rfl rfl (Nat.le_of_ble_eq_true rfl) dX9_part_53 (fun r7 g7 q7 => ?_)
        obtain ⟨⟨v7, rfl, b7x⟩, hI7, hF7q, hp7_0⟩ := q7
        have hp7_0 := hp7_0 _ rfl
        obtain rfl := zFr_nil hF7q
        simp only [Option.toList, List.cons_append, List.nil_append]
        refine z_istore (pc := 56) C dX9_part_56 (by rw [hn]; decide) rfl ?_
        refine z_iload (pc := 58) C dX9_part_58 rfl ?_
        refine z_iload_n (pc := 60) C dX9_part_60 rfl ?_
        refine z_ishr (pc := 61) C dX9_part_61 ?_
        refine w_gp (fun v => v = v7 >>> (a1 &&& 31)) rfl (fun v8 q8 => ?_)
        refine z_iconst (pc := 62) (v := 1) C dX9_part_62 (by decide) ?_
        refine z_iand (pc := 63) C dX9_part_63 ?_
        refine w_gp (fun v => v = v8 &&& (1 : Int32)) rfl (fun v9 q9 => ?_)
        have b9x : zB v9 0 1 := by rw [q9]; exact (zand_b (zB_any v8) (zB.of (x := 1) 1 (by decide)) (by decide))
        refine z_iload (pc := 64) C dX9_part_64 rfl ?_
        refine z_iload_n (pc := 66) C dX9_part_66 rfl ?_
        refine z_ishr (pc := 67) C dX9_part_67 ?_
        refine w_gp (fun v => v = v7 >>> (a2 &&& 31)) rfl (fun v10 q10 => ?_)
        refine z_iconst (pc := 68) (v := 1) C dX9_part_68 (by decide) ?_
        refine z_iand (pc := 69) C dX9_part_69 ?_
        refine w_gp (fun v => v = v10 &&& (1 : Int32)) rfl (fun v11 q11 => ?_)
        have b11x : zB v11 0 1 := by rw [q11]; exact (zand_b (zB_any v10) (zB.of (x := 1) 1 (by decide)) (by decide))
        refine z_icmp_eq (pc := 70) 80 C dX9_part_70 (by decide) (fun h70_11 => ?_) (fun h70_11 => ?_)
        · skip
          have rr13 : v9.toInt = v11.toInt := by simp only [z32lt, z32le, z32eq] at h70_11; omega
          refine z_iinc (pc := 80) (v := -1) C dX9_part_80 rfl (by decide) (by rw [hn]; decide) rfl ?_
          obtain ⟨v14, hv14, e14⟩ : ∃ v : Int32, v = a41_6 + (-1) ∧ v.toInt = a41_6.toInt + (-1) := ⟨_, rfl, zadd_eb b6x (zB.of (x := (-1)) (-1) (by decide)) (by decide) (by decide)⟩
          rw [← hv14]
          have b14x : zB v14 0 62 := by have q9 := b6x; constructor <;> omega
          refine z_goto (pc := 83) 41 C dX9_part_83 (by decide) ?_
          refine w_mask [7] ?_
          exact ih0 b41_1 b41_2 b41_3 a41_4 b41_4 a41_5 b41_5 v14 (zB.wk (a' := 0) (b' := 63) b14x (by decide) (by decide)) g41_ hI41_ hF41_ (by exact hR41_0) (by exact hR41_1) (by
                                                                                          have hi : a41_6 = nI a41_6.toInt.toNat := (nI_ofI (by omega)).1
                                                                                          have hp := hp7_0
                                                                                          rw [hR41_0] at hp
                                                                                          have hD : (fun k => decide (¬ (zlw (fun k j => f 7 k j) (nI k) (f 1 0 5).toInt.toNat >>> (a1 &&& 31) &&& 1 : Int32) = zlw (fun k j => f 7 k j) (nI k) (f 1 0 5).toInt.toNat >>> (a2 &&& 31) &&& 1)) a41_6.toInt.toNat = false := decide_eq_false (fun h => h (by rw [← hi, ← hp, ← q8, ← q9, ← q10, ← q11]; assumption))
                                                                                          have hr := zpt_n hR41_2 (by omega) (by omega) hD
                                                                                          rw [show (v14).toInt.toNat = a41_6.toInt.toNat - 1 by omega]
                                                                                          exact hr) (by omega)
        · skip
          refine z_iload (pc := 73) C dX9_part_73 rfl ?_
          refine z_istore (pc := 75) C dX9_part_75 (by rw [hn]; decide) rfl ?_
          refine z_iinc (pc := 77) (v := 1) C dX9_part_77 rfl (by decide) (by rw [hn]; decide) rfl ?_
          obtain ⟨v15, hv15⟩ : ∃ v : Int32, v = a41_5 + 1 := ⟨_, rfl⟩
          rw [← hv15]
          refine z_iinc (pc := 80) (v := -1) C dX9_part_80 rfl (by decide) (by rw [hn]; decide) rfl ?_
          obtain ⟨v16, hv16, e16⟩ : ∃ v : Int32, v = a41_6 + (-1) ∧ v.toInt = a41_6.toInt + (-1) := ⟨_, rfl, zadd_eb b6x (zB.of (x := (-1)) (-1) (by decide)) (by decide) (by decide)⟩
          rw [← hv16]
          have b16x : zB v16 0 62 := by have q9 := b6x; constructor <;> omega
          refine z_goto (pc := 83) 41 C dX9_part_83 (by decide) ?_
          refine w_mask [7] ?_
          exact ih0 b41_1 b41_2 b41_3 a41_6 (zB.wk (a' := (-4)) (b' := 63) b6x (by decide) (by decide)) v15 (zB_any v15) v16 (zB.wk (a' := 0) (b' := 63) b16x (by decide) (by decide)) g41_ hI41_ hF41_ (by exact hR41_0) (by exact hR41_1) (by
                                                                                          have hi : a41_6 = nI a41_6.toInt.toNat := (nI_ofI (by omega)).1
                                                                                          have hp := hp7_0
                                                                                          rw [hR41_0] at hp
                                                                                          have hD : (fun k => decide (¬ (zlw (fun k j => f 7 k j) (nI k) (f 1 0 5).toInt.toNat >>> (a1 &&& 31) &&& 1 : Int32) = zlw (fun k j => f 7 k j) (nI k) (f 1 0 5).toInt.toNat >>> (a2 &&& 31) &&& 1)) a41_6.toInt.toNat = true := decide_eq_true (by rw [← hi, ← hp, ← q8, ← q9, ← q10, ← q11]; assumption)
                                                                                          have hr := zpt_y hR41_2 (by omega) (by omega) hD
                                                                                          rw [← hi] at hr
                                                                                          rw [show (v16).toInt.toNat = a41_6.toInt.toNat - 1 by omega, hv15]
                                                                                          exact hr) (by omega)
  have J0 := J 204
  show Z X 0 [some (zr 0 0), some (zi a1), some (zi a2), some (zi a3), none, none, none, none] [] f
  refine z_iload_n (pc := 0) C dX9_part_0 rfl ?_
  refine z_callSb (pc := 1) C zk_X9_46 (m_X9_isLand _ _ _) rfl rfl (Nat.le_of_ble_eq_true rfl) dX9_part_1 (fun h1_16 => ?_) (fun h1_16 => ?_)
  · skip
    have b18x : zB a1 0 5 := h1_16
    refine z_if_eq (pc := 4) 28 C dX9_part_4 (by decide) (fun h => absurd h (by decide)) (fun _ => ?_)
    refine z_iload_n (pc := 7) C dX9_part_7 rfl ?_
    refine z_callSb (pc := 8) C zk_X9_46 (m_X9_isLand _ _ _) rfl rfl (Nat.le_of_ble_eq_true rfl) dX9_part_8 (fun h8_18 => ?_) (fun h8_18 => ?_)
    · skip
      have b20x : zB a2 0 5 := h8_18
      refine z_if_eq (pc := 11) 28 C dX9_part_11 (by decide) (fun h => absurd h (by decide)) (fun _ => ?_)
      refine z_iload_n (pc := 14) C dX9_part_14 rfl ?_
      refine z_iload_n (pc := 15) C dX9_part_15 rfl ?_
      refine z_icmp_eq (pc := 16) 28 C dX9_part_16 (by decide) (fun h16_20 => ?_) (fun h16_20 => ?_)
      · skip
        have rr22 : a1.toInt = a2.toInt := by simp only [z32lt, z32le, z32eq] at h16_20; omega
        refine z_iconst (pc := 28) (v := -1) C dX9_part_28 (by decide) ?_
        exact z_iret (pc := 29) C hr dX9_part_29 ⟨⟨_, rfl, (zB.wk (a' := (-2147483648)) (b' := 2147483647) (zB.of (x := (-1)) (-1) (by decide)) (by decide) (by decide))⟩, hI, hF, (by intro v hv; cases hv; exact Or.inl ⟨by omega, rfl⟩)⟩
      · skip
        refine z_iload_n (pc := 19) C dX9_part_19 rfl ?_
        refine z_if_lt (pc := 20) 28 C dX9_part_20 (by decide) (fun h20_22 => ?_) (fun h20_22 => ?_)
        · skip
          have b24x : zB a3 (-2147483648) (-1) := by have q1 := b3; have q2 := (zB.of (x := 0) 0 (by decide)); simp only [z32lt, z32le, z32eq, Int32.reduceToInt, Int32.toInt_zero] at h20_22; constructor <;> omega
          refine z_iconst (pc := 28) (v := -1) C dX9_part_28 (by decide) ?_
          exact z_iret (pc := 29) C hr dX9_part_29 ⟨⟨_, rfl, (zB.wk (a' := (-2147483648)) (b' := 2147483647) (zB.of (x := (-1)) (-1) (by decide)) (by decide) (by decide))⟩, hI, hF, (by intro v hv; cases hv; exact Or.inl ⟨by omega, rfl⟩)⟩
        · skip
          have b25x : zB a3 0 2147483647 := by have q1 := b3; have q2 := (zB.of (x := 0) 0 (by decide)); simp only [z32lt, z32le, z32eq, Int32.reduceToInt, Int32.toInt_zero] at h20_22; constructor <;> omega
          refine z_iload_n (pc := 23) C dX9_part_23 rfl ?_
          refine z_iconst (pc := 24) (v := 1) C dX9_part_24 (by decide) ?_
          refine z_icmp_le (pc := 25) 30 C dX9_part_25 (by decide) (fun h25_25 => ?_) (fun h25_25 => ?_)
          · skip
            have b27x : zB a3 0 1 := by have q1 := b25x; have q2 := (zB.of (x := 1) 1 (by decide)); simp only [z32lt, z32le, z32eq, Int32.reduceToInt, Int32.toInt_zero] at h25_25; constructor <;> omega
            refine z_bipush (pc := 30) (v := -4) C dX9_part_30 (by decide) ?_
            refine z_istore (pc := 32) C dX9_part_32 (by rw [hn]; decide) rfl ?_
            refine z_iconst (pc := 34) (v := 0) C dX9_part_34 (by decide) ?_
            refine z_istore (pc := 35) C dX9_part_35 (by rw [hn]; decide) rfl ?_
            refine z_bipush (pc := 37) (v := 63) C dX9_part_37 (by decide) ?_
            refine z_istore (pc := 39) C dX9_part_39 (by rw [hn]; decide) rfl ?_
            exact J0 b18x b20x b27x (-4) (zB.wk (a' := (-4)) (b' := 63) (zB.of (x := (-4)) (-4) (by decide)) (by decide) (by decide)) 0 (zB.wk (a' := (-2147483648)) (b' := 2147483647) (zB.of (x := 0) 0 (by decide)) (by decide) (by decide)) 63 (zB.wk (a' := 0) (b' := 63) (zB.of (x := 63) 63 (by decide)) (by decide) (by decide)) f hI hF (by rfl) (by exact ⟨by assumption, by assumption, (fun h => absurd ((z32eq _ _).mpr h) (by assumption)), by omega⟩) (by rfl) (by have qc0 : ((-4) : Int32).toInt = (-4) := (by decide); have qc1 : (0 : Int32).toInt = 0 := (by decide); have qc2 : (63 : Int32).toInt = 63 := (by decide); omega)
          · skip
            have b28x : zB a3 2 2147483647 := by have q1 := b25x; have q2 := (zB.of (x := 1) 1 (by decide)); simp only [z32lt, z32le, z32eq, Int32.reduceToInt, Int32.toInt_zero] at h25_25; constructor <;> omega
            refine z_iconst (pc := 28) (v := -1) C dX9_part_28 (by decide) ?_
            exact z_iret (pc := 29) C hr dX9_part_29 ⟨⟨_, rfl, (zB.wk (a' := (-2147483648)) (b' := 2147483647) (zB.of (x := (-1)) (-1) (by decide)) (by decide) (by decide))⟩, hI, hF, (by intro v hv; cases hv; exact Or.inl ⟨by omega, rfl⟩)⟩
    · skip
      refine z_if_eq (pc := 11) 28 C dX9_part_11 (by decide) (fun _ => ?_) (fun h => absurd (by decide) h)
      refine z_iconst (pc := 28) (v := -1) C dX9_part_28 (by decide) ?_
      exact z_iret (pc := 29) C hr dX9_part_29 ⟨⟨_, rfl, (zB.wk (a' := (-2147483648)) (b' := 2147483647) (zB.of (x := (-1)) (-1) (by decide)) (by decide) (by decide))⟩, hI, hF, (by intro v hv; cases hv; exact Or.inl ⟨by omega, rfl⟩)⟩
  · skip
    refine z_if_eq (pc := 4) 28 C dX9_part_4 (by decide) (fun _ => ?_) (fun h => absurd (by decide) h)
    refine z_iconst (pc := 28) (v := -1) C dX9_part_28 (by decide) ?_
    exact z_iret (pc := 29) C hr dX9_part_29 ⟨⟨_, rfl, (zB.wk (a' := (-2147483648)) (b' := 2147483647) (zB.of (x := (-1)) (-1) (by decide)) (by decide) (by decide))⟩, hI, hF, (by intro v hv; cases hv; exact Or.inl ⟨by omega, rfl⟩)⟩

set_option maxRecDepth 100000 in
set_option maxHeartbeats 4000000 in
theorem x_X10_part (d : Nat) (f : zM) (a1 : Int32) (b1 : zB a1 (-2147483648) 2147483647) (a2 : Int32) (b2 : zB a2 (-2147483648) 2147483647) (a3 : Int32) (b3 : zB a3 (-2147483648) 2147483647) (hI : zInv f) : ZM (d + 2) yX10_part cX10_part 7 (some .int) [zr 25 0, zi a1, zi a2, zi a3] f (fun r g => (∃ v, r = some (zi v) ∧ zB v (-2147483648) 2147483647) ∧ zInv g ∧ zFr [] f g ∧ (∀ v : Int32, r = some (zi v) → (¬ ((0 ≤ a1.toInt ∧ a1.toInt ≤ 5) ∧ (0 ≤ a2.toInt ∧ a2.toInt ≤ 5) ∧ ¬ a1.toInt = a2.toInt ∧ (0 ≤ a3.toInt ∧ a3.toInt ≤ 1)) ∧ v = -1) ∨ (((0 ≤ a1.toInt ∧ a1.toInt ≤ 5) ∧ (0 ≤ a2.toInt ∧ a2.toInt ≤ 5) ∧ ¬ a1.toInt = a2.toInt ∧ (0 ≤ a3.toInt ∧ a3.toInt ≤ 1)) ∧ v = if a3 = 0 then (zpt (fun k => decide (¬ ((¬ zcw (fun k j => f 26 0 (6 * k + j)) (nI k) a1 (f 25 0 0).toInt.toNat = 0) ↔ (¬ zcw (fun k j => f 26 0 (6 * k + j)) (nI k) a2 (f 25 0 0).toInt.toNat = 0)))) 63).1 else (zpt (fun k => decide (¬ ((¬ zcw (fun k j => f 26 0 (6 * k + j)) (nI k) a1 (f 25 0 0).toInt.toNat = 0) ↔ (¬ zcw (fun k j => f 26 0 (6 * k + j)) (nI k) a2 (f 25 0 0).toInt.toNat = 0)))) 63).2))) := by
  refine ZM.intro (by decide +kernel) (Nat.le_of_ble_eq_true rfl) ?_
  intro X C hr hn
  have hF : zFr [] f f := zFr.rf _ _
  have J : ∀ t : Nat, (zB a1 0 5 → zB a2 0 5 → zB a3 0 1 → ∀ a42_4 : Int32, zB a42_4 (-4) 63 → ∀ a42_5 : Int32, zB a42_5 (-2147483648) 2147483647 → ∀ a42_6 : Int32, zB a42_6 0 63 → ∀ g : zM, zInv g → zFr [] f g → (g = f) → (((0 ≤ a1.toInt ∧ a1.toInt ≤ 5) ∧ (0 ≤ a2.toInt ∧ a2.toInt ≤ 5) ∧ ¬ a1.toInt = a2.toInt ∧ (0 ≤ a3.toInt ∧ a3.toInt ≤ 1))) → ((a42_4, a42_5) = zpt (fun k => decide (¬ ((¬ zcw (fun k j => f 26 0 (6 * k + j)) (nI k) a1 (f 25 0 0).toInt.toNat = 0) ↔ (¬ zcw (fun k j => f 26 0 (6 * k + j)) (nI k) a2 (f 25 0 0).toInt.toNat = 0)))) (63 - a42_6.toInt.toNat)) → (0 + 3 * (a42_6.toInt - 0) : Int) < t → Z X 42 [some (zr 25 0), some (zi a1), some (zi a2), some (zi a3), some (zi a42_4), some (zi a42_5), some (zi a42_6)] [] g) := by
    intro t
    induction t with
    | zero =>
      intros; exfalso; omega
    | succ t ih =>
      have ih0 := ih
      intro b42_1 b42_2 b42_3 a42_4 b42_4 a42_5 b42_5 a42_6 b42_6 g42_ hI42_ hF42_ hR42_0 hR42_1 hR42_2 hM42_
      refine z_iload (pc := 42) C dX10_part_42 rfl ?_
      refine z_if_le (pc := 44) 93 C dX10_part_44 (by decide) (fun h44_0 => ?_) (fun h44_0 => ?_)
      · skip
        have b2x : zB a42_6 0 0 := by have q1 := b42_6; have q2 := (zB.of (x := 0) 0 (by decide)); simp only [z32lt, z32le, z32eq, Int32.reduceToInt, Int32.toInt_zero] at h44_0; constructor <;> omega
        refine z_iload_n (pc := 93) C dX10_part_93 rfl ?_
        refine z_if_ne (pc := 94) 102 C dX10_part_94 (by decide) (fun h94_2 => ?_) (fun h94_2 => ?_)
        · skip
          have b4x : zB a3 1 1 := by have q1 := b42_3; have q2 := (zB.of (x := 0) 0 (by decide)); simp only [z32lt, z32le, z32eq, Int32.reduceToInt, Int32.toInt_zero] at h94_2; constructor <;> omega
          refine z_iload (pc := 102) C dX10_part_102 rfl ?_
          exact z_iret (pc := 104) C hr dX10_part_104 ⟨⟨_, rfl, b42_5⟩, hI42_, hF42_, (by
                                                                                          intro v hv; cases hv
                                                                                          have hz : 63 - a42_6.toInt.toNat = 63 := by omega
                                                                                          have hr := hR42_2
                                                                                          rw [hz] at hr
                                                                                          refine Or.inr ⟨hR42_1, ?_⟩
                                                                                          first
                                                                                            | rw [if_pos (by assumption), ← hr]
                                                                                            | rw [if_neg (by assumption), ← hr])⟩
        · skip
          have b5x : zB a3 0 0 := by have q1 := b42_3; have q2 := (zB.of (x := 0) 0 (by decide)); simp only [z32lt, z32le, z32eq, Int32.reduceToInt, Int32.toInt_zero] at h94_2; constructor <;> omega
          refine z_iload (pc := 97) C dX10_part_97 rfl ?_
          refine z_goto (pc := 99) 104 C dX10_part_99 (by decide) ?_
          exact z_iret (pc := 104) C hr dX10_part_104 ⟨⟨_, rfl, (zB.wk (a' := (-2147483648)) (b' := 2147483647) b42_4 (by decide) (by decide))⟩, hI42_, hF42_, (by
                                                                                          intro v hv; cases hv
                                                                                          have hz : 63 - a42_6.toInt.toNat = 63 := by omega
                                                                                          have hr := hR42_2
                                                                                          rw [hz] at hr
                                                                                          refine Or.inr ⟨hR42_1, ?_⟩
                                                                                          first
                                                                                            | rw [if_pos (by assumption), ← hr]
                                                                                            | rw [if_neg (by assumption), ← hr])⟩
      · skip
        have b6x : zB a42_6 1 63 := by have q1 := b42_6; have q2 := (zB.of (x := 0) 0 (by decide)); simp only [z32lt, z32le, z32eq, Int32.reduceToInt, Int32.toInt_zero] at h44_0; constructor <;> omega
        refine z_aload_n (pc := 47) C dX10_part_47 rfl ?_
        refine z_iload (pc := 48) C dX10_part_48 rfl ?_
        refine z_iload_n (pc := 50) C dX10_part_50 rfl ?_
        refine z_callV (pc := 51) C zk_X10_116 (x_X10_crimesOf _ _ a42_6 (zB.wk (a' := 0) (b' := 63) b6x (by decide) (by decide)) a1 b42_1 hI42_) rfl rfl (by decide) rfl rfl (Nat.le_of_ble_eq_true rfl) dX10_part_51 (fun r7 g7 q7 => ?_)
        obtain ⟨⟨v7, rfl, b7x⟩, hI7, hF7q, hp7_0⟩ := q7
        have hp7_0 := hp7_0 _ rfl
        obtain rfl := zFr_nil hF7q
        simp only [Option.toList, List.cons_append, List.nil_append]
        refine z_if_eq (pc := 54) 61 C dX10_part_54 (by decide) (fun h54_7 => ?_) (fun h54_7 => ?_)
        · skip
          have b9x : zB v7 0 0 := by have q1 := b7x; have q2 := (zB.of (x := 0) 0 (by decide)); simp only [z32lt, z32le, z32eq, Int32.reduceToInt, Int32.toInt_zero] at h54_7; constructor <;> omega
          refine z_iconst (pc := 61) (v := 0) C dX10_part_61 (by decide) ?_
          refine z_aload_n (pc := 62) C dX10_part_62 rfl ?_
          refine z_iload (pc := 63) C dX10_part_63 rfl ?_
          refine z_iload_n (pc := 65) C dX10_part_65 rfl ?_
          refine z_callV (pc := 66) C zk_X10_116 (x_X10_crimesOf _ _ a42_6 (zB.wk (a' := 0) (b' := 63) b6x (by decide) (by decide)) a2 b42_2 hI42_) rfl rfl (by decide) rfl rfl (Nat.le_of_ble_eq_true rfl) dX10_part_66 (fun r10 g10 q10 => ?_)
          obtain ⟨⟨v10, rfl, b10x⟩, hI10, hF10q, hp10_0⟩ := q10
          have hp10_0 := hp10_0 _ rfl
          obtain rfl := zFr_nil hF10q
          simp only [Option.toList, List.cons_append, List.nil_append]
          refine z_if_eq (pc := 69) 76 C dX10_part_69 (by decide) (fun h69_10 => ?_) (fun h69_10 => ?_)
          · skip
            have b12x : zB v10 0 0 := by have q1 := b10x; have q2 := (zB.of (x := 0) 0 (by decide)); simp only [z32lt, z32le, z32eq, Int32.reduceToInt, Int32.toInt_zero] at h69_10; constructor <;> omega
            refine z_iconst (pc := 76) (v := 0) C dX10_part_76 (by decide) ?_
            refine z_icmp_eq (pc := 77) 87 C dX10_part_77 (by decide) (fun h77_12 => ?_) (fun h77_12 => absurd h77_12 (by decide))
            refine z_iinc (pc := 87) (v := -1) C dX10_part_87 rfl (by decide) (by rw [hn]; decide) rfl ?_
            obtain ⟨v14, hv14, e14⟩ : ∃ v : Int32, v = a42_6 + (-1) ∧ v.toInt = a42_6.toInt + (-1) := ⟨_, rfl, zadd_eb b6x (zB.of (x := (-1)) (-1) (by decide)) (by decide) (by decide)⟩
            rw [← hv14]
            have b14x : zB v14 0 62 := by have q9 := b6x; constructor <;> omega
            refine z_goto (pc := 90) 42 C dX10_part_90 (by decide) ?_
            exact ih0 b42_1 b42_2 b42_3 a42_4 b42_4 a42_5 b42_5 v14 (zB.wk (a' := 0) (b' := 63) b14x (by decide) (by decide)) g42_ hI42_ hF42_ (by exact hR42_0) (by exact hR42_1) (by
                                                                                          have hi : a42_6 = nI a42_6.toInt.toNat := (nI_ofI (by omega)).1
                                                                                          have pA := hp7_0
                                                                                          have pB := hp10_0
                                                                                          rw [hR42_0] at pA pB
                                                                                          have hA :  zcw (fun k j => f 26 0 (6 * k + j)) (nI a42_6.toInt.toNat) a1 (f 25 0 0).toInt.toNat = 0 := by rw [← hi, ← pA]; assumption
                                                                                          have hB :  zcw (fun k j => f 26 0 (6 * k + j)) (nI a42_6.toInt.toNat) a2 (f 25 0 0).toInt.toNat = 0 := by rw [← hi, ← pB]; assumption
                                                                                          have hD : (fun k => decide (¬ ((¬ zcw (fun k j => f 26 0 (6 * k + j)) (nI k) a1 (f 25 0 0).toInt.toNat = 0) ↔ (¬ zcw (fun k j => f 26 0 (6 * k + j)) (nI k) a2 (f 25 0 0).toInt.toNat = 0)))) a42_6.toInt.toNat = false := decide_eq_false (fun h => h ⟨fun q => absurd hA q, fun q => absurd hB q⟩)
                                                                                          have hr := zpt_n hR42_2 (by omega) (by omega) hD
                                                                                          rw [show (v14).toInt.toNat = a42_6.toInt.toNat - 1 by omega]
                                                                                          exact hr) (by omega)
          · skip
            have b15x : zB v10 1 16777215 := by have q1 := b10x; have q2 := (zB.of (x := 0) 0 (by decide)); simp only [z32lt, z32le, z32eq, Int32.reduceToInt, Int32.toInt_zero] at h69_10; constructor <;> omega
            refine z_iconst (pc := 72) (v := 1) C dX10_part_72 (by decide) ?_
            refine z_goto (pc := 73) 77 C dX10_part_73 (by decide) ?_
            refine z_icmp_eq (pc := 77) 87 C dX10_part_77 (by decide) (fun h77_15 => absurd h77_15 (by decide)) (fun h77_15 => ?_)
            refine z_iload (pc := 80) C dX10_part_80 rfl ?_
            refine z_istore (pc := 82) C dX10_part_82 (by rw [hn]; decide) rfl ?_
            refine z_iinc (pc := 84) (v := 1) C dX10_part_84 rfl (by decide) (by rw [hn]; decide) rfl ?_
            obtain ⟨v17, hv17⟩ : ∃ v : Int32, v = a42_5 + 1 := ⟨_, rfl⟩
            rw [← hv17]
            refine z_iinc (pc := 87) (v := -1) C dX10_part_87 rfl (by decide) (by rw [hn]; decide) rfl ?_
            obtain ⟨v18, hv18, e18⟩ : ∃ v : Int32, v = a42_6 + (-1) ∧ v.toInt = a42_6.toInt + (-1) := ⟨_, rfl, zadd_eb b6x (zB.of (x := (-1)) (-1) (by decide)) (by decide) (by decide)⟩
            rw [← hv18]
            have b18x : zB v18 0 62 := by have q9 := b6x; constructor <;> omega
            refine z_goto (pc := 90) 42 C dX10_part_90 (by decide) ?_
            exact ih0 b42_1 b42_2 b42_3 a42_6 (zB.wk (a' := (-4)) (b' := 63) b6x (by decide) (by decide)) v17 (zB_any v17) v18 (zB.wk (a' := 0) (b' := 63) b18x (by decide) (by decide)) g42_ hI42_ hF42_ (by exact hR42_0) (by exact hR42_1) (by
                                                                                          have hi : a42_6 = nI a42_6.toInt.toNat := (nI_ofI (by omega)).1
                                                                                          have pA := hp7_0
                                                                                          have pB := hp10_0
                                                                                          rw [hR42_0] at pA pB
                                                                                          have hA :  zcw (fun k j => f 26 0 (6 * k + j)) (nI a42_6.toInt.toNat) a1 (f 25 0 0).toInt.toNat = 0 := by rw [← hi, ← pA]; assumption
                                                                                          have hB : ¬ zcw (fun k j => f 26 0 (6 * k + j)) (nI a42_6.toInt.toNat) a2 (f 25 0 0).toInt.toNat = 0 := by rw [← hi, ← pB]; assumption
                                                                                          have hD : (fun k => decide (¬ ((¬ zcw (fun k j => f 26 0 (6 * k + j)) (nI k) a1 (f 25 0 0).toInt.toNat = 0) ↔ (¬ zcw (fun k j => f 26 0 (6 * k + j)) (nI k) a2 (f 25 0 0).toInt.toNat = 0)))) a42_6.toInt.toNat = true := decide_eq_true (fun h => (h.mpr hB) hA)
                                                                                          have hr := zpt_y hR42_2 (by omega) (by omega) hD
                                                                                          rw [← hi] at hr
                                                                                          rw [show (v18).toInt.toNat = a42_6.toInt.toNat - 1 by omega, hv17]
                                                                                          exact hr) (by omega)
        · skip
          have b19x : zB v7 1 16777215 := by have q1 := b7x; have q2 := (zB.of (x := 0) 0 (by decide)); simp only [z32lt, z32le, z32eq, Int32.reduceToInt, Int32.toInt_zero] at h54_7; constructor <;> omega
          refine z_iconst (pc := 57) (v := 1) C dX10_part_57 (by decide) ?_
          refine z_goto (pc := 58) 62 C dX10_part_58 (by decide) ?_
          refine z_aload_n (pc := 62) C dX10_part_62 rfl ?_
          refine z_iload (pc := 63) C dX10_part_63 rfl ?_
          refine z_iload_n (pc := 65) C dX10_part_65 rfl ?_
          refine z_callV (pc := 66) C zk_X10_116 (x_X10_crimesOf _ _ a42_6 (zB.wk (a' := 0) (b' := 63) b6x (by decide) (by decide)) a2 b42_2 hI42_) rfl rfl (by decide) rfl rfl (Nat.le_of_ble_eq_true rfl) dX10_part_66 (fun r20 g20 q20 => ?_)
          obtain ⟨⟨v20, rfl, b20x⟩, hI20, hF20q, hp20_0⟩ := q20
          have hp20_0 := hp20_0 _ rfl
          obtain rfl := zFr_nil hF20q
          simp only [Option.toList, List.cons_append, List.nil_append]
          refine z_if_eq (pc := 69) 76 C dX10_part_69 (by decide) (fun h69_20 => ?_) (fun h69_20 => ?_)
          · skip
            have b22x : zB v20 0 0 := by have q1 := b20x; have q2 := (zB.of (x := 0) 0 (by decide)); simp only [z32lt, z32le, z32eq, Int32.reduceToInt, Int32.toInt_zero] at h69_20; constructor <;> omega
            refine z_iconst (pc := 76) (v := 0) C dX10_part_76 (by decide) ?_
            refine z_icmp_eq (pc := 77) 87 C dX10_part_77 (by decide) (fun h77_22 => absurd h77_22 (by decide)) (fun h77_22 => ?_)
            refine z_iload (pc := 80) C dX10_part_80 rfl ?_
            refine z_istore (pc := 82) C dX10_part_82 (by rw [hn]; decide) rfl ?_
            refine z_iinc (pc := 84) (v := 1) C dX10_part_84 rfl (by decide) (by rw [hn]; decide) rfl ?_
            obtain ⟨v24, hv24⟩ : ∃ v : Int32, v = a42_5 + 1 := ⟨_, rfl⟩
            rw [← hv24]
            refine z_iinc (pc := 87) (v := -1) C dX10_part_87 rfl (by decide) (by rw [hn]; decide) rfl ?_
            obtain ⟨v25, hv25, e25⟩ : ∃ v : Int32, v = a42_6 + (-1) ∧ v.toInt = a42_6.toInt + (-1) := ⟨_, rfl, zadd_eb b6x (zB.of (x := (-1)) (-1) (by decide)) (by decide) (by decide)⟩
            rw [← hv25]
            have b25x : zB v25 0 62 := by have q9 := b6x; constructor <;> omega
            refine z_goto (pc := 90) 42 C dX10_part_90 (by decide) ?_
            exact ih0 b42_1 b42_2 b42_3 a42_6 (zB.wk (a' := (-4)) (b' := 63) b6x (by decide) (by decide)) v24 (zB_any v24) v25 (zB.wk (a' := 0) (b' := 63) b25x (by decide) (by decide)) g42_ hI42_ hF42_ (by exact hR42_0) (by exact hR42_1) (by
                                                                                          have hi : a42_6 = nI a42_6.toInt.toNat := (nI_ofI (by omega)).1
                                                                                          have pA := hp7_0
                                                                                          have pB := hp20_0
                                                                                          rw [hR42_0] at pA pB
                                                                                          have hA : ¬ zcw (fun k j => f 26 0 (6 * k + j)) (nI a42_6.toInt.toNat) a1 (f 25 0 0).toInt.toNat = 0 := by rw [← hi, ← pA]; assumption
                                                                                          have hB :  zcw (fun k j => f 26 0 (6 * k + j)) (nI a42_6.toInt.toNat) a2 (f 25 0 0).toInt.toNat = 0 := by rw [← hi, ← pB]; assumption
                                                                                          have hD : (fun k => decide (¬ ((¬ zcw (fun k j => f 26 0 (6 * k + j)) (nI k) a1 (f 25 0 0).toInt.toNat = 0) ↔ (¬ zcw (fun k j => f 26 0 (6 * k + j)) (nI k) a2 (f 25 0 0).toInt.toNat = 0)))) a42_6.toInt.toNat = true := decide_eq_true (fun h => (h.mp hA) hB)
                                                                                          have hr := zpt_y hR42_2 (by omega) (by omega) hD
                                                                                          rw [← hi] at hr
                                                                                          rw [show (v25).toInt.toNat = a42_6.toInt.toNat - 1 by omega, hv24]
                                                                                          exact hr) (by omega)
          · skip
            have b26x : zB v20 1 16777215 := by have q1 := b20x; have q2 := (zB.of (x := 0) 0 (by decide)); simp only [z32lt, z32le, z32eq, Int32.reduceToInt, Int32.toInt_zero] at h69_20; constructor <;> omega
            refine z_iconst (pc := 72) (v := 1) C dX10_part_72 (by decide) ?_
            refine z_goto (pc := 73) 77 C dX10_part_73 (by decide) ?_
            refine z_icmp_eq (pc := 77) 87 C dX10_part_77 (by decide) (fun h77_26 => ?_) (fun h77_26 => absurd h77_26 (by decide))
            refine z_iinc (pc := 87) (v := -1) C dX10_part_87 rfl (by decide) (by rw [hn]; decide) rfl ?_
            obtain ⟨v28, hv28, e28⟩ : ∃ v : Int32, v = a42_6 + (-1) ∧ v.toInt = a42_6.toInt + (-1) := ⟨_, rfl, zadd_eb b6x (zB.of (x := (-1)) (-1) (by decide)) (by decide) (by decide)⟩
            rw [← hv28]
            have b28x : zB v28 0 62 := by have q9 := b6x; constructor <;> omega
            refine z_goto (pc := 90) 42 C dX10_part_90 (by decide) ?_
            exact ih0 b42_1 b42_2 b42_3 a42_4 b42_4 a42_5 b42_5 v28 (zB.wk (a' := 0) (b' := 63) b28x (by decide) (by decide)) g42_ hI42_ hF42_ (by exact hR42_0) (by exact hR42_1) (by
                                                                                          have hi : a42_6 = nI a42_6.toInt.toNat := (nI_ofI (by omega)).1
                                                                                          have pA := hp7_0
                                                                                          have pB := hp20_0
                                                                                          rw [hR42_0] at pA pB
                                                                                          have hA : ¬ zcw (fun k j => f 26 0 (6 * k + j)) (nI a42_6.toInt.toNat) a1 (f 25 0 0).toInt.toNat = 0 := by rw [← hi, ← pA]; assumption
                                                                                          have hB : ¬ zcw (fun k j => f 26 0 (6 * k + j)) (nI a42_6.toInt.toNat) a2 (f 25 0 0).toInt.toNat = 0 := by rw [← hi, ← pB]; assumption
                                                                                          have hD : (fun k => decide (¬ ((¬ zcw (fun k j => f 26 0 (6 * k + j)) (nI k) a1 (f 25 0 0).toInt.toNat = 0) ↔ (¬ zcw (fun k j => f 26 0 (6 * k + j)) (nI k) a2 (f 25 0 0).toInt.toNat = 0)))) a42_6.toInt.toNat = false := decide_eq_false (fun h => h ⟨fun _ => hB, fun _ => hA⟩)
                                                                                          have hr := zpt_n hR42_2 (by omega) (by omega) hD
                                                                                          rw [show (v28).toInt.toNat = a42_6.toInt.toNat - 1 by omega]
                                                                                          exact hr) (by omega)
  have J0 := J 204
  show Z X 0 [some (zr 25 0), some (zi a1), some (zi a2), some (zi a3), none, none, none] [] f
  refine z_iload_n (pc := 0) C dX10_part_0 rfl ?_
  refine z_callSb (pc := 1) C zk_X10_83 (m_X10_isLand _ _ _) rfl rfl (Nat.le_of_ble_eq_true rfl) dX10_part_1 (fun h1_28 => ?_) (fun h1_28 => ?_)
  · skip
    have b30x : zB a1 0 5 := h1_28
    refine z_if_eq (pc := 4) 29 C dX10_part_4 (by decide) (fun h => absurd h (by decide)) (fun _ => ?_)
    refine z_iload_n (pc := 7) C dX10_part_7 rfl ?_
    refine z_callSb (pc := 8) C zk_X10_83 (m_X10_isLand _ _ _) rfl rfl (Nat.le_of_ble_eq_true rfl) dX10_part_8 (fun h8_30 => ?_) (fun h8_30 => ?_)
    · skip
      have b32x : zB a2 0 5 := h8_30
      refine z_if_eq (pc := 11) 29 C dX10_part_11 (by decide) (fun h => absurd h (by decide)) (fun _ => ?_)
      refine z_iload_n (pc := 14) C dX10_part_14 rfl ?_
      refine z_iload_n (pc := 15) C dX10_part_15 rfl ?_
      refine z_icmp_eq (pc := 16) 29 C dX10_part_16 (by decide) (fun h16_32 => ?_) (fun h16_32 => ?_)
      · skip
        have rr34 : a1.toInt = a2.toInt := by simp only [z32lt, z32le, z32eq] at h16_32; omega
        refine z_iconst (pc := 29) (v := -1) C dX10_part_29 (by decide) ?_
        exact z_iret (pc := 30) C hr dX10_part_30 ⟨⟨_, rfl, (zB.wk (a' := (-2147483648)) (b' := 2147483647) (zB.of (x := (-1)) (-1) (by decide)) (by decide) (by decide))⟩, hI, hF, (by intro v hv; cases hv; exact Or.inl ⟨by omega, rfl⟩)⟩
      · skip
        refine z_iload_n (pc := 19) C dX10_part_19 rfl ?_
        refine z_i2l (pc := 20) C dX10_part_20 ?_
        refine z_lconst (pc := 21) (v := 0) C dX10_part_21 (by decide) ?_
        refine z_lconst (pc := 22) (v := 1) C dX10_part_22 (by decide) ?_
        refine z_callSb (pc := 23) C zk_X10_69 (m_X10_in _ _ _ _ _) rfl rfl (Nat.le_of_ble_eq_true rfl) dX10_part_23 (fun h23_34 => ?_) (fun h23_34 => ?_)
        · skip
          have hc23_1 : (0 ≤ a3.toInt ∧ a3.toInt ≤ 1) := by have q9 := h23_34; simp only [z64] at q9; exact q9
          have b36x : zB a3 0 1 := zin64 h23_34 rfl rfl
          refine z_if_ne (pc := 26) 31 C dX10_part_26 (by decide) (fun _ => ?_) (fun h => absurd h (by decide))
          refine z_bipush (pc := 31) (v := -4) C dX10_part_31 (by decide) ?_
          refine z_istore (pc := 33) C dX10_part_33 (by rw [hn]; decide) rfl ?_
          refine z_iconst (pc := 35) (v := 0) C dX10_part_35 (by decide) ?_
          refine z_istore (pc := 36) C dX10_part_36 (by rw [hn]; decide) rfl ?_
          refine z_bipush (pc := 38) (v := 63) C dX10_part_38 (by decide) ?_
          refine z_istore (pc := 40) C dX10_part_40 (by rw [hn]; decide) rfl ?_
          exact J0 b30x b32x b36x (-4) (zB.wk (a' := (-4)) (b' := 63) (zB.of (x := (-4)) (-4) (by decide)) (by decide) (by decide)) 0 (zB.wk (a' := (-2147483648)) (b' := 2147483647) (zB.of (x := 0) 0 (by decide)) (by decide) (by decide)) 63 (zB.wk (a' := 0) (b' := 63) (zB.of (x := 63) 63 (by decide)) (by decide) (by decide)) f hI hF (by rfl) (by exact ⟨by assumption, by assumption, (fun h => absurd ((z32eq _ _).mpr h) (by assumption)), by omega⟩) (by rfl) (by have qc0 : ((-4) : Int32).toInt = (-4) := (by decide); have qc1 : (0 : Int32).toInt = 0 := (by decide); have qc2 : (63 : Int32).toInt = 63 := (by decide); omega)
        · skip
          have hc23_0 : ¬ (0 ≤ a3.toInt ∧ a3.toInt ≤ 1) := by have q9 := h23_34; simp only [z64] at q9; exact q9
          refine z_if_ne (pc := 26) 31 C dX10_part_26 (by decide) (fun h => absurd (by decide) h) (fun _ => ?_)
          refine z_iconst (pc := 29) (v := -1) C dX10_part_29 (by decide) ?_
          exact z_iret (pc := 30) C hr dX10_part_30 ⟨⟨_, rfl, (zB.wk (a' := (-2147483648)) (b' := 2147483647) (zB.of (x := (-1)) (-1) (by decide)) (by decide) (by decide))⟩, hI, hF, (by intro v hv; cases hv; exact Or.inl ⟨by omega, rfl⟩)⟩
    · skip
      refine z_if_eq (pc := 11) 29 C dX10_part_11 (by decide) (fun _ => ?_) (fun h => absurd (by decide) h)
      refine z_iconst (pc := 29) (v := -1) C dX10_part_29 (by decide) ?_
      exact z_iret (pc := 30) C hr dX10_part_30 ⟨⟨_, rfl, (zB.wk (a' := (-2147483648)) (b' := 2147483647) (zB.of (x := (-1)) (-1) (by decide)) (by decide) (by decide))⟩, hI, hF, (by intro v hv; cases hv; exact Or.inl ⟨by omega, rfl⟩)⟩
  · skip
    refine z_if_eq (pc := 4) 29 C dX10_part_4 (by decide) (fun _ => ?_) (fun h => absurd (by decide) h)
    refine z_iconst (pc := 29) (v := -1) C dX10_part_29 (by decide) ?_
    exact z_iret (pc := 30) C hr dX10_part_30 ⟨⟨_, rfl, (zB.wk (a' := (-2147483648)) (b' := 2147483647) (zB.of (x := (-1)) (-1) (by decide)) (by decide) (by decide))⟩, hI, hF, (by intro v hv; cases hv; exact Or.inl ⟨by omega, rfl⟩)⟩

theorem qd_part {f g g2 : zM} {v v2 : Int32} {a1 a2 a3 : Int32} (hI : zInv f) (hg : zInv g) (Rq : zRq f) (Rp : zRp f) (hF : zFr [] f g) (hG : zFr [] g g2) (hP : (¬ ((0 ≤ a1.toInt ∧ a1.toInt ≤ 5) ∧ (0 ≤ a2.toInt ∧ a2.toInt ≤ 5) ∧ ¬ a1.toInt = a2.toInt ∧ (0 ≤ a3.toInt ∧ a3.toInt ≤ 1)) ∧ v = -1) ∨ (((0 ≤ a1.toInt ∧ a1.toInt ≤ 5) ∧ (0 ≤ a2.toInt ∧ a2.toInt ≤ 5) ∧ ¬ a1.toInt = a2.toInt ∧ (0 ≤ a3.toInt ∧ a3.toInt ≤ 1)) ∧ v = if a3 = 0 then (zpt (fun k => decide (¬ (zlw (fun k j => f 7 k j) (nI k) (f 1 0 5).toInt.toNat >>> (a1 &&& 31) &&& 1 : Int32) = zlw (fun k j => f 7 k j) (nI k) (f 1 0 5).toInt.toNat >>> (a2 &&& 31) &&& 1)) 63).1 else (zpt (fun k => decide (¬ (zlw (fun k j => f 7 k j) (nI k) (f 1 0 5).toInt.toNat >>> (a1 &&& 31) &&& 1 : Int32) = zlw (fun k j => f 7 k j) (nI k) (f 1 0 5).toInt.toNat >>> (a2 &&& 31) &&& 1)) 63).2)) (hQ : (¬ ((0 ≤ a1.toInt ∧ a1.toInt ≤ 5) ∧ (0 ≤ a2.toInt ∧ a2.toInt ≤ 5) ∧ ¬ a1.toInt = a2.toInt ∧ (0 ≤ a3.toInt ∧ a3.toInt ≤ 1)) ∧ v2 = -1) ∨ (((0 ≤ a1.toInt ∧ a1.toInt ≤ 5) ∧ (0 ≤ a2.toInt ∧ a2.toInt ≤ 5) ∧ ¬ a1.toInt = a2.toInt ∧ (0 ≤ a3.toInt ∧ a3.toInt ≤ 1)) ∧ v2 = if a3 = 0 then (zpt (fun k => decide (¬ ((¬ zcw (fun k j => g 26 0 (6 * k + j)) (nI k) a1 (g 25 0 0).toInt.toNat = 0) ↔ (¬ zcw (fun k j => g 26 0 (6 * k + j)) (nI k) a2 (g 25 0 0).toInt.toNat = 0)))) 63).1 else (zpt (fun k => decide (¬ ((¬ zcw (fun k j => g 26 0 (6 * k + j)) (nI k) a1 (g 25 0 0).toInt.toNat = 0) ↔ (¬ zcw (fun k j => g 26 0 (6 * k + j)) (nI k) a2 (g 25 0 0).toInt.toNat = 0)))) 63).2)) : v2 = v := by
  obtain rfl := zFr_nil hF
  obtain rfl := zFr_nil hG
  rcases hP with ⟨p1, rfl⟩ | ⟨p1, rfl⟩ <;> rcases hQ with ⟨q1, rfl⟩ | ⟨q1, rfl⟩
  · rfl
  · exact absurd q1 p1
  · exact absurd p1 q1
  · have b0 : 0 ≤ (f 1 0 5).toInt ∧ (f 1 0 5).toInt ≤ 24 := hI 1 0 5
    have key : zpt (fun k => decide (¬ ((¬ zcw (fun k j => f 26 0 (6 * k + j)) (nI k) a1 (f 25 0 0).toInt.toNat = 0) ↔ (¬ zcw (fun k j => f 26 0 (6 * k + j)) (nI k) a2 (f 25 0 0).toInt.toNat = 0)))) 63 = zpt (fun k => decide (¬ (zlw (fun k j => f 7 k j) (nI k) (f 1 0 5).toInt.toNat >>> (a1 &&& 31) &&& 1 : Int32) = zlw (fun k j => f 7 k j) (nI k) (f 1 0 5).toInt.toNat >>> (a2 &&& 31) &&& 1)) 63 := by
      refine zpt_congr 63 (fun k h1 h2 => ?_) (by decide)
      have e1 : a1 = nI a1.toInt.toNat := (nI_ofI p1.1.1).1
      have e2 : a2 = nI a2.toInt.toNat := (nI_ofI p1.2.1.1).1
      have hC : ∀ i, i < (f 1 0 5).toInt.toNat → zB ((fun k j => f 7 k j) i 0) 0 5 := fun i _ => hI 7 i 0
      have hW : ∀ l : Int32, zcw (fun k j => f 26 0 (6 * k + j)) (nI k) l (f 25 0 0).toInt.toNat = zcw (fun k j => f 7 k j) (nI k) l (f 1 0 5).toInt.toNat := fun l => by
        rw [← Rq.1]
        exact zcw_congr _ (fun i j hi hj => (Rq.2.2.1 i j (by omega) hj).symm)
      simp only [hW]
      have hb : ∀ l : Nat, l < 6 → ((zlw (fun k j => f 7 k j) (nI k) (f 1 0 5).toInt.toNat >>> (nI l &&& 31) &&& 1 : Int32) = if (¬ zcw (fun k j => f 7 k j) (nI k) (nI l) (f 1 0 5).toInt.toNat = 0) then 1 else 0) := fun l hl => by
        rw [z01b (by omega)]
        have hx := zlw_bit (C := fun k j => f 7 k j) (m := nI k) hl _ hC
        have hy := zcw_ne (C := fun k j => f 7 k j) (m := nI k) (l := nI l) (n := (f 1 0 5).toInt.toNat) (by omega)
        by_cases q : bt (zlw (fun k j => f 7 k j) (nI k) (f 1 0 5).toInt.toNat) l = true
        · rw [if_pos q, if_pos (hy.mpr (hx.mp q))]
        · rw [if_neg q, if_neg (fun z => q (hx.mpr (hy.mp z)))]
      have l1 := hb a1.toInt.toNat (by have := p1.1; omega)
      have l2 := hb a2.toInt.toNat (by have := p1.2.1; omega)
      rw [← e1] at l1
      rw [← e2] at l2
      rw [l1, l2]
      generalize zcw (fun k j => f 7 k j) (nI k) a1 (f 1 0 5).toInt.toNat = A
      generalize zcw (fun k j => f 7 k j) (nI k) a2 (f 1 0 5).toInt.toNat = B
      by_cases qa : A = 0 <;> by_cases qb : B = 0 <;> simp [qa, qb]
    rw [key]
