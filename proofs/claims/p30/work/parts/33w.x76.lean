noncomputable def zt (c : Prop) (v : Int32) : Int32 := @ite Int32 c (Classical.propDecidable c) v 0
theorem zt_y {c : Prop} {v : Int32} (h : c) : zt c v = v := if_pos h
theorem zt_n {c : Prop} {v : Int32} (h : ¬ c) : zt c v = 0 := if_neg h
theorem zt_c {c d : Prop} {v : Int32} (h : c ↔ d) : zt c v = zt d v := by rw [propext h]
theorem zt_y1 {c : Prop} (h : ¬ zt c 1 = 0) : c := Classical.byContradiction (fun q => h (zt_n q))
theorem zt_n1 {c : Prop} (h : zt c 1 = 0) : ¬ c := fun q => by rw [zt_y q] at h; exact absurd h (by decide)
theorem zbo_y {v : Int32} {P : Prop} (h : zbo v P) (hv : ¬ v.toInt = 0) : P := by
  rcases h with ⟨_, h⟩ | ⟨h, _⟩
  · exact h
  · rw [h] at hv; exact absurd (by decide) hv
theorem zbo_n {v : Int32} {P : Prop} (h : zbo v P) (hv : v.toInt = 0) : ¬ P := by
  rcases h with ⟨h, _⟩ | ⟨_, h⟩
  · rw [h] at hv; exact absurd hv (by decide)
  · exact h
noncomputable def zst (c1 c2 c3 c4 c5 c6 : Prop) (b : Int32) : Int32 := ((((zt c1 1 ||| zt c2 2) ||| zt c3 4) ||| zt c4 8) ||| zt c5 16) &&& b ||| zt c6 32
/-- marks are a CRIME of a land with DEATH -/
def zdy (C : Nat → Nat → Int32) (m l : Int32) (n : Nat) : Prop := ∃ k, k < n ∧ C k 0 = l ∧ zmt (C k) m ∧ C k 5 = 1
theorem zdy_0 {C : Nat → Nat → Int32} {m l : Int32} : ¬ zdy C m l 0 := fun ⟨k, h, _⟩ => absurd h (Nat.not_lt_zero k)
theorem zdy_s {C : Nat → Nat → Int32} {m l : Int32} {n : Nat} : zdy C m l (n + 1) ↔ (zdy C m l n ∨ (C n 0 = l ∧ zmt (C n) m ∧ C n 5 = 1)) := by
  constructor
  · rintro ⟨k, h1, h2⟩
    by_cases e : k = n
    · subst e; exact Or.inr h2
    · exact Or.inl ⟨k, by omega, h2⟩
  · rintro (⟨k, h1, h2⟩ | h)
    · exact ⟨k, by omega, h2⟩
    · exact ⟨n, by omega, h⟩
theorem zdy_congr {C D : Nat → Nat → Int32} {m l : Int32} {n : Nat} (h : ∀ k j, k < n → j < 6 → C k j = D k j) : zdy C m l n ↔ zdy D m l n := by
  constructor
  · rintro ⟨k, h1, h2, h3, h4⟩
    exact ⟨k, h1, (h k 0 h1 (by decide)).symm.trans h2, (zmt_congr (fun j hj => h k j h1 hj)).mp h3, (h k 5 h1 (by decide)).symm.trans h4⟩
  · rintro ⟨k, h1, h2, h3, h4⟩
    exact ⟨k, h1, (h k 0 h1 (by decide)).trans h2, (zmt_congr (fun j hj => h k j h1 hj)).mpr h3, (h k 5 h1 (by decide)).trans h4⟩
theorem zdl_bit {C : Nat → Nat → Int32} {m : Int32} {a : Nat} (ha : a < 6) : ∀ n : Nat, (∀ k, k < n → zB (C k 0) 0 5 ∧ zB (C k 5) 0 1) → (bt (zdl C m n) a = true ↔ zdy C m (nI a) n)
  | 0, _ => by rw [zdl, b_0]; constructor
               · intro h; cases h
               · intro h; exact absurd h zdy_0
  | n + 1, hC => by
    rw [zdl, zdy_s]
    have ih := zdl_bit (m := m) ha n (fun k hk => hC k (by omega))
    obtain ⟨hb, hb5⟩ := hC n (by omega)
    obtain ⟨e1, e2⟩ := nI_ofI (x := C n 0) hb.1
    have h5 : (C n 0).toInt.toNat < 6 := by have := hb.2; omega
    have hone : ∀ q : Fin 6, ∀ a : Fin 6, (bt ((1 : Int32) <<< (nI q.val &&& 31)) a.val = true ↔ nI q.val = nI a.val) := by decide +kernel
    have h01 : ¬ C n 5 = 0 ↔ C n 5 = 1 := by
      have c0 : (0 : Int32).toInt = 0 := by decide
      have c1 : (1 : Int32).toInt = 1 := by decide
      have x1 := hb5.1
      have x2 := hb5.2
      rw [z32eq, z32eq, c0, c1]; omega
    by_cases h : zmt (C n) m ∧ ¬ C n 5 = 0
    · rw [if_pos h, b_or, Bool.or_eq_true, ih]
      have hq := hone ⟨(C n 0).toInt.toNat, h5⟩ ⟨a, ha⟩
      simp only at hq
      rw [← e1] at hq
      rw [hq]
      constructor
      · rintro (q | q)
        · exact Or.inl q
        · exact Or.inr ⟨q, h.1, h01.mp h.2⟩
      · rintro (q | q)
        · exact Or.inl q
        · exact Or.inr q.1
    · rw [if_neg h, ih]
      constructor
      · exact Or.inl
      · rintro (q | q)
        · exact q
        · exact absurd ⟨q.2.1, h01.mpr q.2.2⟩ h

set_option maxRecDepth 100000 in
set_option maxHeartbeats 4000000 in
theorem x_X1_isDeadly (d : Nat) (f : zM) (m0 : Nat) (h0 : m0 < zcnt 8) (a1 : Int32) (b1 : zB a1 0 5) (hI : zInv f) : ZM d yX1_isDeadly cX1_isDeadly 2 (some .boolean) [zr 8 m0, zi a1] f (fun r g => (∃ v, r = some (zi v) ∧ zB v 0 1) ∧ zInv g ∧ zFr [] f g ∧ (∀ v : Int32, r = some (zi v) → zbo v (bt (f 8 m0 7) a1.toInt.toNat = true))) := by
  refine ZM.intro (by decide +kernel) (Nat.le_of_ble_eq_true rfl) ?_
  intro X C hr hn
  have hF : zFr [] f f := zFr.rf _ _
  show Z X 0 [some (zr 8 m0), some (zi a1)] [] f
  refine z_aload_n (pc := 0) C dX1_isDeadly_0 rfl ?_
  refine z_getI (pc := 1) C zf_X1_45 rfl rfl h0 dX1_isDeadly_1 ?_
  refine w_gp (fun v => v = f 8 m0 7) rfl (fun v2 q2 => ?_)
  have b2x : zB v2 0 63 := by rw [q2]; exact (hI 8 m0 7)
  refine z_iload_n (pc := 4) C dX1_isDeadly_4 rfl ?_
  refine z_ishr (pc := 5) C dX1_isDeadly_5 ?_
  refine w_gp (fun v => v = v2 >>> (a1 &&& 31)) rfl (fun v3 q3 => ?_)
  refine z_iconst (pc := 6) (v := 1) C dX1_isDeadly_6 (by decide) ?_
  refine z_iand (pc := 7) C dX1_isDeadly_7 ?_
  refine w_gp (fun v => v = v3 &&& (1 : Int32)) rfl (fun v4 q4 => ?_)
  have b4x : zB v4 0 1 := by rw [q4]; exact (zand_b (zB_any v3) (zB.of (x := 1) 1 (by decide)) (by decide))
  refine z_if_eq (pc := 8) 15 C dX1_isDeadly_8 (by decide) (fun h8_4 => ?_) (fun h8_4 => ?_)
  · skip
    have b6x : zB v4 0 0 := by have q1 := b4x; have q2 := (zB.of (x := 0) 0 (by decide)); simp only [z32lt, z32le, z32eq, Int32.reduceToInt, Int32.toInt_zero] at h8_4; constructor <;> omega
    refine z_iconst (pc := 15) (v := 0) C dX1_isDeadly_15 (by decide) ?_
    exact z_zret (pc := 16) C hr (z01 (zB.wk (a' := 0) (b' := 1) (zB.of (x := 0) 0 (by decide)) (by decide) (by decide))) dX1_isDeadly_16 ⟨⟨_, rfl, (zB.wk (a' := 0) (b' := 1) (zB.of (x := 0) 0 (by decide)) (by decide) (by decide))⟩, hI, hF, (by
                                                                                          intro v hv; cases hv
                                                                                          have hl : a1 = nI a1.toInt.toNat := (nI_ofI (by omega)).1
                                                                                          have z := z01b (x := f 8 m0 7) (a := a1.toInt.toNat) (by omega)
                                                                                          rw [← hl, ← q2, ← q3, ← q4] at z
                                                                                          cases q : bt v2 a1.toInt.toNat
                                                                                          · rw [q, if_neg (by decide)] at z
                                                                                            first
                                                                                              | exact Or.inr ⟨rfl, by rw [← q2, q]; decide⟩
                                                                                              | exact absurd z (by assumption)
                                                                                          · rw [q, if_pos rfl] at z
                                                                                            first
                                                                                              | exact Or.inl ⟨rfl, by rw [← q2]; exact q⟩
                                                                                              | exact absurd z (by rw [show v4 = 0 by assumption]; decide))⟩
  · skip
    have b7x : zB v4 1 1 := by have q1 := b4x; have q2 := (zB.of (x := 0) 0 (by decide)); simp only [z32lt, z32le, z32eq, Int32.reduceToInt, Int32.toInt_zero] at h8_4; constructor <;> omega
    refine z_iconst (pc := 11) (v := 1) C dX1_isDeadly_11 (by decide) ?_
    refine z_goto (pc := 12) 16 C dX1_isDeadly_12 (by decide) ?_
    exact z_zret (pc := 16) C hr (z01 (zB.wk (a' := 0) (b' := 1) (zB.of (x := 1) 1 (by decide)) (by decide) (by decide))) dX1_isDeadly_16 ⟨⟨_, rfl, (zB.wk (a' := 0) (b' := 1) (zB.of (x := 1) 1 (by decide)) (by decide) (by decide))⟩, hI, hF, (by
                                                                                          intro v hv; cases hv
                                                                                          have hl : a1 = nI a1.toInt.toNat := (nI_ofI (by omega)).1
                                                                                          have z := z01b (x := f 8 m0 7) (a := a1.toInt.toNat) (by omega)
                                                                                          rw [← hl, ← q2, ← q3, ← q4] at z
                                                                                          cases q : bt v2 a1.toInt.toNat
                                                                                          · rw [q, if_neg (by decide)] at z
                                                                                            first
                                                                                              | exact Or.inr ⟨rfl, by rw [← q2, q]; decide⟩
                                                                                              | exact absurd z (by assumption)
                                                                                          · rw [q, if_pos rfl] at z
                                                                                            first
                                                                                              | exact Or.inl ⟨rfl, by rw [← q2]; exact q⟩
                                                                                              | exact absurd z (by rw [show v4 = 0 by assumption]; decide))⟩

set_option maxRecDepth 100000 in
set_option maxHeartbeats 4000000 in
theorem x_X4_pledges (d : Nat) (f : zM) (m0 : Nat) (h0 : m0 < zcnt 11) (a1 : Int32) (b1 : zB a1 0 7) (hI : zInv f) : ZM d yX4_pledges cX4_pledges 2 (some .boolean) [zr 11 m0, zi a1] f (fun r g => (∃ v, r = some (zi v) ∧ zB v 0 1) ∧ zInv g ∧ zFr [] f g ∧ (∀ v : Int32, r = some (zi v) → zbo v (¬ f 11 m0 7 &&& a1 = 0))) := by
  refine ZM.intro (by decide +kernel) (Nat.le_of_ble_eq_true rfl) ?_
  intro X C hr hn
  have hF : zFr [] f f := zFr.rf _ _
  show Z X 0 [some (zr 11 m0), some (zi a1)] [] f
  refine z_aload_n (pc := 0) C dX4_pledges_0 rfl ?_
  refine z_getI (pc := 1) C zf_X4_33 rfl rfl h0 dX4_pledges_1 ?_
  refine w_gp (fun v => v = f 11 m0 7) rfl (fun v2 q2 => ?_)
  have b2x : zB v2 0 7 := by rw [q2]; exact (hI 11 m0 7)
  refine z_iload_n (pc := 4) C dX4_pledges_4 rfl ?_
  refine z_iand (pc := 5) C dX4_pledges_5 ?_
  refine w_gp (fun v => v = v2 &&& a1) rfl (fun v3 q3 => ?_)
  have b3x : zB v3 0 7 := by rw [q3]; exact (zand_b b2x b1 (by decide))
  refine z_if_eq (pc := 6) 13 C dX4_pledges_6 (by decide) (fun h6_3 => ?_) (fun h6_3 => ?_)
  · skip
    have b5x : zB v3 0 0 := by have q1 := b3x; have q2 := (zB.of (x := 0) 0 (by decide)); simp only [z32lt, z32le, z32eq, Int32.reduceToInt, Int32.toInt_zero] at h6_3; constructor <;> omega
    refine z_iconst (pc := 13) (v := 0) C dX4_pledges_13 (by decide) ?_
    exact z_zret (pc := 14) C hr (z01 (zB.wk (a' := 0) (b' := 1) (zB.of (x := 0) 0 (by decide)) (by decide) (by decide))) dX4_pledges_14 ⟨⟨_, rfl, (zB.wk (a' := 0) (b' := 1) (zB.of (x := 0) 0 (by decide)) (by decide) (by decide))⟩, hI, hF, (by
                                                                                          intro v hv; cases hv
                                                                                          have e : v3 = f 11 m0 7 &&& a1 := by rw [q3, q2]
                                                                                          first
                                                                                            | exact Or.inl ⟨rfl, by rw [← e]; assumption⟩
                                                                                            | exact Or.inr ⟨rfl, fun h => h (by rw [← e]; assumption)⟩)⟩
  · skip
    have b6x : zB v3 1 7 := by have q1 := b3x; have q2 := (zB.of (x := 0) 0 (by decide)); simp only [z32lt, z32le, z32eq, Int32.reduceToInt, Int32.toInt_zero] at h6_3; constructor <;> omega
    refine z_iconst (pc := 9) (v := 1) C dX4_pledges_9 (by decide) ?_
    refine z_goto (pc := 10) 14 C dX4_pledges_10 (by decide) ?_
    exact z_zret (pc := 14) C hr (z01 (zB.wk (a' := 0) (b' := 1) (zB.of (x := 1) 1 (by decide)) (by decide) (by decide))) dX4_pledges_14 ⟨⟨_, rfl, (zB.wk (a' := 0) (b' := 1) (zB.of (x := 1) 1 (by decide)) (by decide) (by decide))⟩, hI, hF, (by
                                                                                          intro v hv; cases hv
                                                                                          have e : v3 = f 11 m0 7 &&& a1 := by rw [q3, q2]
                                                                                          first
                                                                                            | exact Or.inl ⟨rfl, by rw [← e]; assumption⟩
                                                                                            | exact Or.inr ⟨rfl, fun h => h (by rw [← e]; assumption)⟩)⟩

/-- BARS that stand against a DEED by a paper: the class, the reference -/
noncomputable def zbx (f : zM) (p d : Nat) : Int32 := zst (f 6 0 0 = f 11 p 1) (¬ f 8 d 4 = 0) (¬ f 8 d 0 &&& 32 = 0) (bt (f 8 d 7) (f 11 p 2).toInt.toNat = true ∧ f 11 p 7 &&& 1 = 0) (f 8 d 2 = f 11 p 1) (¬ f 11 p 6 = 0 ∧ (f 11 p 6).toInt < (f 6 0 2).toInt - (f 8 d 3).toInt) (f 11 p 5)
noncomputable def zsr (f : zM) (p d : Nat) : Int32 := zst (f 30 0 0 = f 28 0 (8 * p + 1)) (f 27 0 (5 * d + 4) = 1) (¬ f 27 0 (5 * d + 0) &&& 32 = 0) (zdy (fun k j => f 26 0 (6 * k + j)) (f 27 0 (5 * d + 0)) (f 28 0 (8 * p + 2)) (f 25 0 0).toInt.toNat ∧ f 28 0 (8 * p + 7) &&& 1 = 0) (f 27 0 (5 * d + 2) = f 28 0 (8 * p + 1)) (0 < (f 28 0 (8 * p + 6)).toInt ∧ (f 28 0 (8 * p + 6)).toInt < (f 30 0 2).toInt - (f 27 0 (5 * d + 3)).toInt) (f 28 0 (8 * p + 5))
set_option maxRecDepth 100000 in
set_option maxHeartbeats 4000000 in
theorem x_X8_barsAgainst (d : Nat) (f : zM) (m1 : Nat) (h1 : m1 < zcnt 11) (m2 : Nat) (h2 : m2 < zcnt 8) (hI : zInv f) : ZM (d + 1) yX8_barsAgainst cX8_barsAgainst 4 (some .int) [zr 1 0, zr 11 m1, zr 8 m2] f (fun r g => (∃ v, r = some (zi v) ∧ zB v 0 63) ∧ zInv g ∧ zFr [] f g ∧ (∀ v : Int32, r = some (zi v) → v = zbx f m1 m2)) := by
  refine ZM.intro (by decide +kernel) (Nat.le_of_ble_eq_true rfl) ?_
  intro X C hr hn
  have hF : zFr [] f f := zFr.rf _ _
  have J : ∀ t : Nat, (∀ a22_s1 : Int32, zB a22_s1 0 1 → ∀ g : zM, zInv g → zFr [] f g → (g = f) → (a22_s1 = zt (f 6 0 0 = f 11 m1 1) 1) → (5 : Int) < t → Z X 22 [some (zr 1 0), some (zr 11 m1), some (zr 8 m2), some (zi 0)] [zi a22_s1, zi 0] g) ∧ (∀ a37_3 : Int32, zB a37_3 0 1 → ∀ a37_s0 : Int32, zB a37_s0 0 1 → ∀ a37_s1 : Int32, zB a37_s1 0 2 → ∀ g : zM, zInv g → zFr [] f g → (g = f) → (a37_s0 = zt (f 6 0 0 = f 11 m1 1) 1) → (a37_s1 = zt (¬ f 8 m2 4 = 0) 2) → (4 : Int) < t → Z X 37 [some (zr 1 0), some (zr 11 m1), some (zr 8 m2), some (zi a37_3)] [zi a37_s1, zi a37_s0] g) ∧ (∀ a55_3 : Int32, zB a55_3 0 3 → ∀ a55_s0 : Int32, zB a55_s0 0 3 → ∀ a55_s1 : Int32, zB a55_s1 0 4 → ∀ g : zM, zInv g → zFr [] f g → (g = f) → (a55_s0 = (zt (f 6 0 0 = f 11 m1 1) 1 ||| zt (¬ f 8 m2 4 = 0) 2)) → (a55_s1 = zt (¬ f 8 m2 0 &&& 32 = 0) 4) → (3 : Int) < t → Z X 55 [some (zr 1 0), some (zr 11 m1), some (zr 8 m2), some (zi a55_3)] [zi a55_s1, zi a55_s0] g) ∧ (∀ a83_3 : Int32, zB a83_3 0 7 → ∀ a83_s0 : Int32, zB a83_s0 0 7 → ∀ a83_s1 : Int32, zB a83_s1 0 8 → ∀ g : zM, zInv g → zFr [] f g → (g = f) → (a83_s0 = ((zt (f 6 0 0 = f 11 m1 1) 1 ||| zt (¬ f 8 m2 4 = 0) 2) ||| zt (¬ f 8 m2 0 &&& 32 = 0) 4)) → (a83_s1 = zt (bt (f 8 m2 7) (f 11 m1 2).toInt.toNat = true ∧ f 11 m1 7 &&& 1 = 0) 8) → (2 : Int) < t → Z X 83 [some (zr 1 0), some (zr 11 m1), some (zr 8 m2), some (zi a83_3)] [zi a83_s1, zi a83_s0] g) ∧ (∀ a103_3 : Int32, zB a103_3 0 15 → ∀ a103_s0 : Int32, zB a103_s0 0 15 → ∀ a103_s1 : Int32, zB a103_s1 0 16 → ∀ g : zM, zInv g → zFr [] f g → (g = f) → (a103_s0 = (((zt (f 6 0 0 = f 11 m1 1) 1 ||| zt (¬ f 8 m2 4 = 0) 2) ||| zt (¬ f 8 m2 0 &&& 32 = 0) 4) ||| zt (bt (f 8 m2 7) (f 11 m1 2).toInt.toNat = true ∧ f 11 m1 7 &&& 1 = 0) 8)) → (a103_s1 = zt (f 8 m2 2 = f 11 m1 1) 16) → (1 : Int) < t → Z X 103 [some (zr 1 0), some (zr 11 m1), some (zr 8 m2), some (zi a103_3)] [zi a103_s1, zi a103_s0] g) ∧ (∀ a146_3 : Int32, zB a146_3 0 31 → ∀ a146_s0 : Int32, zB a146_s0 0 63 → ∀ g : zM, zInv g → zFr [] f g → (g = f) → (a146_s0 = zst (f 6 0 0 = f 11 m1 1) (¬ f 8 m2 4 = 0) (¬ f 8 m2 0 &&& 32 = 0) (bt (f 8 m2 7) (f 11 m1 2).toInt.toNat = true ∧ f 11 m1 7 &&& 1 = 0) (f 8 m2 2 = f 11 m1 1) (¬ f 11 m1 6 = 0 ∧ (f 11 m1 6).toInt < (f 6 0 2).toInt - (f 8 m2 3).toInt) (f 11 m1 5)) → (0 : Int) < t → Z X 146 [some (zr 1 0), some (zr 11 m1), some (zr 8 m2), some (zi a146_3)] [zi a146_s0] g) := by
    intro t
    induction t with
    | zero =>
      refine ⟨?_, ?_, ?_, ?_, ?_, ?_⟩ <;> (intros; exfalso; omega)
    | succ t ih =>
      obtain ⟨ih0, ih1, ih2, ih3, ih4, ih5⟩ := ih
      refine ⟨?_, ?_, ?_, ?_, ?_, ?_⟩
      · skip
        intro a22_s1 b22_s1 g22_ hI22_ hF22_ hR22_0 hR22_1 hM22_
        refine z_ior (pc := 22) C dX8_barsAgainst_22 ?_
        refine w_gp (fun v => v = (0 : Int32) ||| a22_s1) rfl (fun v1 q1 => ?_)
        have b1x : zB v1 0 1 := by rw [q1]; exact (zor_b 1 (zB.of (x := 0) 0 (by decide)) b22_s1 (by decide) (by decide) (by decide) (by decide) (by decide))
        refine z_istore_n (pc := 23) C dX8_barsAgainst_23 (by rw [hn]; decide) rfl ?_
        refine z_iload_n (pc := 24) C dX8_barsAgainst_24 rfl ?_
        refine z_aload_n (pc := 25) C dX8_barsAgainst_25 rfl ?_
        refine z_getI (pc := 26) C zf_X8_110 rfl rfl h2 dX8_barsAgainst_26 ?_
        refine w_gp (fun v => v = g22_ 8 m2 4) rfl (fun v3 q3 => ?_)
        have b3x : zB v3 0 1 := by rw [q3]; exact (hI22_ 8 m2 4)
        refine z_if_eq (pc := 29) 36 C dX8_barsAgainst_29 (by decide) (fun h29_3 => ?_) (fun h29_3 => ?_)
        · skip
          have b5x : zB v3 0 0 := by have q1 := b3x; have q2 := (zB.of (x := 0) 0 (by decide)); simp only [z32lt, z32le, z32eq, Int32.reduceToInt, Int32.toInt_zero] at h29_3; constructor <;> omega
          refine z_iconst (pc := 36) (v := 0) C dX8_barsAgainst_36 (by decide) ?_
          exact ih1 v1 b1x v1 b1x 0 (zB.wk (a' := 0) (b' := 2) (zB.of (x := 0) 0 (by decide)) (by decide) (by decide)) g22_ hI22_ hF22_ (by exact hR22_0) (by rw [q1, hR22_1]; exact Int32.zero_or) (by
                                                                                          have r26 := q3
                                                                                          rw [hR22_0] at r26
                                                                                          exact (zt_n (fun q => q (by rw [← r26]; assumption))).symm) (by have qc0 : (0 : Int32).toInt = 0 := (by decide); omega)
        · skip
          have b6x : zB v3 1 1 := by have q1 := b3x; have q2 := (zB.of (x := 0) 0 (by decide)); simp only [z32lt, z32le, z32eq, Int32.reduceToInt, Int32.toInt_zero] at h29_3; constructor <;> omega
          refine z_iconst (pc := 32) (v := 2) C dX8_barsAgainst_32 (by decide) ?_
          refine z_goto (pc := 33) 37 C dX8_barsAgainst_33 (by decide) ?_
          exact ih1 v1 b1x v1 b1x 2 (zB.wk (a' := 0) (b' := 2) (zB.of (x := 2) 2 (by decide)) (by decide) (by decide)) g22_ hI22_ hF22_ (by exact hR22_0) (by rw [q1, hR22_1]; exact Int32.zero_or) (by
                                                                                          have r26 := q3
                                                                                          rw [hR22_0] at r26
                                                                                          exact (zt_y (by rw [← r26]; assumption)).symm) (by have qc0 : (2 : Int32).toInt = 2 := (by decide); omega)
      · skip
        intro a37_3 b37_3 a37_s0 b37_s0 a37_s1 b37_s1 g37_ hI37_ hF37_ hR37_0 hR37_1 hR37_2 hM37_
        refine z_ior (pc := 37) C dX8_barsAgainst_37 ?_
        refine w_gp (fun v => v = a37_s0 ||| a37_s1) rfl (fun v7 q7 => ?_)
        have b7x : zB v7 0 3 := by rw [q7]; exact (zor_b 2 b37_s0 b37_s1 (by decide) (by decide) (by decide) (by decide) (by decide))
        refine z_istore_n (pc := 38) C dX8_barsAgainst_38 (by rw [hn]; decide) rfl ?_
        refine z_iload_n (pc := 39) C dX8_barsAgainst_39 rfl ?_
        refine z_aload_n (pc := 40) C dX8_barsAgainst_40 rfl ?_
        refine z_getI (pc := 41) C zf_X8_114 rfl rfl h2 dX8_barsAgainst_41 ?_
        refine w_gp (fun v => v = g37_ 8 m2 0) rfl (fun v9 q9 => ?_)
        have b9x : zB v9 0 63 := by rw [q9]; exact (hI37_ 8 m2 0)
        refine z_bipush (pc := 44) (v := 32) C dX8_barsAgainst_44 (by decide) ?_
        refine z_iand (pc := 46) C dX8_barsAgainst_46 ?_
        refine w_gp (fun v => v = v9 &&& (32 : Int32)) rfl (fun v10 q10 => ?_)
        have b10x : zB v10 0 32 := by rw [q10]; exact (zand_b b9x (zB.of (x := 32) 32 (by decide)) (by decide))
        refine z_if_eq (pc := 47) 54 C dX8_barsAgainst_47 (by decide) (fun h47_10 => ?_) (fun h47_10 => ?_)
        · skip
          have b12x : zB v10 0 0 := by have q1 := b10x; have q2 := (zB.of (x := 0) 0 (by decide)); simp only [z32lt, z32le, z32eq, Int32.reduceToInt, Int32.toInt_zero] at h47_10; constructor <;> omega
          refine z_iconst (pc := 54) (v := 0) C dX8_barsAgainst_54 (by decide) ?_
          exact ih2 v7 b7x v7 b7x 0 (zB.wk (a' := 0) (b' := 4) (zB.of (x := 0) 0 (by decide)) (by decide) (by decide)) g37_ hI37_ hF37_ (by exact hR37_0) (by rw [q7, hR37_1, hR37_2]) (by
                                                                                          have r41 := q9
                                                                                          rw [hR37_0] at r41
                                                                                          exact (zt_n (fun q => q (by rw [← r41, ← q10]; assumption))).symm) (by have qc0 : (0 : Int32).toInt = 0 := (by decide); omega)
        · skip
          have b13x : zB v10 1 32 := by have q1 := b10x; have q2 := (zB.of (x := 0) 0 (by decide)); simp only [z32lt, z32le, z32eq, Int32.reduceToInt, Int32.toInt_zero] at h47_10; constructor <;> omega
          refine z_iconst (pc := 50) (v := 4) C dX8_barsAgainst_50 (by decide) ?_
          refine z_goto (pc := 51) 55 C dX8_barsAgainst_51 (by decide) ?_
          exact ih2 v7 b7x v7 b7x 4 (zB.wk (a' := 0) (b' := 4) (zB.of (x := 4) 4 (by decide)) (by decide) (by decide)) g37_ hI37_ hF37_ (by exact hR37_0) (by rw [q7, hR37_1, hR37_2]) (by
                                                                                          have r41 := q9
                                                                                          rw [hR37_0] at r41
                                                                                          exact (zt_y (by rw [← r41, ← q10]; assumption)).symm) (by have qc0 : (4 : Int32).toInt = 4 := (by decide); omega)
      · skip
        intro a55_3 b55_3 a55_s0 b55_s0 a55_s1 b55_s1 g55_ hI55_ hF55_ hR55_0 hR55_1 hR55_2 hM55_
        refine z_ior (pc := 55) C dX8_barsAgainst_55 ?_
        refine w_gp (fun v => v = a55_s0 ||| a55_s1) rfl (fun v14 q14 => ?_)
        have b14x : zB v14 0 7 := by rw [q14]; exact (zor_b 3 b55_s0 b55_s1 (by decide) (by decide) (by decide) (by decide) (by decide))
        refine z_istore_n (pc := 56) C dX8_barsAgainst_56 (by rw [hn]; decide) rfl ?_
        refine z_iload_n (pc := 57) C dX8_barsAgainst_57 rfl ?_
        refine z_aload_n (pc := 58) C dX8_barsAgainst_58 rfl ?_
        refine z_aload_n (pc := 59) C dX8_barsAgainst_59 rfl ?_
        refine z_getI (pc := 60) C zf_X8_117 rfl rfl h1 dX8_barsAgainst_60 ?_
        refine w_gp (fun v => v = g55_ 11 m1 2) rfl (fun v16 q16 => ?_)
        have b16x : zB v16 0 5 := by rw [q16]; exact (hI55_ 11 m1 2)
        refine z_callV (pc := 63) C zk_X8_120 (x_X1_isDeadly _ _ m2 h2 v16 b16x hI55_) rfl rfl h2 rfl rfl (Nat.le_of_ble_eq_true rfl) dX8_barsAgainst_63 (fun r17 g17 q17 => ?_)
        obtain ⟨⟨v17, rfl, b17x⟩, hI17, hF17q, hp17_0⟩ := q17
        have hp17_0 := hp17_0 _ rfl
        obtain rfl := zFr_nil hF17q
        simp only [Option.toList, List.cons_append, List.nil_append]
        refine z_if_eq (pc := 66) 82 C dX8_barsAgainst_66 (by decide) (fun h66_17 => ?_) (fun h66_17 => ?_)
        · skip
          have b19x : zB v17 0 0 := by have q1 := b17x; have q2 := (zB.of (x := 0) 0 (by decide)); simp only [z32lt, z32le, z32eq, Int32.reduceToInt, Int32.toInt_zero] at h66_17; constructor <;> omega
          refine z_iconst (pc := 82) (v := 0) C dX8_barsAgainst_82 (by decide) ?_
          exact ih3 v14 b14x v14 b14x 0 (zB.wk (a' := 0) (b' := 8) (zB.of (x := 0) 0 (by decide)) (by decide) (by decide)) g55_ hI55_ hF55_ (by exact hR55_0) (by rw [q14, hR55_1, hR55_2]) (by
                                                                                          have r60 := q16
                                                                                          rw [hR55_0] at r60
                                                                                          have hd := hp17_0
                                                                                          rw [hR55_0, r60] at hd
                                                                                          exact (zt_n (fun q => zbo_n hd (by omega) q.1)).symm) (by have qc0 : (0 : Int32).toInt = 0 := (by decide); omega)
        · skip
          have b20x : zB v17 1 1 := by have q1 := b17x; have q2 := (zB.of (x := 0) 0 (by decide)); simp only [z32lt, z32le, z32eq, Int32.reduceToInt, Int32.toInt_zero] at h66_17; constructor <;> omega
          refine z_aload_n (pc := 69) C dX8_barsAgainst_69 rfl ?_
          refine z_iconst (pc := 70) (v := 1) C dX8_barsAgainst_70 (by decide) ?_
          refine z_callV (pc := 71) C zk_X8_123 (x_X4_pledges _ _ m1 h1 1 (zB.wk (a' := 0) (b' := 7) (zB.of (x := 1) 1 (by decide)) (by decide) (by decide)) hI55_) rfl rfl h1 rfl rfl (Nat.le_of_ble_eq_true rfl) dX8_barsAgainst_71 (fun r21 g21 q21 => ?_)
          have qa21_1 : (1 : Int32).toInt = 1 := by decide
          obtain ⟨⟨v21, rfl, b21x⟩, hI21, hF21q, hp21_0⟩ := q21
          have hp21_0 := hp21_0 _ rfl
          obtain rfl := zFr_nil hF21q
          simp only [Option.toList, List.cons_append, List.nil_append]
          refine z_if_ne (pc := 74) 82 C dX8_barsAgainst_74 (by decide) (fun h74_21 => ?_) (fun h74_21 => ?_)
          · skip
            have b23x : zB v21 1 1 := by have q1 := b21x; have q2 := (zB.of (x := 0) 0 (by decide)); simp only [z32lt, z32le, z32eq, Int32.reduceToInt, Int32.toInt_zero] at h74_21; constructor <;> omega
            refine z_iconst (pc := 82) (v := 0) C dX8_barsAgainst_82 (by decide) ?_
            exact ih3 v14 b14x v14 b14x 0 (zB.wk (a' := 0) (b' := 8) (zB.of (x := 0) 0 (by decide)) (by decide) (by decide)) g55_ hI55_ hF55_ (by exact hR55_0) (by rw [q14, hR55_1, hR55_2]) (by
                                                                                          have r60 := q16
                                                                                          rw [hR55_0] at r60
                                                                                          have hd := hp17_0
                                                                                          rw [hR55_0, r60] at hd
                                                                                          have hq := hp21_0
                                                                                          rw [hR55_0] at hq
                                                                                          exact (zt_n (fun q => zbo_y hq (by omega) q.2)).symm) (by have qc0 : (0 : Int32).toInt = 0 := (by decide); omega)
          · skip
            have b24x : zB v21 0 0 := by have q1 := b21x; have q2 := (zB.of (x := 0) 0 (by decide)); simp only [z32lt, z32le, z32eq, Int32.reduceToInt, Int32.toInt_zero] at h74_21; constructor <;> omega
            refine z_bipush (pc := 77) (v := 8) C dX8_barsAgainst_77 (by decide) ?_
            refine z_goto (pc := 79) 83 C dX8_barsAgainst_79 (by decide) ?_
            exact ih3 v14 b14x v14 b14x 8 (zB.wk (a' := 0) (b' := 8) (zB.of (x := 8) 8 (by decide)) (by decide) (by decide)) g55_ hI55_ hF55_ (by exact hR55_0) (by rw [q14, hR55_1, hR55_2]) (by
                                                                                          have r60 := q16
                                                                                          rw [hR55_0] at r60
                                                                                          have hd := hp17_0
                                                                                          rw [hR55_0, r60] at hd
                                                                                          have hq := hp21_0
                                                                                          rw [hR55_0] at hq
                                                                                          exact (zt_y ⟨zbo_y hd (by omega), Classical.byContradiction (zbo_n hq (by omega))⟩).symm) (by have qc0 : (8 : Int32).toInt = 8 := (by decide); omega)
      · skip
        intro a83_3 b83_3 a83_s0 b83_s0 a83_s1 b83_s1 g83_ hI83_ hF83_ hR83_0 hR83_1 hR83_2 hM83_
        refine z_ior (pc := 83) C dX8_barsAgainst_83 ?_
        refine w_gp (fun v => v = a83_s0 ||| a83_s1) rfl (fun v25 q25 => ?_)
        have b25x : zB v25 0 15 := by rw [q25]; exact (zor_b 4 b83_s0 b83_s1 (by decide) (by decide) (by decide) (by decide) (by decide))
        refine z_istore_n (pc := 84) C dX8_barsAgainst_84 (by rw [hn]; decide) rfl ?_
        refine z_iload_n (pc := 85) C dX8_barsAgainst_85 rfl ?_
        refine z_aload_n (pc := 86) C dX8_barsAgainst_86 rfl ?_
        refine z_getI (pc := 87) C zf_X8_126 rfl rfl h2 dX8_barsAgainst_87 ?_
        refine w_gp (fun v => v = g83_ 8 m2 2) rfl (fun v27 q27 => ?_)
        have b27x : zB v27 0 5 := by rw [q27]; exact (hI83_ 8 m2 2)
        refine z_aload_n (pc := 90) C dX8_barsAgainst_90 rfl ?_
        refine z_getI (pc := 91) C zf_X8_107 rfl rfl h1 dX8_barsAgainst_91 ?_
        refine w_gp (fun v => v = g83_ 11 m1 1) rfl (fun v29 q29 => ?_)
        have b29x : zB v29 0 5 := by rw [q29]; exact (hI83_ 11 m1 1)
        refine z_icmp_ne (pc := 94) 102 C dX8_barsAgainst_94 (by decide) (fun h94_29 => ?_) (fun h94_29 => ?_)
        · skip
          refine z_iconst (pc := 102) (v := 0) C dX8_barsAgainst_102 (by decide) ?_
          exact ih4 v25 b25x v25 b25x 0 (zB.wk (a' := 0) (b' := 16) (zB.of (x := 0) 0 (by decide)) (by decide) (by decide)) g83_ hI83_ hF83_ (by exact hR83_0) (by rw [q25, hR83_1, hR83_2]) (by
                                                                                          have r87 := q27
                                                                                          rw [hR83_0] at r87
                                                                                          have r91 := q29
                                                                                          rw [hR83_0] at r91
                                                                                          exact (zt_n (by rw [← r87, ← r91]; assumption)).symm) (by have qc0 : (0 : Int32).toInt = 0 := (by decide); omega)
        · skip
          have rr31 : v27.toInt = v29.toInt := by simp only [z32lt, z32le, z32eq] at h94_29; omega
          refine z_bipush (pc := 97) (v := 16) C dX8_barsAgainst_97 (by decide) ?_
          refine z_goto (pc := 99) 103 C dX8_barsAgainst_99 (by decide) ?_
          exact ih4 v25 b25x v25 b25x 16 (zB.wk (a' := 0) (b' := 16) (zB.of (x := 16) 16 (by decide)) (by decide) (by decide)) g83_ hI83_ hF83_ (by exact hR83_0) (by rw [q25, hR83_1, hR83_2]) (by
                                                                                          have r87 := q27
                                                                                          rw [hR83_0] at r87
                                                                                          have r91 := q29
                                                                                          rw [hR83_0] at r91
                                                                                          exact (zt_y (by rw [← r87, ← r91]; assumption)).symm) (by have qc0 : (16 : Int32).toInt = 16 := (by decide); omega)
      · skip
        intro a103_3 b103_3 a103_s0 b103_s0 a103_s1 b103_s1 g103_ hI103_ hF103_ hR103_0 hR103_1 hR103_2 hM103_
        refine z_ior (pc := 103) C dX8_barsAgainst_103 ?_
        refine w_gp (fun v => v = a103_s0 ||| a103_s1) rfl (fun v32 q32 => ?_)
        have b32x : zB v32 0 31 := by rw [q32]; exact (zor_b 5 b103_s0 b103_s1 (by decide) (by decide) (by decide) (by decide) (by decide))
        refine z_istore_n (pc := 104) C dX8_barsAgainst_104 (by rw [hn]; decide) rfl ?_
        refine z_iload_n (pc := 105) C dX8_barsAgainst_105 rfl ?_
        refine z_aload_n (pc := 106) C dX8_barsAgainst_106 rfl ?_
        refine z_getI (pc := 107) C zf_X8_127 rfl rfl h1 dX8_barsAgainst_107 ?_
        refine w_gp (fun v => v = g103_ 11 m1 5) rfl (fun v34 q34 => ?_)
        have b34x : zB v34 0 31 := by rw [q34]; exact (hI103_ 11 m1 5)
        refine z_iand (pc := 110) C dX8_barsAgainst_110 ?_
        refine w_gp (fun v => v = v32 &&& v34) rfl (fun v35 q35 => ?_)
        have b35x : zB v35 0 31 := by rw [q35]; exact (zand_b b32x b34x (by decide))
        refine z_istore_n (pc := 111) C dX8_barsAgainst_111 (by rw [hn]; decide) rfl ?_
        refine z_aload_n (pc := 112) C dX8_barsAgainst_112 rfl ?_
        refine z_getI (pc := 113) C zf_X8_130 rfl rfl h1 dX8_barsAgainst_113 ?_
        refine w_gp (fun v => v = g103_ 11 m1 6) rfl (fun v37 q37 => ?_)
        have b37x : zB v37 0 99 := by rw [q37]; exact (hI103_ 11 m1 6)
        refine z_if_eq (pc := 116) 145 C dX8_barsAgainst_116 (by decide) (fun h116_37 => ?_) (fun h116_37 => ?_)
        · skip
          have b39x : zB v37 0 0 := by have q1 := b37x; have q2 := (zB.of (x := 0) 0 (by decide)); simp only [z32lt, z32le, z32eq, Int32.reduceToInt, Int32.toInt_zero] at h116_37; constructor <;> omega
          refine z_iload_n (pc := 145) C dX8_barsAgainst_145 rfl ?_
          exact ih5 v35 b35x v35 (zB.wk (a' := 0) (b' := 63) b35x (by decide) (by decide)) g103_ hI103_ hF103_ (by exact hR103_0) (by
                                                                                          have r107 := q34
                                                                                          rw [hR103_0] at r107
                                                                                          have r113 := q37
                                                                                          rw [hR103_0] at r113
                                                                                          have hb : v35 = ((((zt (f 6 0 0 = f 11 m1 1) 1 ||| zt (¬ f 8 m2 4 = 0) 2) ||| zt (¬ f 8 m2 0 &&& 32 = 0) 4) ||| zt (bt (f 8 m2 7) (f 11 m1 2).toInt.toNat = true ∧ f 11 m1 7 &&& 1 = 0) 8) ||| zt (f 8 m2 2 = f 11 m1 1) 16) &&& f 11 m1 5 := by rw [q35, q32, hR103_1, hR103_2, r107]
                                                                                          unfold zst
                                                                                          rw [zt_n (c := ¬ f 11 m1 6 = 0 ∧ (f 11 m1 6).toInt < (f 6 0 2).toInt - (f 8 m2 3).toInt) (fun h => h.1 (by rw [← r113]; assumption)), Int32.or_zero]
                                                                                          exact hb) (by omega)
        · skip
          have b40x : zB v37 1 99 := by have q1 := b37x; have q2 := (zB.of (x := 0) 0 (by decide)); simp only [z32lt, z32le, z32eq, Int32.reduceToInt, Int32.toInt_zero] at h116_37; constructor <;> omega
          refine z_aload_n (pc := 119) C dX8_barsAgainst_119 rfl ?_
          refine z_getR (pc := 120) C zf_X8_38 rfl rfl (by decide) dX8_barsAgainst_120 ?_
          refine z_getI (pc := 123) C zf_X8_133 rfl rfl (by decide) dX8_barsAgainst_123 ?_
          refine w_gp (fun v => v = g103_ 6 0 2) rfl (fun v42 q42 => ?_)
          have b42x : zB v42 0 99 := by rw [q42]; exact (hI103_ 6 0 2)
          refine z_aload_n (pc := 126) C dX8_barsAgainst_126 rfl ?_
          refine z_getI (pc := 127) C zf_X8_136 rfl rfl h2 dX8_barsAgainst_127 ?_
          refine w_gp (fun v => v = g103_ 8 m2 3) rfl (fun v44 q44 => ?_)
          have b44x : zB v44 0 99 := by rw [q44]; exact (hI103_ 8 m2 3)
          refine z_isub (pc := 130) C dX8_barsAgainst_130 ?_
          refine w_gp (fun v => v = v42 - v44) rfl (fun v45 q45 => ?_)
          have e45 : v45.toInt = v42.toInt - v44.toInt := by rw [q45]; exact (zsub_eb b42x b44x (by decide) (by decide))
          have b45x : zB v45 (-99) 99 := by have q1 := b42x; have q2 := b44x; constructor <;> omega
          refine z_aload_n (pc := 131) C dX8_barsAgainst_131 rfl ?_
          refine z_getI (pc := 132) C zf_X8_130 rfl rfl h1 dX8_barsAgainst_132 ?_
          refine w_gp (fun v => v = g103_ 11 m1 6) rfl (fun v47 q47 => ?_)
          have b47x : zB v47 0 99 := by rw [q47]; exact (hI103_ 11 m1 6)
          refine z_icmp_le (pc := 135) 145 C dX8_barsAgainst_135 (by decide) (fun h135_47 => ?_) (fun h135_47 => ?_)
          · skip
            have rr49 : v45.toInt ≤ v47.toInt := by simp only [z32lt, z32le, z32eq] at h135_47; omega
            refine z_iload_n (pc := 145) C dX8_barsAgainst_145 rfl ?_
            exact ih5 v35 b35x v35 (zB.wk (a' := 0) (b' := 63) b35x (by decide) (by decide)) g103_ hI103_ hF103_ (by exact hR103_0) (by
                                                                                          have r107 := q34
                                                                                          rw [hR103_0] at r107
                                                                                          have r113 := q37
                                                                                          rw [hR103_0] at r113
                                                                                          have hb : v35 = ((((zt (f 6 0 0 = f 11 m1 1) 1 ||| zt (¬ f 8 m2 4 = 0) 2) ||| zt (¬ f 8 m2 0 &&& 32 = 0) 4) ||| zt (bt (f 8 m2 7) (f 11 m1 2).toInt.toNat = true ∧ f 11 m1 7 &&& 1 = 0) 8) ||| zt (f 8 m2 2 = f 11 m1 1) 16) &&& f 11 m1 5 := by rw [q35, q32, hR103_1, hR103_2, r107]
                                                                                          unfold zst
                                                                                          have r123 := q42
                                                                                          rw [hR103_0] at r123
                                                                                          have r127 := q44
                                                                                          rw [hR103_0] at r127
                                                                                          have r132 := q47
                                                                                          rw [hR103_0] at r132
                                                                                          rw [zt_n (c := ¬ f 11 m1 6 = 0 ∧ (f 11 m1 6).toInt < (f 6 0 2).toInt - (f 8 m2 3).toInt) (fun h => by have h2 := h.2; rw [← r132, ← r123, ← r127] at h2; omega), Int32.or_zero]
                                                                                          exact hb) (by omega)
          · skip
            have rr50 : v45.toInt > v47.toInt := by simp only [z32lt, z32le, z32eq] at h135_47; omega
            have b51x : zB v45 1 99 := by have q1 := b45x; have q2 := b47x; simp only [z32lt, z32le, z32eq, Int32.reduceToInt, Int32.toInt_zero] at h135_47; constructor <;> omega
            have b52x : zB v47 0 98 := by have q1 := b45x; have q2 := b47x; simp only [z32lt, z32le, z32eq, Int32.reduceToInt, Int32.toInt_zero] at h135_47; constructor <;> omega
            refine z_iload_n (pc := 138) C dX8_barsAgainst_138 rfl ?_
            refine z_bipush (pc := 139) (v := 32) C dX8_barsAgainst_139 (by decide) ?_
            refine z_ior (pc := 141) C dX8_barsAgainst_141 ?_
            refine w_gp (fun v => v = v35 ||| (32 : Int32)) rfl (fun v53 q53 => ?_)
            have b53x : zB v53 0 63 := by rw [q53]; exact (zor_b 6 b35x (zB.of (x := 32) 32 (by decide)) (by decide) (by decide) (by decide) (by decide) (by decide))
            refine z_goto (pc := 142) 146 C dX8_barsAgainst_142 (by decide) ?_
            exact ih5 v35 b35x v53 b53x g103_ hI103_ hF103_ (by exact hR103_0) (by
                                                                                          have r107 := q34
                                                                                          rw [hR103_0] at r107
                                                                                          have r113 := q37
                                                                                          rw [hR103_0] at r113
                                                                                          have hb : v35 = ((((zt (f 6 0 0 = f 11 m1 1) 1 ||| zt (¬ f 8 m2 4 = 0) 2) ||| zt (¬ f 8 m2 0 &&& 32 = 0) 4) ||| zt (bt (f 8 m2 7) (f 11 m1 2).toInt.toNat = true ∧ f 11 m1 7 &&& 1 = 0) 8) ||| zt (f 8 m2 2 = f 11 m1 1) 16) &&& f 11 m1 5 := by rw [q35, q32, hR103_1, hR103_2, r107]
                                                                                          unfold zst
                                                                                          have r123 := q42
                                                                                          rw [hR103_0] at r123
                                                                                          have r127 := q44
                                                                                          rw [hR103_0] at r127
                                                                                          have r132 := q47
                                                                                          rw [hR103_0] at r132
                                                                                          rw [zt_y (c := ¬ f 11 m1 6 = 0 ∧ (f 11 m1 6).toInt < (f 6 0 2).toInt - (f 8 m2 3).toInt) ⟨by rw [← r113]; assumption, by rw [← r132, ← r123, ← r127]; omega⟩, ← hb]
                                                                                          exact q53) (by omega)
      · skip
        intro a146_3 b146_3 a146_s0 b146_s0 g146_ hI146_ hF146_ hR146_0 hR146_1 hM146_
        exact z_iret (pc := 146) C hr dX8_barsAgainst_146 ⟨⟨_, rfl, b146_s0⟩, hI146_, hF146_, (by intro v hv; cases hv; exact hR146_1)⟩
  obtain ⟨J0, J1, J2, J3, J4, J5⟩ := J 17
  show Z X 0 [some (zr 1 0), some (zr 11 m1), some (zr 8 m2), none] [] f
  refine z_iconst (pc := 0) (v := 0) C dX8_barsAgainst_0 (by decide) ?_
  refine z_istore_n (pc := 1) C dX8_barsAgainst_1 (by rw [hn]; decide) rfl ?_
  refine z_iload_n (pc := 2) C dX8_barsAgainst_2 rfl ?_
  refine z_aload_n (pc := 3) C dX8_barsAgainst_3 rfl ?_
  refine z_getR (pc := 4) C zf_X8_38 rfl rfl (by decide) dX8_barsAgainst_4 ?_
  refine z_getI (pc := 7) C zf_X8_104 rfl rfl (by decide) dX8_barsAgainst_7 ?_
  refine w_gp (fun v => v = f 6 0 0) rfl (fun v55 q55 => ?_)
  have b55x : zB v55 0 5 := by rw [q55]; exact (hI 6 0 0)
  refine z_aload_n (pc := 10) C dX8_barsAgainst_10 rfl ?_
  refine z_getI (pc := 11) C zf_X8_107 rfl rfl h1 dX8_barsAgainst_11 ?_
  refine w_gp (fun v => v = f 11 m1 1) rfl (fun v57 q57 => ?_)
  have b57x : zB v57 0 5 := by rw [q57]; exact (hI 11 m1 1)
  refine z_icmp_ne (pc := 14) 21 C dX8_barsAgainst_14 (by decide) (fun h14_57 => ?_) (fun h14_57 => ?_)
  · skip
    refine z_iconst (pc := 21) (v := 0) C dX8_barsAgainst_21 (by decide) ?_
    exact J0 0 (zB.wk (a' := 0) (b' := 1) (zB.of (x := 0) 0 (by decide)) (by decide) (by decide)) f hI hF (by rfl) (by
                                                                                          have r7 := q55
                                                                                          have r11 := q57
                                                                                          exact (zt_n (by rw [← r7, ← r11]; assumption)).symm) (by have qc0 : (0 : Int32).toInt = 0 := (by decide); omega)
  · skip
    have rr59 : v55.toInt = v57.toInt := by simp only [z32lt, z32le, z32eq] at h14_57; omega
    refine z_iconst (pc := 17) (v := 1) C dX8_barsAgainst_17 (by decide) ?_
    refine z_goto (pc := 18) 22 C dX8_barsAgainst_18 (by decide) ?_
    exact J0 1 (zB.wk (a' := 0) (b' := 1) (zB.of (x := 1) 1 (by decide)) (by decide) (by decide)) f hI hF (by rfl) (by
                                                                                          have r7 := q55
                                                                                          have r11 := q57
                                                                                          exact (zt_y (by rw [← r7, ← r11]; assumption)).symm) (by have qc0 : (0 : Int32).toInt = 0 := (by decide); have qc1 : (1 : Int32).toInt = 1 := (by decide); omega)

set_option maxRecDepth 100000 in
set_option maxHeartbeats 4000000 in
theorem x_X9_barred (d : Nat) (f : zM) (a1 : Int32) (b1 : zB a1 (-2147483648) 2147483647) (a2 : Int32) (b2 : zB a2 (-2147483648) 2147483647) (hI : zInv f) : ZM (d + 2) yX9_barred cX9_barred 3 (some .int) [zr 0 0, zi a1, zi a2] f (fun r g => (∃ v, r = some (zi v) ∧ zB v (-1) 63) ∧ zInv g ∧ zFr [] f g ∧ (∀ v : Int32, r = some (zi v) → (¬ ((0 ≤ a1.toInt ∧ a1.toInt < (f 1 0 7).toInt) ∧ (0 ≤ a2.toInt ∧ a2.toInt < (f 1 0 6).toInt)) ∧ v = -1) ∨ (((0 ≤ a1.toInt ∧ a1.toInt < (f 1 0 7).toInt) ∧ (0 ≤ a2.toInt ∧ a2.toInt < (f 1 0 6).toInt)) ∧ v = zbx f a1.toInt.toNat a2.toInt.toNat))) := by
  refine ZM.intro (by decide +kernel) (Nat.le_of_ble_eq_true rfl) ?_
  intro X C hr hn
  have hF : zFr [] f f := zFr.rf _ _
  show Z X 0 [some (zr 0 0), some (zi a1), some (zi a2)] [] f
  refine z_aload_n (pc := 0) C dX9_barred_0 rfl ?_
  refine z_iload_n (pc := 1) C dX9_barred_1 rfl ?_
  refine z_callVb (pc := 2) C zk_X9_153 (m_X9_isPaper _ _ _) rfl rfl (by decide) rfl rfl (Nat.le_of_ble_eq_true rfl) dX9_barred_2 (fun h2_0 => ?_) (fun h2_0 => ?_)
  · skip
    have b2x : zB a1 0 11 := (zltc h2_0 (hI 1 0 7).2)
    refine z_if_eq (pc := 5) 44 C dX9_barred_5 (by decide) (fun h => absurd h (by decide)) (fun _ => ?_)
    refine z_aload_n (pc := 8) C dX9_barred_8 rfl ?_
    refine z_iload_n (pc := 9) C dX9_barred_9 rfl ?_
    refine z_callVb (pc := 10) C zk_X9_179 (m_X9_isDeed _ _ _) rfl rfl (by decide) rfl rfl (Nat.le_of_ble_eq_true rfl) dX9_barred_10 (fun h10_2 => ?_) (fun h10_2 => ?_)
    · skip
      have b4x : zB a2 0 7 := (zltc h10_2 (hI 1 0 6).2)
      refine z_if_eq (pc := 13) 44 C dX9_barred_13 (by decide) (fun h => absurd h (by decide)) (fun _ => ?_)
      refine z_aload_n (pc := 16) C dX9_barred_16 rfl ?_
      refine z_getR (pc := 17) C zf_X9_10 rfl rfl (by decide) dX9_barred_17 ?_
      refine z_aload_n (pc := 20) C dX9_barred_20 rfl ?_
      refine z_getR (pc := 21) C zf_X9_10 rfl rfl (by decide) dX9_barred_21 ?_
      refine z_getR (pc := 24) C zf_X9_90 rfl rfl (by decide) dX9_barred_24 ?_
      refine z_iload_n (pc := 27) C dX9_barred_27 rfl ?_
      refine z_aald (pc := 28) C rfl ⟨rfl, by decide⟩ (by decide) (zIx b2x (by decide) (by decide)) dX9_barred_28 ?_
      refine w_grx (by have hq := zN b2x (by decide); show 12 * 0 + a1.toNatClampNeg < 36; omega) (fun m5 q5r h5x => ?_)
      have q5r : m5 = 12 * 0 + a1.toNatClampNeg := q5r
      have k5r : a1.toNatClampNeg = a1.toInt.toNat := rfl
      refine z_aload_n (pc := 29) C dX9_barred_29 rfl ?_
      refine z_getR (pc := 30) C zf_X9_10 rfl rfl (by decide) dX9_barred_30 ?_
      refine z_getR (pc := 33) C zf_X9_74 rfl rfl (by decide) dX9_barred_33 ?_
      refine z_iload_n (pc := 36) C dX9_barred_36 rfl ?_
      refine z_aald (pc := 37) C rfl ⟨rfl, by decide⟩ (by decide) (zIx b4x (by decide) (by decide)) dX9_barred_37 ?_
      refine w_grx (by have hq := zN b4x (by decide); show 8 * 0 + a2.toNatClampNeg < 16; omega) (fun m6 q6r h6x => ?_)
      have q6r : m6 = 8 * 0 + a2.toNatClampNeg := q6r
      have k6r : a2.toNatClampNeg = a2.toInt.toNat := rfl
      refine z_callV (pc := 38) C zk_X9_265 (x_X8_barsAgainst _ _ m5 h5x m6 h6x hI) rfl rfl (by decide) rfl rfl (Nat.le_of_ble_eq_true rfl) dX9_barred_38 (fun r7 g7 q7 => ?_)
      obtain ⟨⟨v7, rfl, b7x⟩, hI7, hF7q, hp7_0⟩ := q7
      have hp7_0 := hp7_0 _ rfl
      obtain rfl := zFr_nil hF7q
      simp only [Option.toList, List.cons_append, List.nil_append]
      refine z_goto (pc := 41) 45 C dX9_barred_41 (by decide) ?_
      exact z_iret (pc := 45) C hr dX9_barred_45 ⟨⟨_, rfl, (zB.wk (a' := (-1)) (b' := 63) b7x (by decide) (by decide))⟩, hI, hF, (by
                                                                                          intro v hv; cases hv
                                                                                          have h1 : m5 = a1.toInt.toNat := by omega
                                                                                          have h2 : m6 = a2.toInt.toNat := by omega
                                                                                          have h := hp7_0
                                                                                          rw [h1, h2] at h
                                                                                          exact Or.inr ⟨by omega, h⟩)⟩
    · skip
      refine z_if_eq (pc := 13) 44 C dX9_barred_13 (by decide) (fun _ => ?_) (fun h => absurd (by decide) h)
      refine z_iconst (pc := 44) (v := -1) C dX9_barred_44 (by decide) ?_
      exact z_iret (pc := 45) C hr dX9_barred_45 ⟨⟨_, rfl, (zB.wk (a' := (-1)) (b' := 63) (zB.of (x := (-1)) (-1) (by decide)) (by decide) (by decide))⟩, hI, hF, (by intro v hv; cases hv; exact Or.inl ⟨by omega, rfl⟩)⟩
  · skip
    refine z_if_eq (pc := 5) 44 C dX9_barred_5 (by decide) (fun _ => ?_) (fun h => absurd (by decide) h)
    refine z_iconst (pc := 44) (v := -1) C dX9_barred_44 (by decide) ?_
    exact z_iret (pc := 45) C hr dX9_barred_45 ⟨⟨_, rfl, (zB.wk (a' := (-1)) (b' := 63) (zB.of (x := (-1)) (-1) (by decide)) (by decide) (by decide))⟩, hI, hF, (by intro v hv; cases hv; exact Or.inl ⟨by omega, rfl⟩)⟩

set_option maxRecDepth 100000 in
set_option maxHeartbeats 4000000 in
theorem x_X10_isDeadly (d : Nat) (f : zM) (a1 : Int32) (b1 : zB a1 0 7) (a2 : Int32) (b2 : zB a2 0 5) (hI : zInv f) : ZM (d + 2) yX10_isDeadly cX10_isDeadly 6 (some .boolean) [zr 25 0, zi a1, zi a2] f (fun r g => (∃ v, r = some (zi v) ∧ zB v 0 1) ∧ zInv g ∧ zFr [] f g ∧ (∀ v : Int32, r = some (zi v) → zbo v (zdy (fun k j => f 26 0 (6 * k + j)) (f 27 0 (5 * a1.toInt.toNat + 0)) a2 (f 25 0 0).toInt.toNat))) := by
  refine ZM.intro (by decide +kernel) (Nat.le_of_ble_eq_true rfl) ?_
  intro X C hr hn
  have hF : zFr [] f f := zFr.rf _ _
  have ct25_0_0 : zB (f 25 0 0) 0 24 := hI 25 0 0
  have J : ∀ t : Nat, (∀ a20_3 : Int32, zB a20_3 0 16777215 → ∀ a20_4 : Int32, zB a20_4 0 1 → ∀ a20_5 : Int32, zB a20_5 0 24 → ∀ g : zM, zInv g → zFr [] f g → zB (g 25 0 0) 0 24 → (g = f) → (a20_3 = zcw (fun k j => f 26 0 (6 * k + j)) (f 27 0 (5 * a1.toInt.toNat + 0)) a2 (f 25 0 0).toInt.toNat) → (zbo a20_4 (zdy (fun k j => f 26 0 (6 * k + j)) (f 27 0 (5 * a1.toInt.toNat + 0)) a2 a20_5.toInt.toNat)) → (a20_5.toInt ≤ (f 25 0 0).toInt) → ((g 25 0 0).toInt = (f 25 0 0).toInt) → (0 + 3 * (24 - a20_5.toInt) : Int) < t → Z X 20 [some (zr 25 0), some (zi a1), some (zi a2), some (zi a20_3), some (zi a20_4), some (zi a20_5)] [] g) := by
    intro t
    induction t with
    | zero =>
      intros; exfalso; omega
    | succ t ih =>
      have ih0 := ih
      intro a20_3 b20_3 a20_4 b20_4 a20_5 b20_5 g20_ hI20_ hF20_ f20_25_0_0 hR20_0 hR20_1 hR20_2 hR20_3 hR20_4 hM20_
      refine z_iload (pc := 20) C dX10_isDeadly_20 rfl ?_
      refine z_aload_n (pc := 22) C dX10_isDeadly_22 rfl ?_
      refine z_getI (pc := 23) C zf_X10_80 rfl rfl (by decide) dX10_isDeadly_23 ?_
      refine w_gp (fun v => v = g20_ 25 0 0) rfl (fun v1 q1 => ?_)
      have e1 : v1.toInt = (g20_ 25 0 0).toInt := by rw [q1]
      have b1x : zB v1 0 24 := by first | exact zB.eqv e1 f20_25_0_0 | (have q9 := f20_25_0_0; constructor <;> omega)
      refine z_icmp_ge (pc := 26) 73 C dX10_isDeadly_26 (by decide) (fun h26_1 => ?_) (fun h26_1 => ?_)
      · skip
        have rr3 : a20_5.toInt ≥ v1.toInt := by simp only [z32lt, z32le, z32eq] at h26_1; omega
        refine z_iload (pc := 73) C dX10_isDeadly_73 rfl ?_
        exact z_zret (pc := 75) C hr (z01 b20_4) dX10_isDeadly_75 ⟨⟨_, rfl, b20_4⟩, hI20_, hF20_, (by
                                                                                          intro v hv; cases hv
                                                                                          have hn : (f 25 0 0).toInt.toNat = a20_5.toInt.toNat := by omega
                                                                                          rw [hn]; exact hR20_2)⟩
      · skip
        have rr4 : a20_5.toInt < v1.toInt := by simp only [z32lt, z32le, z32eq] at h26_1; omega
        have b5x : zB a20_5 0 23 := by have q1 := b20_5; have q2 := b1x; simp only [z32lt, z32le, z32eq, Int32.reduceToInt, Int32.toInt_zero] at h26_1; constructor <;> omega
        have b6x : zB v1 1 24 := by have q1 := b20_5; have q2 := b1x; simp only [z32lt, z32le, z32eq, Int32.reduceToInt, Int32.toInt_zero] at h26_1; constructor <;> omega
        have c7x : zB (g20_ 25 0 0) 1 24 := by first | assumption | (constructor <;> omega)
        refine z_iload (pc := 29) C dX10_isDeadly_29 rfl ?_
        refine z_if_ne (pc := 31) 60 C dX10_isDeadly_31 (by decide) (fun h31_7 => ?_) (fun h31_7 => ?_)
        · skip
          have b9x : zB a20_4 1 1 := by have q1 := b20_4; have q2 := (zB.of (x := 0) 0 (by decide)); simp only [z32lt, z32le, z32eq, Int32.reduceToInt, Int32.toInt_zero] at h31_7; constructor <;> omega
          refine z_iconst (pc := 60) (v := 1) C dX10_isDeadly_60 (by decide) ?_
          refine z_goto (pc := 61) 65 C dX10_isDeadly_61 (by decide) ?_
          refine z_istore (pc := 65) C dX10_isDeadly_65 (by rw [hn]; decide) rfl ?_
          refine z_iinc (pc := 67) (v := 1) C dX10_isDeadly_67 rfl (by decide) (by rw [hn]; decide) rfl ?_
          obtain ⟨v10, hv10, e10⟩ : ∃ v : Int32, v = a20_5 + 1 ∧ v.toInt = a20_5.toInt + 1 := ⟨_, rfl, zadd_eb b5x (zB.of (x := 1) 1 (by decide)) (by decide) (by decide)⟩
          rw [← hv10]
          have b10x : zB v10 1 24 := by have q9 := b5x; constructor <;> omega
          refine z_goto (pc := 70) 20 C dX10_isDeadly_70 (by decide) ?_
          exact ih0 a20_3 b20_3 1 (zB.wk (a' := 0) (b' := 1) (zB.of (x := 1) 1 (by decide)) (by decide) (by decide)) v10 (zB.wk (a' := 0) (b' := 24) b10x (by decide) (by decide)) g20_ hI20_ hF20_ (zB.wk c7x (by decide) (by decide)) (by exact hR20_0) (by exact hR20_1) (by
                                                                                          have hn : (v10).toInt.toNat = a20_5.toInt.toNat + 1 := by omega
                                                                                          have hi : a20_5 = nI a20_5.toInt.toNat := (nI_ofI (by omega)).1
                                                                                          have b24 : (f 25 0 0).toInt ≤ 24 := (hI 25 0 0).2
                                                                                          have hb := zcw_bit (C := (fun k j => f 26 0 (6 * k + j))) (m := (f 27 0 (5 * a1.toInt.toNat + 0))) (l := a2) (i := a20_5.toInt.toNat) (by omega) (f 25 0 0).toInt.toNat (by omega)
                                                                                          rw [← hR20_1] at hb
                                                                                          rw [hn]
                                                                                          exact Or.inl ⟨rfl, zdy_s.mpr (Or.inl (zbo_y hR20_2 (by omega)))⟩) (by have qc0 : (1 : Int32).toInt = 1 := (by decide); omega) (by have qc0 : (1 : Int32).toInt = 1 := (by decide); omega) (by have qc0 : (1 : Int32).toInt = 1 := (by decide); omega)
        · skip
          have b11x : zB a20_4 0 0 := by have q1 := b20_4; have q2 := (zB.of (x := 0) 0 (by decide)); simp only [z32lt, z32le, z32eq, Int32.reduceToInt, Int32.toInt_zero] at h31_7; constructor <;> omega
          refine z_iload_n (pc := 34) C dX10_isDeadly_34 rfl ?_
          refine z_iload (pc := 35) C dX10_isDeadly_35 rfl ?_
          refine z_ishr (pc := 37) C dX10_isDeadly_37 ?_
          refine w_gp (fun v => v = a20_3 >>> (a20_5 &&& 31)) rfl (fun v12 q12 => ?_)
          refine z_iconst (pc := 38) (v := 1) C dX10_isDeadly_38 (by decide) ?_
          refine z_iand (pc := 39) C dX10_isDeadly_39 ?_
          refine w_gp (fun v => v = v12 &&& (1 : Int32)) rfl (fun v13 q13 => ?_)
          have b13x : zB v13 0 1 := by rw [q13]; exact (zand_b (zB_any v12) (zB.of (x := 1) 1 (by decide)) (by decide))
          refine z_iconst (pc := 40) (v := 1) C dX10_isDeadly_40 (by decide) ?_
          refine z_icmp_ne (pc := 41) 64 C dX10_isDeadly_41 (by decide) (fun h41_13 => ?_) (fun h41_13 => ?_)
          · skip
            have b15x : zB v13 0 0 := by have q1 := b13x; have q2 := (zB.of (x := 1) 1 (by decide)); simp only [z32lt, z32le, z32eq, Int32.reduceToInt, Int32.toInt_zero] at h41_13; constructor <;> omega
            refine z_iconst (pc := 64) (v := 0) C dX10_isDeadly_64 (by decide) ?_
            refine z_istore (pc := 65) C dX10_isDeadly_65 (by rw [hn]; decide) rfl ?_
            refine z_iinc (pc := 67) (v := 1) C dX10_isDeadly_67 rfl (by decide) (by rw [hn]; decide) rfl ?_
            obtain ⟨v16, hv16, e16⟩ : ∃ v : Int32, v = a20_5 + 1 ∧ v.toInt = a20_5.toInt + 1 := ⟨_, rfl, zadd_eb b5x (zB.of (x := 1) 1 (by decide)) (by decide) (by decide)⟩
            rw [← hv16]
            have b16x : zB v16 1 24 := by have q9 := b5x; constructor <;> omega
            refine z_goto (pc := 70) 20 C dX10_isDeadly_70 (by decide) ?_
            exact ih0 a20_3 b20_3 0 (zB.wk (a' := 0) (b' := 1) (zB.of (x := 0) 0 (by decide)) (by decide) (by decide)) v16 (zB.wk (a' := 0) (b' := 24) b16x (by decide) (by decide)) g20_ hI20_ hF20_ (zB.wk c7x (by decide) (by decide)) (by exact hR20_0) (by exact hR20_1) (by
                                                                                          have hn : (v16).toInt.toNat = a20_5.toInt.toNat + 1 := by omega
                                                                                          have hi : a20_5 = nI a20_5.toInt.toNat := (nI_ofI (by omega)).1
                                                                                          have b24 : (f 25 0 0).toInt ≤ 24 := (hI 25 0 0).2
                                                                                          have hb := zcw_bit (C := (fun k j => f 26 0 (6 * k + j))) (m := (f 27 0 (5 * a1.toInt.toNat + 0))) (l := a2) (i := a20_5.toInt.toNat) (by omega) (f 25 0 0).toInt.toNat (by omega)
                                                                                          rw [← hR20_1] at hb
                                                                                          rw [hn]
                                                                                          have z := z01b (x := zcw (fun k j => f 26 0 (6 * k + j)) (f 27 0 (5 * a1.toInt.toNat + 0)) a2 (f 25 0 0).toInt.toNat) (a := a20_5.toInt.toNat) (by omega)
                                                                                          rw [← hi, ← hR20_1, ← q12, ← q13] at z
                                                                                          have hno := zbo_n hR20_2 (by omega)
                                                                                          refine Or.inr ⟨rfl, fun h => ?_⟩
                                                                                          rcases zdy_s.mp h with h | h
                                                                                          · exact hno h
                                                                                          · rw [hb.mpr ⟨by omega, h.1, h.2.1⟩, if_pos rfl] at z
                                                                                            exact absurd z (by assumption)) (by have qc0 : (0 : Int32).toInt = 0 := (by decide); omega) (by have qc0 : (0 : Int32).toInt = 0 := (by decide); omega) (by have qc0 : (0 : Int32).toInt = 0 := (by decide); omega)
          · skip
            have b17x : zB v13 1 1 := by have q1 := b13x; have q2 := (zB.of (x := 1) 1 (by decide)); simp only [z32lt, z32le, z32eq, Int32.reduceToInt, Int32.toInt_zero] at h41_13; constructor <;> omega
            refine z_aload_n (pc := 44) C dX10_isDeadly_44 rfl ?_
            refine z_getR (pc := 45) C zf_X10_7 rfl rfl (by decide) dX10_isDeadly_45 ?_
            refine z_bipush (pc := 48) (v := 6) C dX10_isDeadly_48 (by decide) ?_
            refine z_iload (pc := 50) C dX10_isDeadly_50 rfl ?_
            refine z_imul (pc := 52) C dX10_isDeadly_52 ?_
            refine w_gp (fun v => v = (6 : Int32) * a20_5) rfl (fun v18 q18 => ?_)
            have e18 : v18.toInt = 6 * a20_5.toInt := by rw [q18]; exact (zmul_kb 6 (by decide) (by decide) b5x (by decide) (by decide))
            have b18x : zB v18 0 138 := zmul_bb e18 (by decide) b5x
            refine z_iconst (pc := 53) (v := 5) C dX10_isDeadly_53 (by decide) ?_
            refine z_iadd (pc := 54) C dX10_isDeadly_54 ?_
            refine w_gp (fun v => v = v18 + (5 : Int32)) rfl (fun v19 q19 => ?_)
            have e19 : v19.toInt = v18.toInt + 5 := by rw [q19]; exact (zadd_eb b18x (zB.of (x := 5) 5 (by decide)) (by decide) (by decide))
            have b19x : zB v19 5 143 := by have q1 := b18x; have q2 := (zB.of (x := 5) 5 (by decide)); constructor <;> omega
            refine z_iald (pc := 55) C rfl (by decide) (zIx b19x (by decide) (by decide)) dX10_isDeadly_55 ?_
            have kq55_19 : v19.toNatClampNeg = v19.toInt.toNat := rfl
            refine w_gp (fun v => v = g20_ 26 0 v19.toNatClampNeg) rfl (fun v20 q20 => ?_)
            have b20x : zB v20 0 1 := by rw [q20]; exact (by have hq9 := hI20_ 26 0 v19.toNatClampNeg; rw [zrg26 (r := 5) (by have hq : v19.toNatClampNeg = v19.toInt.toNat := rfl; have hq2 := b19x; omega)] at hq9; exact hq9)
            refine z_iconst (pc := 56) (v := 1) C dX10_isDeadly_56 (by decide) ?_
            refine z_icmp_ne (pc := 57) 64 C dX10_isDeadly_57 (by decide) (fun h57_20 => ?_) (fun h57_20 => ?_)
            · skip
              have b22x : zB v20 0 0 := by have q1 := b20x; have q2 := (zB.of (x := 1) 1 (by decide)); simp only [z32lt, z32le, z32eq, Int32.reduceToInt, Int32.toInt_zero] at h57_20; constructor <;> omega
              refine z_iconst (pc := 64) (v := 0) C dX10_isDeadly_64 (by decide) ?_
              refine z_istore (pc := 65) C dX10_isDeadly_65 (by rw [hn]; decide) rfl ?_
              refine z_iinc (pc := 67) (v := 1) C dX10_isDeadly_67 rfl (by decide) (by rw [hn]; decide) rfl ?_
              obtain ⟨v23, hv23, e23⟩ : ∃ v : Int32, v = a20_5 + 1 ∧ v.toInt = a20_5.toInt + 1 := ⟨_, rfl, zadd_eb b5x (zB.of (x := 1) 1 (by decide)) (by decide) (by decide)⟩
              rw [← hv23]
              have b23x : zB v23 1 24 := by have q9 := b5x; constructor <;> omega
              refine z_goto (pc := 70) 20 C dX10_isDeadly_70 (by decide) ?_
              exact ih0 a20_3 b20_3 0 (zB.wk (a' := 0) (b' := 1) (zB.of (x := 0) 0 (by decide)) (by decide) (by decide)) v23 (zB.wk (a' := 0) (b' := 24) b23x (by decide) (by decide)) g20_ hI20_ hF20_ (zB.wk c7x (by decide) (by decide)) (by exact hR20_0) (by exact hR20_1) (by
                                                                                          have hn : (v23).toInt.toNat = a20_5.toInt.toNat + 1 := by omega
                                                                                          have hi : a20_5 = nI a20_5.toInt.toNat := (nI_ofI (by omega)).1
                                                                                          have b24 : (f 25 0 0).toInt ≤ 24 := (hI 25 0 0).2
                                                                                          have hb := zcw_bit (C := (fun k j => f 26 0 (6 * k + j))) (m := (f 27 0 (5 * a1.toInt.toNat + 0))) (l := a2) (i := a20_5.toInt.toNat) (by omega) (f 25 0 0).toInt.toNat (by omega)
                                                                                          rw [← hR20_1] at hb
                                                                                          rw [hn]
                                                                                          have z := z01b (x := zcw (fun k j => f 26 0 (6 * k + j)) (f 27 0 (5 * a1.toInt.toNat + 0)) a2 (f 25 0 0).toInt.toNat) (a := a20_5.toInt.toNat) (by omega)
                                                                                          rw [← hi, ← hR20_1, ← q12, ← q13] at z
                                                                                          have hno := zbo_n hR20_2 (by omega)
                                                                                          have hbt : bt a20_3 a20_5.toInt.toNat = true := by
                                                                                            cases q : bt a20_3 a20_5.toInt.toNat
                                                                                            · rw [q] at z
                                                                                              exact absurd (show v13 = 1 by assumption) (by rw [z]; decide)
                                                                                            · rfl
                                                                                          obtain ⟨_, c1, c2⟩ := hb.mp hbt
                                                                                          have h5 : (v19).toNatClampNeg = 6 * a20_5.toInt.toNat + 5 := by omega
                                                                                          have q5 := q20
                                                                                          rw [h5, hR20_0] at q5
                                                                                          first
                                                                                            | exact Or.inl ⟨rfl, zdy_s.mpr (Or.inr ⟨c1, c2, q5.symm.trans (by assumption)⟩)⟩
                                                                                            | (refine Or.inr ⟨rfl, fun h => ?_⟩
                                                                                               rcases zdy_s.mp h with h | h
                                                                                               · exact hno h
                                                                                               · exact absurd (q5.trans h.2.2) (by assumption))) (by have qc0 : (0 : Int32).toInt = 0 := (by decide); omega) (by have qc0 : (0 : Int32).toInt = 0 := (by decide); omega) (by have qc0 : (0 : Int32).toInt = 0 := (by decide); omega)
            · skip
              have b24x : zB v20 1 1 := by have q1 := b20x; have q2 := (zB.of (x := 1) 1 (by decide)); simp only [z32lt, z32le, z32eq, Int32.reduceToInt, Int32.toInt_zero] at h57_20; constructor <;> omega
              refine z_iconst (pc := 60) (v := 1) C dX10_isDeadly_60 (by decide) ?_
              refine z_goto (pc := 61) 65 C dX10_isDeadly_61 (by decide) ?_
              refine z_istore (pc := 65) C dX10_isDeadly_65 (by rw [hn]; decide) rfl ?_
              refine z_iinc (pc := 67) (v := 1) C dX10_isDeadly_67 rfl (by decide) (by rw [hn]; decide) rfl ?_
              obtain ⟨v25, hv25, e25⟩ : ∃ v : Int32, v = a20_5 + 1 ∧ v.toInt = a20_5.toInt + 1 := ⟨_, rfl, zadd_eb b5x (zB.of (x := 1) 1 (by decide)) (by decide) (by decide)⟩
              rw [← hv25]
              have b25x : zB v25 1 24 := by have q9 := b5x; constructor <;> omega
              refine z_goto (pc := 70) 20 C dX10_isDeadly_70 (by decide) ?_
              exact ih0 a20_3 b20_3 1 (zB.wk (a' := 0) (b' := 1) (zB.of (x := 1) 1 (by decide)) (by decide) (by decide)) v25 (zB.wk (a' := 0) (b' := 24) b25x (by decide) (by decide)) g20_ hI20_ hF20_ (zB.wk c7x (by decide) (by decide)) (by exact hR20_0) (by exact hR20_1) (by
                                                                                          have hn : (v25).toInt.toNat = a20_5.toInt.toNat + 1 := by omega
                                                                                          have hi : a20_5 = nI a20_5.toInt.toNat := (nI_ofI (by omega)).1
                                                                                          have b24 : (f 25 0 0).toInt ≤ 24 := (hI 25 0 0).2
                                                                                          have hb := zcw_bit (C := (fun k j => f 26 0 (6 * k + j))) (m := (f 27 0 (5 * a1.toInt.toNat + 0))) (l := a2) (i := a20_5.toInt.toNat) (by omega) (f 25 0 0).toInt.toNat (by omega)
                                                                                          rw [← hR20_1] at hb
                                                                                          rw [hn]
                                                                                          have z := z01b (x := zcw (fun k j => f 26 0 (6 * k + j)) (f 27 0 (5 * a1.toInt.toNat + 0)) a2 (f 25 0 0).toInt.toNat) (a := a20_5.toInt.toNat) (by omega)
                                                                                          rw [← hi, ← hR20_1, ← q12, ← q13] at z
                                                                                          have hno := zbo_n hR20_2 (by omega)
                                                                                          have hbt : bt a20_3 a20_5.toInt.toNat = true := by
                                                                                            cases q : bt a20_3 a20_5.toInt.toNat
                                                                                            · rw [q] at z
                                                                                              exact absurd (show v13 = 1 by assumption) (by rw [z]; decide)
                                                                                            · rfl
                                                                                          obtain ⟨_, c1, c2⟩ := hb.mp hbt
                                                                                          have h5 : (v19).toNatClampNeg = 6 * a20_5.toInt.toNat + 5 := by omega
                                                                                          have q5 := q20
                                                                                          rw [h5, hR20_0] at q5
                                                                                          first
                                                                                            | exact Or.inl ⟨rfl, zdy_s.mpr (Or.inr ⟨c1, c2, q5.symm.trans (by assumption)⟩)⟩
                                                                                            | (refine Or.inr ⟨rfl, fun h => ?_⟩
                                                                                               rcases zdy_s.mp h with h | h
                                                                                               · exact hno h
                                                                                               · exact absurd (q5.trans h.2.2) (by assumption))) (by have qc0 : (1 : Int32).toInt = 1 := (by decide); omega) (by have qc0 : (1 : Int32).toInt = 1 := (by decide); omega) (by have qc0 : (1 : Int32).toInt = 1 := (by decide); omega)
  have J0 := J 87
  show Z X 0 [some (zr 25 0), some (zi a1), some (zi a2), none, none, none] [] f
  refine z_aload_n (pc := 0) C dX10_isDeadly_0 rfl ?_
  refine z_aload_n (pc := 1) C dX10_isDeadly_1 rfl ?_
  refine z_getR (pc := 2) C zf_X10_13 rfl rfl (by decide) dX10_isDeadly_2 ?_
  refine z_iconst (pc := 5) (v := 5) C dX10_isDeadly_5 (by decide) ?_
  refine z_iload_n (pc := 6) C dX10_isDeadly_6 rfl ?_
  refine z_imul (pc := 7) C dX10_isDeadly_7 ?_
  refine w_gp (fun v => v = (5 : Int32) * a1) rfl (fun v26 q26 => ?_)
  have e26 : v26.toInt = 5 * a1.toInt := by rw [q26]; exact (zmul_kb 5 (by decide) (by decide) b1 (by decide) (by decide))
  have b26x : zB v26 0 35 := zmul_bb e26 (by decide) b1
  refine z_iald (pc := 8) C rfl (by decide) (zIx b26x (by decide) (by decide)) dX10_isDeadly_8 ?_
  have kq8_26 : v26.toNatClampNeg = v26.toInt.toNat := rfl
  refine w_gp (fun v => v = f 27 0 v26.toNatClampNeg) rfl (fun v27 q27 => ?_)
  have b27x : zB v27 0 63 := by rw [q27]; exact (by have hq9 := hI 27 0 v26.toNatClampNeg; rw [zrg27 (r := 0) (by have hq : v26.toNatClampNeg = v26.toInt.toNat := rfl; have hq2 := b26x; omega)] at hq9; exact hq9)
  refine z_iload_n (pc := 9) C dX10_isDeadly_9 rfl ?_
  refine z_callV (pc := 10) C zk_X10_116 (x_X10_crimesOf _ _ v27 b27x a2 b2 hI) rfl rfl (by decide) rfl rfl (Nat.le_of_ble_eq_true rfl) dX10_isDeadly_10 (fun r28 g28 q28 => ?_)
  obtain ⟨⟨v28, rfl, b28x⟩, hI28, hF28q, hp28_0⟩ := q28
  have hp28_0 := hp28_0 _ rfl
  obtain rfl := zFr_nil hF28q
  simp only [Option.toList, List.cons_append, List.nil_append]
  refine z_istore_n (pc := 13) C dX10_isDeadly_13 (by rw [hn]; decide) rfl ?_
  refine z_iconst (pc := 14) (v := 0) C dX10_isDeadly_14 (by decide) ?_
  refine z_istore (pc := 15) C dX10_isDeadly_15 (by rw [hn]; decide) rfl ?_
  refine z_iconst (pc := 17) (v := 0) C dX10_isDeadly_17 (by decide) ?_
  refine z_istore (pc := 18) C dX10_isDeadly_18 (by rw [hn]; decide) rfl ?_
  exact J0 v28 b28x 0 (zB.wk (a' := 0) (b' := 1) (zB.of (x := 0) 0 (by decide)) (by decide) (by decide)) 0 (zB.wk (a' := 0) (b' := 24) (zB.of (x := 0) 0 (by decide)) (by decide) (by decide)) f hI hF ct25_0_0 (by rfl) (by
                                                                                          have hx : (v26).toNatClampNeg = 5 * a1.toInt.toNat + 0 := by omega
                                                                                          have hq := q27
                                                                                          rw [hx] at hq
                                                                                          have h := hp28_0
                                                                                          rw [hq] at h
                                                                                          exact h) (by exact Or.inr ⟨rfl, zdy_0⟩) (by have qc0 : (0 : Int32).toInt = 0 := (by decide); omega) (by have qc0 : (0 : Int32).toInt = 0 := (by decide); omega) (by have qc0 : (0 : Int32).toInt = 0 := (by decide); omega)

set_option maxRecDepth 100000 in
set_option maxHeartbeats 4000000 in
theorem x_X10_standing (d : Nat) (f : zM) (a1 : Int32) (b1 : zB a1 0 11) (a2 : Int32) (b2 : zB a2 0 7) (hI : zInv f) : ZM (d + 3) yX10_standing cX10_standing 6 (some .int) [zr 25 0, zi a1, zi a2] f (fun r g => (∃ v, r = some (zi v) ∧ zB v 0 63) ∧ zInv g ∧ zFr [] f g ∧ (∀ v : Int32, r = some (zi v) → v = zsr f a1.toInt.toNat a2.toInt.toNat)) := by
  refine ZM.intro (by decide +kernel) (Nat.le_of_ble_eq_true rfl) ?_
  intro X C hr hn
  have hF : zFr [] f f := zFr.rf _ _
  have J : ∀ t : Nat, (∀ a27_3 : Int32, zB a27_3 0 88 → a27_3.toInt % 8 = 0 → ∀ a27_s0 : Int32, zB a27_s0 0 1 → ∀ g : zM, zInv g → zFr [] f g → (g = f) → (a27_s0 = zt (f 30 0 0 = f 28 0 (8 * a1.toInt.toNat + 1)) 1) → (a27_3.toInt = 8 * a1.toInt) → (6 : Int) < t → Z X 27 [some (zr 25 0), some (zi a1), some (zi a2), some (zi a27_3), none, none] [zi a27_s0] g) ∧ (∀ a50_3 : Int32, zB a50_3 0 88 → a50_3.toInt % 8 = 0 → ∀ a50_4 : Int32, zB a50_4 0 1 → ∀ a50_s0 : Int32, zB a50_s0 0 1 → ∀ a50_s1 : Int32, zB a50_s1 0 2 → ∀ g : zM, zInv g → zFr [] f g → (g = f) → (a50_s0 = zt (f 30 0 0 = f 28 0 (8 * a1.toInt.toNat + 1)) 1) → (a50_s1 = zt (f 27 0 (5 * a2.toInt.toNat + 4) = 1) 2) → (a50_3.toInt = 8 * a1.toInt) → (5 : Int) < t → Z X 50 [some (zr 25 0), some (zi a1), some (zi a2), some (zi a50_3), some (zi a50_4), none] [zi a50_s1, zi a50_s0] g) ∧ (∀ a74_3 : Int32, zB a74_3 0 88 → a74_3.toInt % 8 = 0 → ∀ a74_4 : Int32, zB a74_4 0 3 → ∀ a74_s0 : Int32, zB a74_s0 0 3 → ∀ a74_s1 : Int32, zB a74_s1 0 4 → ∀ g : zM, zInv g → zFr [] f g → (g = f) → (a74_s0 = (zt (f 30 0 0 = f 28 0 (8 * a1.toInt.toNat + 1)) 1 ||| zt (f 27 0 (5 * a2.toInt.toNat + 4) = 1) 2)) → (a74_s1 = zt (¬ f 27 0 (5 * a2.toInt.toNat + 0) &&& 32 = 0) 4) → (a74_3.toInt = 8 * a1.toInt) → (4 : Int) < t → Z X 74 [some (zr 25 0), some (zi a1), some (zi a2), some (zi a74_3), some (zi a74_4), none] [zi a74_s1, zi a74_s0] g) ∧ (∀ a115_3 : Int32, zB a115_3 0 88 → a115_3.toInt % 8 = 0 → ∀ a115_4 : Int32, zB a115_4 0 7 → ∀ a115_s0 : Int32, zB a115_s0 0 7 → ∀ a115_s1 : Int32, zB a115_s1 0 8 → ∀ g : zM, zInv g → zFr [] f g → (g = f) → (a115_s0 = ((zt (f 30 0 0 = f 28 0 (8 * a1.toInt.toNat + 1)) 1 ||| zt (f 27 0 (5 * a2.toInt.toNat + 4) = 1) 2) ||| zt (¬ f 27 0 (5 * a2.toInt.toNat + 0) &&& 32 = 0) 4)) → (a115_s1 = zt (zdy (fun k j => f 26 0 (6 * k + j)) (f 27 0 (5 * a2.toInt.toNat + 0)) (f 28 0 (8 * a1.toInt.toNat + 2)) (f 25 0 0).toInt.toNat ∧ f 28 0 (8 * a1.toInt.toNat + 7) &&& 1 = 0) 8) → (a115_3.toInt = 8 * a1.toInt) → (3 : Int) < t → Z X 115 [some (zr 25 0), some (zi a1), some (zi a2), some (zi a115_3), some (zi a115_4), none] [zi a115_s1, zi a115_s0] g) ∧ (∀ a147_3 : Int32, zB a147_3 0 88 → a147_3.toInt % 8 = 0 → ∀ a147_4 : Int32, zB a147_4 0 15 → ∀ a147_s0 : Int32, zB a147_s0 0 15 → ∀ a147_s1 : Int32, zB a147_s1 0 16 → ∀ g : zM, zInv g → zFr [] f g → (g = f) → (a147_s0 = (((zt (f 30 0 0 = f 28 0 (8 * a1.toInt.toNat + 1)) 1 ||| zt (f 27 0 (5 * a2.toInt.toNat + 4) = 1) 2) ||| zt (¬ f 27 0 (5 * a2.toInt.toNat + 0) &&& 32 = 0) 4) ||| zt (zdy (fun k j => f 26 0 (6 * k + j)) (f 27 0 (5 * a2.toInt.toNat + 0)) (f 28 0 (8 * a1.toInt.toNat + 2)) (f 25 0 0).toInt.toNat ∧ f 28 0 (8 * a1.toInt.toNat + 7) &&& 1 = 0) 8)) → (a147_s1 = zt (f 27 0 (5 * a2.toInt.toNat + 2) = f 28 0 (8 * a1.toInt.toNat + 1)) 16) → (a147_3.toInt = 8 * a1.toInt) → (2 : Int) < t → Z X 147 [some (zr 25 0), some (zi a1), some (zi a2), some (zi a147_3), some (zi a147_4), none] [zi a147_s1, zi a147_s0] g) ∧ (∀ a196_3 : Int32, zB a196_3 0 88 → a196_3.toInt % 8 = 0 → ∀ a196_4 : Int32, zB a196_4 0 31 → ∀ a196_s0 : Int32, zB a196_s0 0 1 → ∀ g : zM, zInv g → zFr [] f g → (g = f) → (a196_4 = ((((zt (f 30 0 0 = f 28 0 (8 * a1.toInt.toNat + 1)) 1 ||| zt (f 27 0 (5 * a2.toInt.toNat + 4) = 1) 2) ||| zt (¬ f 27 0 (5 * a2.toInt.toNat + 0) &&& 32 = 0) 4) ||| zt (zdy (fun k j => f 26 0 (6 * k + j)) (f 27 0 (5 * a2.toInt.toNat + 0)) (f 28 0 (8 * a1.toInt.toNat + 2)) (f 25 0 0).toInt.toNat ∧ f 28 0 (8 * a1.toInt.toNat + 7) &&& 1 = 0) 8) ||| zt (f 27 0 (5 * a2.toInt.toNat + 2) = f 28 0 (8 * a1.toInt.toNat + 1)) 16)) → (a196_s0 = zt (0 < (f 28 0 (8 * a1.toInt.toNat + 6)).toInt ∧ (f 28 0 (8 * a1.toInt.toNat + 6)).toInt < (f 30 0 2).toInt - (f 27 0 (5 * a2.toInt.toNat + 3)).toInt) 1) → (a196_3.toInt = 8 * a1.toInt) → (1 : Int) < t → Z X 196 [some (zr 25 0), some (zi a1), some (zi a2), some (zi a196_3), some (zi a196_4), none] [zi a196_s0] g) ∧ (∀ a220_3 : Int32, zB a220_3 0 88 → a220_3.toInt % 8 = 0 → ∀ a220_4 : Int32, zB a220_4 0 31 → ∀ a220_5 : Int32, zB a220_5 0 1 → ∀ a220_s0 : Int32, zB a220_s0 0 31 → ∀ a220_s1 : Int32, zB a220_s1 0 32 → ∀ g : zM, zInv g → zFr [] f g → (g = f) → (a220_s0 = ((((zt (f 30 0 0 = f 28 0 (8 * a1.toInt.toNat + 1)) 1 ||| zt (f 27 0 (5 * a2.toInt.toNat + 4) = 1) 2) ||| zt (¬ f 27 0 (5 * a2.toInt.toNat + 0) &&& 32 = 0) 4) ||| zt (zdy (fun k j => f 26 0 (6 * k + j)) (f 27 0 (5 * a2.toInt.toNat + 0)) (f 28 0 (8 * a1.toInt.toNat + 2)) (f 25 0 0).toInt.toNat ∧ f 28 0 (8 * a1.toInt.toNat + 7) &&& 1 = 0) 8) ||| zt (f 27 0 (5 * a2.toInt.toNat + 2) = f 28 0 (8 * a1.toInt.toNat + 1)) 16) &&& f 28 0 (8 * a1.toInt.toNat + 5)) → (a220_s1 = zt (0 < (f 28 0 (8 * a1.toInt.toNat + 6)).toInt ∧ (f 28 0 (8 * a1.toInt.toNat + 6)).toInt < (f 30 0 2).toInt - (f 27 0 (5 * a2.toInt.toNat + 3)).toInt) 32) → (a220_3.toInt = 8 * a1.toInt) → (0 : Int) < t → Z X 220 [some (zr 25 0), some (zi a1), some (zi a2), some (zi a220_3), some (zi a220_4), some (zi a220_5)] [zi a220_s1, zi a220_s0] g) := by
    intro t
    induction t with
    | zero =>
      refine ⟨?_, ?_, ?_, ?_, ?_, ?_, ?_⟩ <;> (intros; exfalso; omega)
    | succ t ih =>
      obtain ⟨ih0, ih1, ih2, ih3, ih4, ih5, ih6⟩ := ih
      refine ⟨?_, ?_, ?_, ?_, ?_, ?_, ?_⟩
      · skip
        intro a27_3 b27_3 n27_3 a27_s0 b27_s0 g27_ hI27_ hF27_ hR27_0 hR27_1 hR27_2 hM27_
        refine z_istore (pc := 27) C dX10_standing_27 (by rw [hn]; decide) rfl ?_
        refine z_iload (pc := 29) C dX10_standing_29 rfl ?_
        refine z_aload_n (pc := 31) C dX10_standing_31 rfl ?_
        refine z_getR (pc := 32) C zf_X10_13 rfl rfl (by decide) dX10_standing_32 ?_
        refine z_iconst (pc := 35) (v := 5) C dX10_standing_35 (by decide) ?_
        refine z_iload_n (pc := 36) C dX10_standing_36 rfl ?_
        refine z_imul (pc := 37) C dX10_standing_37 ?_
        refine w_gp (fun v => v = (5 : Int32) * a2) rfl (fun v1 q1 => ?_)
        have e1 : v1.toInt = 5 * a2.toInt := by rw [q1]; exact (zmul_kb 5 (by decide) (by decide) b2 (by decide) (by decide))
        have b1x : zB v1 0 35 := zmul_bb e1 (by decide) b2
        refine z_iconst (pc := 38) (v := 4) C dX10_standing_38 (by decide) ?_
        refine z_iadd (pc := 39) C dX10_standing_39 ?_
        refine w_gp (fun v => v = v1 + (4 : Int32)) rfl (fun v2 q2 => ?_)
        have e2 : v2.toInt = v1.toInt + 4 := by rw [q2]; exact (zadd_eb b1x (zB.of (x := 4) 4 (by decide)) (by decide) (by decide))
        have b2x : zB v2 4 39 := by have q1 := b1x; have q2 := (zB.of (x := 4) 4 (by decide)); constructor <;> omega
        refine z_iald (pc := 40) C rfl (by decide) (zIx b2x (by decide) (by decide)) dX10_standing_40 ?_
        have kq40_2 : v2.toNatClampNeg = v2.toInt.toNat := rfl
        refine w_gp (fun v => v = g27_ 27 0 v2.toNatClampNeg) rfl (fun v3 q3 => ?_)
        have b3x : zB v3 0 1 := by rw [q3]; exact (by have hq9 := hI27_ 27 0 v2.toNatClampNeg; rw [zrg27 (r := 4) (by have hq : v2.toNatClampNeg = v2.toInt.toNat := rfl; have hq2 := b2x; omega)] at hq9; exact hq9)
        refine z_iconst (pc := 41) (v := 1) C dX10_standing_41 (by decide) ?_
        refine z_icmp_ne (pc := 42) 49 C dX10_standing_42 (by decide) (fun h42_3 => ?_) (fun h42_3 => ?_)
        · skip
          have b5x : zB v3 0 0 := by have q1 := b3x; have q2 := (zB.of (x := 1) 1 (by decide)); simp only [z32lt, z32le, z32eq, Int32.reduceToInt, Int32.toInt_zero] at h42_3; constructor <;> omega
          refine z_iconst (pc := 49) (v := 0) C dX10_standing_49 (by decide) ?_
          exact ih1 a27_3 b27_3 (by have qc0 : (0 : Int32).toInt = 0 := (by decide); omega) a27_s0 b27_s0 a27_s0 b27_s0 0 (zB.wk (a' := 0) (b' := 2) (zB.of (x := 0) 0 (by decide)) (by decide) (by decide)) g27_ hI27_ hF27_ (by exact hR27_0) (by exact hR27_1) (by
                                                                                          have x40 : (v2).toNatClampNeg = 5 * a2.toInt.toNat + 4 := by omega
                                                                                          have r40 := q3
                                                                                          rw [x40, hR27_0] at r40
                                                                                          exact (zt_n (by rw [← r40]; assumption)).symm) (by have qc0 : (0 : Int32).toInt = 0 := (by decide); omega) (by have qc0 : (0 : Int32).toInt = 0 := (by decide); omega)
        · skip
          have b6x : zB v3 1 1 := by have q1 := b3x; have q2 := (zB.of (x := 1) 1 (by decide)); simp only [z32lt, z32le, z32eq, Int32.reduceToInt, Int32.toInt_zero] at h42_3; constructor <;> omega
          refine z_iconst (pc := 45) (v := 2) C dX10_standing_45 (by decide) ?_
          refine z_goto (pc := 46) 50 C dX10_standing_46 (by decide) ?_
          exact ih1 a27_3 b27_3 (by have qc0 : (2 : Int32).toInt = 2 := (by decide); omega) a27_s0 b27_s0 a27_s0 b27_s0 2 (zB.wk (a' := 0) (b' := 2) (zB.of (x := 2) 2 (by decide)) (by decide) (by decide)) g27_ hI27_ hF27_ (by exact hR27_0) (by exact hR27_1) (by
                                                                                          have x40 : (v2).toNatClampNeg = 5 * a2.toInt.toNat + 4 := by omega
                                                                                          have r40 := q3
                                                                                          rw [x40, hR27_0] at r40
                                                                                          exact (zt_y (by rw [← r40]; assumption)).symm) (by have qc0 : (2 : Int32).toInt = 2 := (by decide); omega) (by have qc0 : (2 : Int32).toInt = 2 := (by decide); omega)
      · skip
        intro a50_3 b50_3 n50_3 a50_4 b50_4 a50_s0 b50_s0 a50_s1 b50_s1 g50_ hI50_ hF50_ hR50_0 hR50_1 hR50_2 hR50_3 hM50_
        refine z_ior (pc := 50) C dX10_standing_50 ?_
        refine w_gp (fun v => v = a50_s0 ||| a50_s1) rfl (fun v7 q7 => ?_)
        have b7x : zB v7 0 3 := by rw [q7]; exact (zor_b 2 b50_s0 b50_s1 (by decide) (by decide) (by decide) (by decide) (by decide))
        refine z_istore (pc := 51) C dX10_standing_51 (by rw [hn]; decide) rfl ?_
        refine z_iload (pc := 53) C dX10_standing_53 rfl ?_
        refine z_aload_n (pc := 55) C dX10_standing_55 rfl ?_
        refine z_getR (pc := 56) C zf_X10_13 rfl rfl (by decide) dX10_standing_56 ?_
        refine z_iconst (pc := 59) (v := 5) C dX10_standing_59 (by decide) ?_
        refine z_iload_n (pc := 60) C dX10_standing_60 rfl ?_
        refine z_imul (pc := 61) C dX10_standing_61 ?_
        refine w_gp (fun v => v = (5 : Int32) * a2) rfl (fun v8 q8 => ?_)
        have e8 : v8.toInt = 5 * a2.toInt := by rw [q8]; exact (zmul_kb 5 (by decide) (by decide) b2 (by decide) (by decide))
        have b8x : zB v8 0 35 := zmul_bb e8 (by decide) b2
        refine z_iald (pc := 62) C rfl (by decide) (zIx b8x (by decide) (by decide)) dX10_standing_62 ?_
        have kq62_8 : v8.toNatClampNeg = v8.toInt.toNat := rfl
        refine w_gp (fun v => v = g50_ 27 0 v8.toNatClampNeg) rfl (fun v9 q9 => ?_)
        have b9x : zB v9 0 63 := by rw [q9]; exact (by have hq9 := hI50_ 27 0 v8.toNatClampNeg; rw [zrg27 (r := 0) (by have hq : v8.toNatClampNeg = v8.toInt.toNat := rfl; have hq2 := b8x; omega)] at hq9; exact hq9)
        refine z_bipush (pc := 63) (v := 32) C dX10_standing_63 (by decide) ?_
        refine z_iand (pc := 65) C dX10_standing_65 ?_
        refine w_gp (fun v => v = v9 &&& (32 : Int32)) rfl (fun v10 q10 => ?_)
        have b10x : zB v10 0 32 := by rw [q10]; exact (zand_b b9x (zB.of (x := 32) 32 (by decide)) (by decide))
        refine z_if_eq (pc := 66) 73 C dX10_standing_66 (by decide) (fun h66_10 => ?_) (fun h66_10 => ?_)
        · skip
          have b12x : zB v10 0 0 := by have q1 := b10x; have q2 := (zB.of (x := 0) 0 (by decide)); simp only [z32lt, z32le, z32eq, Int32.reduceToInt, Int32.toInt_zero] at h66_10; constructor <;> omega
          refine z_iconst (pc := 73) (v := 0) C dX10_standing_73 (by decide) ?_
          exact ih2 a50_3 b50_3 (by have qc0 : (0 : Int32).toInt = 0 := (by decide); omega) v7 b7x v7 b7x 0 (zB.wk (a' := 0) (b' := 4) (zB.of (x := 0) 0 (by decide)) (by decide) (by decide)) g50_ hI50_ hF50_ (by exact hR50_0) (by rw [q7, hR50_1, hR50_2]) (by
                                                                                          have x62 : (v8).toNatClampNeg = 5 * a2.toInt.toNat + 0 := by omega
                                                                                          have r62 := q9
                                                                                          rw [x62, hR50_0] at r62
                                                                                          exact (zt_n (fun q => q (by rw [← r62, ← q10]; assumption))).symm) (by have qc0 : (0 : Int32).toInt = 0 := (by decide); omega) (by have qc0 : (0 : Int32).toInt = 0 := (by decide); omega)
        · skip
          have b13x : zB v10 1 32 := by have q1 := b10x; have q2 := (zB.of (x := 0) 0 (by decide)); simp only [z32lt, z32le, z32eq, Int32.reduceToInt, Int32.toInt_zero] at h66_10; constructor <;> omega
          refine z_iconst (pc := 69) (v := 4) C dX10_standing_69 (by decide) ?_
          refine z_goto (pc := 70) 74 C dX10_standing_70 (by decide) ?_
          exact ih2 a50_3 b50_3 (by have qc0 : (4 : Int32).toInt = 4 := (by decide); omega) v7 b7x v7 b7x 4 (zB.wk (a' := 0) (b' := 4) (zB.of (x := 4) 4 (by decide)) (by decide) (by decide)) g50_ hI50_ hF50_ (by exact hR50_0) (by rw [q7, hR50_1, hR50_2]) (by
                                                                                          have x62 : (v8).toNatClampNeg = 5 * a2.toInt.toNat + 0 := by omega
                                                                                          have r62 := q9
                                                                                          rw [x62, hR50_0] at r62
                                                                                          exact (zt_y (by rw [← r62, ← q10]; assumption)).symm) (by have qc0 : (4 : Int32).toInt = 4 := (by decide); omega) (by have qc0 : (4 : Int32).toInt = 4 := (by decide); omega)
      · skip
        intro a74_3 b74_3 n74_3 a74_4 b74_4 a74_s0 b74_s0 a74_s1 b74_s1 g74_ hI74_ hF74_ hR74_0 hR74_1 hR74_2 hR74_3 hM74_
        refine z_ior (pc := 74) C dX10_standing_74 ?_
        refine w_gp (fun v => v = a74_s0 ||| a74_s1) rfl (fun v14 q14 => ?_)
        have b14x : zB v14 0 7 := by rw [q14]; exact (zor_b 3 b74_s0 b74_s1 (by decide) (by decide) (by decide) (by decide) (by decide))
        refine z_istore (pc := 75) C dX10_standing_75 (by rw [hn]; decide) rfl ?_
        refine z_iload (pc := 77) C dX10_standing_77 rfl ?_
        refine z_aload_n (pc := 79) C dX10_standing_79 rfl ?_
        refine z_iload_n (pc := 80) C dX10_standing_80 rfl ?_
        refine z_aload_n (pc := 81) C dX10_standing_81 rfl ?_
        refine z_getR (pc := 82) C zf_X10_16 rfl rfl (by decide) dX10_standing_82 ?_
        refine z_iload_n (pc := 85) C dX10_standing_85 rfl ?_
        refine z_iconst (pc := 86) (v := 2) C dX10_standing_86 (by decide) ?_
        refine z_iadd (pc := 87) C dX10_standing_87 ?_
        refine w_gp (fun v => v = a74_3 + (2 : Int32)) rfl (fun v15 q15 => ?_)
        have e15 : v15.toInt = a74_3.toInt + 2 := by rw [q15]; exact (zadd_eb b74_3 (zB.of (x := 2) 2 (by decide)) (by decide) (by decide))
        have b15x : zB v15 2 90 := by have q1 := b74_3; have q2 := (zB.of (x := 2) 2 (by decide)); constructor <;> omega
        refine z_iald (pc := 88) C rfl (by decide) (zIx b15x (by decide) (by decide)) dX10_standing_88 ?_
        have kq88_15 : v15.toNatClampNeg = v15.toInt.toNat := rfl
        refine w_gp (fun v => v = g74_ 28 0 v15.toNatClampNeg) rfl (fun v16 q16 => ?_)
        have b16x : zB v16 0 5 := by rw [q16]; exact (by have hq9 := hI74_ 28 0 v15.toNatClampNeg; rw [zrg28 (r := 2) (by have hq : v15.toNatClampNeg = v15.toInt.toNat := rfl; have hq2 := b15x; omega)] at hq9; exact hq9)
        refine z_callV (pc := 89) C zk_X10_135 (x_X10_isDeadly _ _ a2 b2 v16 b16x hI74_) rfl rfl (by decide) rfl rfl (Nat.le_of_ble_eq_true rfl) dX10_standing_89 (fun r17 g17 q17 => ?_)
        obtain ⟨⟨v17, rfl, b17x⟩, hI17, hF17q, hp17_0⟩ := q17
        have hp17_0 := hp17_0 _ rfl
        obtain rfl := zFr_nil hF17q
        simp only [Option.toList, List.cons_append, List.nil_append]
        refine z_if_eq (pc := 92) 114 C dX10_standing_92 (by decide) (fun h92_17 => ?_) (fun h92_17 => ?_)
        · skip
          have b19x : zB v17 0 0 := by have q1 := b17x; have q2 := (zB.of (x := 0) 0 (by decide)); simp only [z32lt, z32le, z32eq, Int32.reduceToInt, Int32.toInt_zero] at h92_17; constructor <;> omega
          refine z_iconst (pc := 114) (v := 0) C dX10_standing_114 (by decide) ?_
          exact ih3 a74_3 b74_3 (by have qc0 : (0 : Int32).toInt = 0 := (by decide); omega) v14 b14x v14 b14x 0 (zB.wk (a' := 0) (b' := 8) (zB.of (x := 0) 0 (by decide)) (by decide) (by decide)) g74_ hI74_ hF74_ (by exact hR74_0) (by rw [q14, hR74_1, hR74_2]) (by
                                                                                          have x88 : (v15).toNatClampNeg = 8 * a1.toInt.toNat + 2 := by omega
                                                                                          have r88 := q16
                                                                                          rw [x88, hR74_0] at r88
                                                                                          have hd := hp17_0
                                                                                          rw [hR74_0, r88] at hd
                                                                                          exact (zt_n (fun q => zbo_n hd (by omega) q.1)).symm) (by have qc0 : (0 : Int32).toInt = 0 := (by decide); omega) (by have qc0 : (0 : Int32).toInt = 0 := (by decide); omega)
        · skip
          have b20x : zB v17 1 1 := by have q1 := b17x; have q2 := (zB.of (x := 0) 0 (by decide)); simp only [z32lt, z32le, z32eq, Int32.reduceToInt, Int32.toInt_zero] at h92_17; constructor <;> omega
          refine z_aload_n (pc := 95) C dX10_standing_95 rfl ?_
          refine z_getR (pc := 96) C zf_X10_16 rfl rfl (by decide) dX10_standing_96 ?_
          refine z_iload_n (pc := 99) C dX10_standing_99 rfl ?_
          refine z_bipush (pc := 100) (v := 7) C dX10_standing_100 (by decide) ?_
          refine z_iadd (pc := 102) C dX10_standing_102 ?_
          refine w_gp (fun v => v = a74_3 + (7 : Int32)) rfl (fun v21 q21 => ?_)
          have e21 : v21.toInt = a74_3.toInt + 7 := by rw [q21]; exact (zadd_eb b74_3 (zB.of (x := 7) 7 (by decide)) (by decide) (by decide))
          have b21x : zB v21 7 95 := by have q1 := b74_3; have q2 := (zB.of (x := 7) 7 (by decide)); constructor <;> omega
          refine z_iald (pc := 103) C rfl (by decide) (zIx b21x (by decide) (by decide)) dX10_standing_103 ?_
          have kq103_21 : v21.toNatClampNeg = v21.toInt.toNat := rfl
          refine w_gp (fun v => v = g74_ 28 0 v21.toNatClampNeg) rfl (fun v22 q22 => ?_)
          have b22x : zB v22 0 7 := by rw [q22]; exact (by have hq9 := hI74_ 28 0 v21.toNatClampNeg; rw [zrg28 (r := 7) (by have hq : v21.toNatClampNeg = v21.toInt.toNat := rfl; have hq2 := b21x; omega)] at hq9; exact hq9)
          refine z_iconst (pc := 104) (v := 1) C dX10_standing_104 (by decide) ?_
          refine z_iand (pc := 105) C dX10_standing_105 ?_
          refine w_gp (fun v => v = v22 &&& (1 : Int32)) rfl (fun v23 q23 => ?_)
          have b23x : zB v23 0 1 := by rw [q23]; exact (zand_b b22x (zB.of (x := 1) 1 (by decide)) (by decide))
          refine z_if_ne (pc := 106) 114 C dX10_standing_106 (by decide) (fun h106_23 => ?_) (fun h106_23 => ?_)
          · skip
            have b25x : zB v23 1 1 := by have q1 := b23x; have q2 := (zB.of (x := 0) 0 (by decide)); simp only [z32lt, z32le, z32eq, Int32.reduceToInt, Int32.toInt_zero] at h106_23; constructor <;> omega
            refine z_iconst (pc := 114) (v := 0) C dX10_standing_114 (by decide) ?_
            exact ih3 a74_3 b74_3 (by have qc0 : (0 : Int32).toInt = 0 := (by decide); omega) v14 b14x v14 b14x 0 (zB.wk (a' := 0) (b' := 8) (zB.of (x := 0) 0 (by decide)) (by decide) (by decide)) g74_ hI74_ hF74_ (by exact hR74_0) (by rw [q14, hR74_1, hR74_2]) (by
                                                                                          have x88 : (v15).toNatClampNeg = 8 * a1.toInt.toNat + 2 := by omega
                                                                                          have r88 := q16
                                                                                          rw [x88, hR74_0] at r88
                                                                                          have hd := hp17_0
                                                                                          rw [hR74_0, r88] at hd
                                                                                          have x103 : (v21).toNatClampNeg = 8 * a1.toInt.toNat + 7 := by omega
                                                                                          have r103 := q22
                                                                                          rw [x103, hR74_0] at r103
                                                                                          exact (zt_n (fun q => absurd (show v23 = 0 by rw [q23, r103]; exact q.2) (by assumption))).symm) (by have qc0 : (0 : Int32).toInt = 0 := (by decide); omega) (by have qc0 : (0 : Int32).toInt = 0 := (by decide); omega)
          · skip
            have b26x : zB v23 0 0 := by have q1 := b23x; have q2 := (zB.of (x := 0) 0 (by decide)); simp only [z32lt, z32le, z32eq, Int32.reduceToInt, Int32.toInt_zero] at h106_23; constructor <;> omega
            refine z_bipush (pc := 109) (v := 8) C dX10_standing_109 (by decide) ?_
            refine z_goto (pc := 111) 115 C dX10_standing_111 (by decide) ?_
            exact ih3 a74_3 b74_3 (by have qc0 : (8 : Int32).toInt = 8 := (by decide); omega) v14 b14x v14 b14x 8 (zB.wk (a' := 0) (b' := 8) (zB.of (x := 8) 8 (by decide)) (by decide) (by decide)) g74_ hI74_ hF74_ (by exact hR74_0) (by rw [q14, hR74_1, hR74_2]) (by
                                                                                          have x88 : (v15).toNatClampNeg = 8 * a1.toInt.toNat + 2 := by omega
                                                                                          have r88 := q16
                                                                                          rw [x88, hR74_0] at r88
                                                                                          have hd := hp17_0
                                                                                          rw [hR74_0, r88] at hd
                                                                                          have x103 : (v21).toNatClampNeg = 8 * a1.toInt.toNat + 7 := by omega
                                                                                          have r103 := q22
                                                                                          rw [x103, hR74_0] at r103
                                                                                          exact (zt_y ⟨zbo_y hd (by omega), by rw [← r103, ← q23]; assumption⟩).symm) (by have qc0 : (8 : Int32).toInt = 8 := (by decide); omega) (by have qc0 : (8 : Int32).toInt = 8 := (by decide); omega)
      · skip
        intro a115_3 b115_3 n115_3 a115_4 b115_4 a115_s0 b115_s0 a115_s1 b115_s1 g115_ hI115_ hF115_ hR115_0 hR115_1 hR115_2 hR115_3 hM115_
        refine z_ior (pc := 115) C dX10_standing_115 ?_
        refine w_gp (fun v => v = a115_s0 ||| a115_s1) rfl (fun v27 q27 => ?_)
        have b27x : zB v27 0 15 := by rw [q27]; exact (zor_b 4 b115_s0 b115_s1 (by decide) (by decide) (by decide) (by decide) (by decide))
        refine z_istore (pc := 116) C dX10_standing_116 (by rw [hn]; decide) rfl ?_
        refine z_iload (pc := 118) C dX10_standing_118 rfl ?_
        refine z_aload_n (pc := 120) C dX10_standing_120 rfl ?_
        refine z_getR (pc := 121) C zf_X10_13 rfl rfl (by decide) dX10_standing_121 ?_
        refine z_iconst (pc := 124) (v := 5) C dX10_standing_124 (by decide) ?_
        refine z_iload_n (pc := 125) C dX10_standing_125 rfl ?_
        refine z_imul (pc := 126) C dX10_standing_126 ?_
        refine w_gp (fun v => v = (5 : Int32) * a2) rfl (fun v28 q28 => ?_)
        have e28 : v28.toInt = 5 * a2.toInt := by rw [q28]; exact (zmul_kb 5 (by decide) (by decide) b2 (by decide) (by decide))
        have b28x : zB v28 0 35 := zmul_bb e28 (by decide) b2
        refine z_iconst (pc := 127) (v := 2) C dX10_standing_127 (by decide) ?_
        refine z_iadd (pc := 128) C dX10_standing_128 ?_
        refine w_gp (fun v => v = v28 + (2 : Int32)) rfl (fun v29 q29 => ?_)
        have e29 : v29.toInt = v28.toInt + 2 := by rw [q29]; exact (zadd_eb b28x (zB.of (x := 2) 2 (by decide)) (by decide) (by decide))
        have b29x : zB v29 2 37 := by have q1 := b28x; have q2 := (zB.of (x := 2) 2 (by decide)); constructor <;> omega
        refine z_iald (pc := 129) C rfl (by decide) (zIx b29x (by decide) (by decide)) dX10_standing_129 ?_
        have kq129_29 : v29.toNatClampNeg = v29.toInt.toNat := rfl
        refine w_gp (fun v => v = g115_ 27 0 v29.toNatClampNeg) rfl (fun v30 q30 => ?_)
        have b30x : zB v30 0 5 := by rw [q30]; exact (by have hq9 := hI115_ 27 0 v29.toNatClampNeg; rw [zrg27 (r := 2) (by have hq : v29.toNatClampNeg = v29.toInt.toNat := rfl; have hq2 := b29x; omega)] at hq9; exact hq9)
        refine z_aload_n (pc := 130) C dX10_standing_130 rfl ?_
        refine z_getR (pc := 131) C zf_X10_16 rfl rfl (by decide) dX10_standing_131 ?_
        refine z_iload_n (pc := 134) C dX10_standing_134 rfl ?_
        refine z_iconst (pc := 135) (v := 1) C dX10_standing_135 (by decide) ?_
        refine z_iadd (pc := 136) C dX10_standing_136 ?_
        refine w_gp (fun v => v = a115_3 + (1 : Int32)) rfl (fun v31 q31 => ?_)
        have e31 : v31.toInt = a115_3.toInt + 1 := by rw [q31]; exact (zadd_eb b115_3 (zB.of (x := 1) 1 (by decide)) (by decide) (by decide))
        have b31x : zB v31 1 89 := by have q1 := b115_3; have q2 := (zB.of (x := 1) 1 (by decide)); constructor <;> omega
        refine z_iald (pc := 137) C rfl (by decide) (zIx b31x (by decide) (by decide)) dX10_standing_137 ?_
        have kq137_31 : v31.toNatClampNeg = v31.toInt.toNat := rfl
        refine w_gp (fun v => v = g115_ 28 0 v31.toNatClampNeg) rfl (fun v32 q32 => ?_)
        have b32x : zB v32 0 5 := by rw [q32]; exact (by have hq9 := hI115_ 28 0 v31.toNatClampNeg; rw [zrg28 (r := 1) (by have hq : v31.toNatClampNeg = v31.toInt.toNat := rfl; have hq2 := b31x; omega)] at hq9; exact hq9)
        refine z_icmp_ne (pc := 138) 146 C dX10_standing_138 (by decide) (fun h138_32 => ?_) (fun h138_32 => ?_)
        · skip
          refine z_iconst (pc := 146) (v := 0) C dX10_standing_146 (by decide) ?_
          exact ih4 a115_3 b115_3 (by have qc0 : (0 : Int32).toInt = 0 := (by decide); omega) v27 b27x v27 b27x 0 (zB.wk (a' := 0) (b' := 16) (zB.of (x := 0) 0 (by decide)) (by decide) (by decide)) g115_ hI115_ hF115_ (by exact hR115_0) (by rw [q27, hR115_1, hR115_2]) (by
                                                                                          have x129 : (v29).toNatClampNeg = 5 * a2.toInt.toNat + 2 := by omega
                                                                                          have r129 := q30
                                                                                          rw [x129, hR115_0] at r129
                                                                                          have x137 : (v31).toNatClampNeg = 8 * a1.toInt.toNat + 1 := by omega
                                                                                          have r137 := q32
                                                                                          rw [x137, hR115_0] at r137
                                                                                          exact (zt_n (by rw [← r129, ← r137]; assumption)).symm) (by have qc0 : (0 : Int32).toInt = 0 := (by decide); omega) (by have qc0 : (0 : Int32).toInt = 0 := (by decide); omega)
        · skip
          have rr34 : v30.toInt = v32.toInt := by simp only [z32lt, z32le, z32eq] at h138_32; omega
          refine z_bipush (pc := 141) (v := 16) C dX10_standing_141 (by decide) ?_
          refine z_goto (pc := 143) 147 C dX10_standing_143 (by decide) ?_
          exact ih4 a115_3 b115_3 (by have qc0 : (16 : Int32).toInt = 16 := (by decide); omega) v27 b27x v27 b27x 16 (zB.wk (a' := 0) (b' := 16) (zB.of (x := 16) 16 (by decide)) (by decide) (by decide)) g115_ hI115_ hF115_ (by exact hR115_0) (by rw [q27, hR115_1, hR115_2]) (by
                                                                                          have x129 : (v29).toNatClampNeg = 5 * a2.toInt.toNat + 2 := by omega
                                                                                          have r129 := q30
                                                                                          rw [x129, hR115_0] at r129
                                                                                          have x137 : (v31).toNatClampNeg = 8 * a1.toInt.toNat + 1 := by omega
                                                                                          have r137 := q32
                                                                                          rw [x137, hR115_0] at r137
                                                                                          exact (zt_y (by rw [← r129, ← r137]; assumption)).symm) (by have qc0 : (16 : Int32).toInt = 16 := (by decide); omega) (by have qc0 : (16 : Int32).toInt = 16 := (by decide); omega)
      · skip
        intro a147_3 b147_3 n147_3 a147_4 b147_4 a147_s0 b147_s0 a147_s1 b147_s1 g147_ hI147_ hF147_ hR147_0 hR147_1 hR147_2 hR147_3 hM147_
        refine z_ior (pc := 147) C dX10_standing_147 ?_
        refine w_gp (fun v => v = a147_s0 ||| a147_s1) rfl (fun v35 q35 => ?_)
        have b35x : zB v35 0 31 := by rw [q35]; exact (zor_b 5 b147_s0 b147_s1 (by decide) (by decide) (by decide) (by decide) (by decide))
        refine z_istore (pc := 148) C dX10_standing_148 (by rw [hn]; decide) rfl ?_
        refine z_aload_n (pc := 150) C dX10_standing_150 rfl ?_
        refine z_getR (pc := 151) C zf_X10_16 rfl rfl (by decide) dX10_standing_151 ?_
        refine z_iload_n (pc := 154) C dX10_standing_154 rfl ?_
        refine z_bipush (pc := 155) (v := 6) C dX10_standing_155 (by decide) ?_
        refine z_iadd (pc := 157) C dX10_standing_157 ?_
        refine w_gp (fun v => v = a147_3 + (6 : Int32)) rfl (fun v36 q36 => ?_)
        have e36 : v36.toInt = a147_3.toInt + 6 := by rw [q36]; exact (zadd_eb b147_3 (zB.of (x := 6) 6 (by decide)) (by decide) (by decide))
        have b36x : zB v36 6 94 := by have q1 := b147_3; have q2 := (zB.of (x := 6) 6 (by decide)); constructor <;> omega
        refine z_iald (pc := 158) C rfl (by decide) (zIx b36x (by decide) (by decide)) dX10_standing_158 ?_
        have kq158_36 : v36.toNatClampNeg = v36.toInt.toNat := rfl
        refine w_gp (fun v => v = g147_ 28 0 v36.toNatClampNeg) rfl (fun v37 q37 => ?_)
        have b37x : zB v37 0 99 := by rw [q37]; exact (by have hq9 := hI147_ 28 0 v36.toNatClampNeg; rw [zrg28 (r := 6) (by have hq : v36.toNatClampNeg = v36.toInt.toNat := rfl; have hq2 := b36x; omega)] at hq9; exact hq9)
        refine z_if_le (pc := 159) 195 C dX10_standing_159 (by decide) (fun h159_37 => ?_) (fun h159_37 => ?_)
        · skip
          have b39x : zB v37 0 0 := by have q1 := b37x; have q2 := (zB.of (x := 0) 0 (by decide)); simp only [z32lt, z32le, z32eq, Int32.reduceToInt, Int32.toInt_zero] at h159_37; constructor <;> omega
          refine z_iconst (pc := 195) (v := 0) C dX10_standing_195 (by decide) ?_
          exact ih5 a147_3 b147_3 (by have qc0 : (0 : Int32).toInt = 0 := (by decide); omega) v35 b35x 0 (zB.wk (a' := 0) (b' := 1) (zB.of (x := 0) 0 (by decide)) (by decide) (by decide)) g147_ hI147_ hF147_ (by exact hR147_0) (by rw [q35, hR147_1, hR147_2]) (by
                                                                                          have x158 : (v36).toNatClampNeg = 8 * a1.toInt.toNat + 6 := by omega
                                                                                          have r158 := q37
                                                                                          rw [x158, hR147_0] at r158
                                                                                          exact (zt_n (fun h => by have h1 := h.1; rw [← r158] at h1; omega)).symm) (by have qc0 : (0 : Int32).toInt = 0 := (by decide); omega) (by have qc0 : (0 : Int32).toInt = 0 := (by decide); omega)
        · skip
          have b40x : zB v37 1 99 := by have q1 := b37x; have q2 := (zB.of (x := 0) 0 (by decide)); simp only [z32lt, z32le, z32eq, Int32.reduceToInt, Int32.toInt_zero] at h159_37; constructor <;> omega
          refine z_aload_n (pc := 162) C dX10_standing_162 rfl ?_
          refine z_getR (pc := 163) C zf_X10_22 rfl rfl (by decide) dX10_standing_163 ?_
          refine z_iconst (pc := 166) (v := 2) C dX10_standing_166 (by decide) ?_
          refine z_iald (pc := 167) C rfl (by decide) (zIx (zB.of (x := 2) 2 (by decide)) (by decide) (by decide)) dX10_standing_167 ?_
          have kq167_40 : (2 : Int32).toNatClampNeg = (2 : Int32).toInt.toNat := rfl
          refine w_gp (fun v => v = g147_ 30 0 (2 : Int32).toNatClampNeg) rfl (fun v41 q41 => ?_)
          have b41x : zB v41 0 99 := by rw [q41]; exact (hI147_ 30 0 (2 : Int32).toNatClampNeg)
          refine z_aload_n (pc := 168) C dX10_standing_168 rfl ?_
          refine z_getR (pc := 169) C zf_X10_13 rfl rfl (by decide) dX10_standing_169 ?_
          refine z_iconst (pc := 172) (v := 5) C dX10_standing_172 (by decide) ?_
          refine z_iload_n (pc := 173) C dX10_standing_173 rfl ?_
          refine z_imul (pc := 174) C dX10_standing_174 ?_
          refine w_gp (fun v => v = (5 : Int32) * a2) rfl (fun v42 q42 => ?_)
          have e42 : v42.toInt = 5 * a2.toInt := by rw [q42]; exact (zmul_kb 5 (by decide) (by decide) b2 (by decide) (by decide))
          have b42x : zB v42 0 35 := zmul_bb e42 (by decide) b2
          refine z_iconst (pc := 175) (v := 3) C dX10_standing_175 (by decide) ?_
          refine z_iadd (pc := 176) C dX10_standing_176 ?_
          refine w_gp (fun v => v = v42 + (3 : Int32)) rfl (fun v43 q43 => ?_)
          have e43 : v43.toInt = v42.toInt + 3 := by rw [q43]; exact (zadd_eb b42x (zB.of (x := 3) 3 (by decide)) (by decide) (by decide))
          have b43x : zB v43 3 38 := by have q1 := b42x; have q2 := (zB.of (x := 3) 3 (by decide)); constructor <;> omega
          refine z_iald (pc := 177) C rfl (by decide) (zIx b43x (by decide) (by decide)) dX10_standing_177 ?_
          have kq177_43 : v43.toNatClampNeg = v43.toInt.toNat := rfl
          refine w_gp (fun v => v = g147_ 27 0 v43.toNatClampNeg) rfl (fun v44 q44 => ?_)
          have b44x : zB v44 0 99 := by rw [q44]; exact (by have hq9 := hI147_ 27 0 v43.toNatClampNeg; rw [zrg27 (r := 3) (by have hq : v43.toNatClampNeg = v43.toInt.toNat := rfl; have hq2 := b43x; omega)] at hq9; exact hq9)
          refine z_isub (pc := 178) C dX10_standing_178 ?_
          refine w_gp (fun v => v = v41 - v44) rfl (fun v45 q45 => ?_)
          have e45 : v45.toInt = v41.toInt - v44.toInt := by rw [q45]; exact (zsub_eb b41x b44x (by decide) (by decide))
          have b45x : zB v45 (-99) 99 := by have q1 := b41x; have q2 := b44x; constructor <;> omega
          refine z_aload_n (pc := 179) C dX10_standing_179 rfl ?_
          refine z_getR (pc := 180) C zf_X10_16 rfl rfl (by decide) dX10_standing_180 ?_
          refine z_iload_n (pc := 183) C dX10_standing_183 rfl ?_
          refine z_bipush (pc := 184) (v := 6) C dX10_standing_184 (by decide) ?_
          refine z_iadd (pc := 186) C dX10_standing_186 ?_
          refine w_gp (fun v => v = a147_3 + (6 : Int32)) rfl (fun v46 q46 => ?_)
          have e46 : v46.toInt = a147_3.toInt + 6 := by rw [q46]; exact (zadd_eb b147_3 (zB.of (x := 6) 6 (by decide)) (by decide) (by decide))
          have b46x : zB v46 6 94 := by have q1 := b147_3; have q2 := (zB.of (x := 6) 6 (by decide)); constructor <;> omega
          refine z_iald (pc := 187) C rfl (by decide) (zIx b46x (by decide) (by decide)) dX10_standing_187 ?_
          have kq187_46 : v46.toNatClampNeg = v46.toInt.toNat := rfl
          refine w_gp (fun v => v = g147_ 28 0 v46.toNatClampNeg) rfl (fun v47 q47 => ?_)
          have b47x : zB v47 0 99 := by rw [q47]; exact (by have hq9 := hI147_ 28 0 v46.toNatClampNeg; rw [zrg28 (r := 6) (by have hq : v46.toNatClampNeg = v46.toInt.toNat := rfl; have hq2 := b46x; omega)] at hq9; exact hq9)
          refine z_icmp_le (pc := 188) 195 C dX10_standing_188 (by decide) (fun h188_47 => ?_) (fun h188_47 => ?_)
          · skip
            have rr49 : v45.toInt ≤ v47.toInt := by simp only [z32lt, z32le, z32eq] at h188_47; omega
            refine z_iconst (pc := 195) (v := 0) C dX10_standing_195 (by decide) ?_
            exact ih5 a147_3 b147_3 (by have qc0 : (0 : Int32).toInt = 0 := (by decide); omega) v35 b35x 0 (zB.wk (a' := 0) (b' := 1) (zB.of (x := 0) 0 (by decide)) (by decide) (by decide)) g147_ hI147_ hF147_ (by exact hR147_0) (by rw [q35, hR147_1, hR147_2]) (by
                                                                                          have x158 : (v36).toNatClampNeg = 8 * a1.toInt.toNat + 6 := by omega
                                                                                          have r158 := q37
                                                                                          rw [x158, hR147_0] at r158
                                                                                          have r167 : v41 = f 30 0 2 := by have q := q41; rw [hR147_0] at q; exact q
                                                                                          have x177 : (v43).toNatClampNeg = 5 * a2.toInt.toNat + 3 := by omega
                                                                                          have r177 := q44
                                                                                          rw [x177, hR147_0] at r177
                                                                                          have x187 : (v46).toNatClampNeg = 8 * a1.toInt.toNat + 6 := by omega
                                                                                          have r187 := q47
                                                                                          rw [x187, hR147_0] at r187
                                                                                          exact (zt_n (fun h => by have h2 := h.2; rw [← r187, ← r167, ← r177] at h2; omega)).symm) (by have qc0 : (0 : Int32).toInt = 0 := (by decide); omega) (by have qc0 : (0 : Int32).toInt = 0 := (by decide); omega)
          · skip
            have rr50 : v45.toInt > v47.toInt := by simp only [z32lt, z32le, z32eq] at h188_47; omega
            have b51x : zB v45 1 99 := by have q1 := b45x; have q2 := b47x; simp only [z32lt, z32le, z32eq, Int32.reduceToInt, Int32.toInt_zero] at h188_47; constructor <;> omega
            have b52x : zB v47 0 98 := by have q1 := b45x; have q2 := b47x; simp only [z32lt, z32le, z32eq, Int32.reduceToInt, Int32.toInt_zero] at h188_47; constructor <;> omega
            refine z_iconst (pc := 191) (v := 1) C dX10_standing_191 (by decide) ?_
            refine z_goto (pc := 192) 196 C dX10_standing_192 (by decide) ?_
            exact ih5 a147_3 b147_3 (by have qc0 : (1 : Int32).toInt = 1 := (by decide); omega) v35 b35x 1 (zB.wk (a' := 0) (b' := 1) (zB.of (x := 1) 1 (by decide)) (by decide) (by decide)) g147_ hI147_ hF147_ (by exact hR147_0) (by rw [q35, hR147_1, hR147_2]) (by
                                                                                          have x158 : (v36).toNatClampNeg = 8 * a1.toInt.toNat + 6 := by omega
                                                                                          have r158 := q37
                                                                                          rw [x158, hR147_0] at r158
                                                                                          have r167 : v41 = f 30 0 2 := by have q := q41; rw [hR147_0] at q; exact q
                                                                                          have x177 : (v43).toNatClampNeg = 5 * a2.toInt.toNat + 3 := by omega
                                                                                          have r177 := q44
                                                                                          rw [x177, hR147_0] at r177
                                                                                          have x187 : (v46).toNatClampNeg = 8 * a1.toInt.toNat + 6 := by omega
                                                                                          have r187 := q47
                                                                                          rw [x187, hR147_0] at r187
                                                                                          exact (zt_y ⟨by rw [← r158]; omega, by rw [← r187, ← r167, ← r177]; omega⟩).symm) (by have qc0 : (1 : Int32).toInt = 1 := (by decide); omega) (by have qc0 : (1 : Int32).toInt = 1 := (by decide); omega)
      · skip
        intro a196_3 b196_3 n196_3 a196_4 b196_4 a196_s0 b196_s0 g196_ hI196_ hF196_ hR196_0 hR196_1 hR196_2 hR196_3 hM196_
        refine z_istore (pc := 196) C dX10_standing_196 (by rw [hn]; decide) rfl ?_
        refine z_iload (pc := 198) C dX10_standing_198 rfl ?_
        refine z_aload_n (pc := 200) C dX10_standing_200 rfl ?_
        refine z_getR (pc := 201) C zf_X10_16 rfl rfl (by decide) dX10_standing_201 ?_
        refine z_iload_n (pc := 204) C dX10_standing_204 rfl ?_
        refine z_iconst (pc := 205) (v := 5) C dX10_standing_205 (by decide) ?_
        refine z_iadd (pc := 206) C dX10_standing_206 ?_
        refine w_gp (fun v => v = a196_3 + (5 : Int32)) rfl (fun v53 q53 => ?_)
        have e53 : v53.toInt = a196_3.toInt + 5 := by rw [q53]; exact (zadd_eb b196_3 (zB.of (x := 5) 5 (by decide)) (by decide) (by decide))
        have b53x : zB v53 5 93 := by have q1 := b196_3; have q2 := (zB.of (x := 5) 5 (by decide)); constructor <;> omega
        refine z_iald (pc := 207) C rfl (by decide) (zIx b53x (by decide) (by decide)) dX10_standing_207 ?_
        have kq207_53 : v53.toNatClampNeg = v53.toInt.toNat := rfl
        refine w_gp (fun v => v = g196_ 28 0 v53.toNatClampNeg) rfl (fun v54 q54 => ?_)
        have b54x : zB v54 0 31 := by rw [q54]; exact (by have hq9 := hI196_ 28 0 v53.toNatClampNeg; rw [zrg28 (r := 5) (by have hq : v53.toNatClampNeg = v53.toInt.toNat := rfl; have hq2 := b53x; omega)] at hq9; exact hq9)
        refine z_iand (pc := 208) C dX10_standing_208 ?_
        refine w_gp (fun v => v = a196_4 &&& v54) rfl (fun v55 q55 => ?_)
        have b55x : zB v55 0 31 := by rw [q55]; exact (zand_b b196_4 b54x (by decide))
        refine z_iload (pc := 209) C dX10_standing_209 rfl ?_
        refine z_if_eq (pc := 211) 219 C dX10_standing_211 (by decide) (fun h211_55 => ?_) (fun h211_55 => ?_)
        · skip
          have b57x : zB a196_s0 0 0 := by have q1 := b196_s0; have q2 := (zB.of (x := 0) 0 (by decide)); simp only [z32lt, z32le, z32eq, Int32.reduceToInt, Int32.toInt_zero] at h211_55; constructor <;> omega
          refine z_iconst (pc := 219) (v := 0) C dX10_standing_219 (by decide) ?_
          exact ih6 a196_3 b196_3 (by have qc0 : (0 : Int32).toInt = 0 := (by decide); omega) a196_4 b196_4 a196_s0 (zB.wk (a' := 0) (b' := 1) b57x (by decide) (by decide)) v55 b55x 0 (zB.wk (a' := 0) (b' := 32) (zB.of (x := 0) 0 (by decide)) (by decide) (by decide)) g196_ hI196_ hF196_ (by exact hR196_0) (by
                                                                                          have x207 : (v53).toNatClampNeg = 8 * a1.toInt.toNat + 5 := by omega
                                                                                          have r207 := q54
                                                                                          rw [x207, hR196_0] at r207
                                                                                          rw [q55, hR196_1, r207]) (by exact (zt_n (zt_n1 (by rw [← hR196_2]; assumption))).symm) (by have qc0 : (0 : Int32).toInt = 0 := (by decide); omega) (by have qc0 : (0 : Int32).toInt = 0 := (by decide); omega)
        · skip
          have b58x : zB a196_s0 1 1 := by have q1 := b196_s0; have q2 := (zB.of (x := 0) 0 (by decide)); simp only [z32lt, z32le, z32eq, Int32.reduceToInt, Int32.toInt_zero] at h211_55; constructor <;> omega
          refine z_bipush (pc := 214) (v := 32) C dX10_standing_214 (by decide) ?_
          refine z_goto (pc := 216) 220 C dX10_standing_216 (by decide) ?_
          exact ih6 a196_3 b196_3 (by have qc0 : (32 : Int32).toInt = 32 := (by decide); omega) a196_4 b196_4 a196_s0 (zB.wk (a' := 0) (b' := 1) b58x (by decide) (by decide)) v55 b55x 32 (zB.wk (a' := 0) (b' := 32) (zB.of (x := 32) 32 (by decide)) (by decide) (by decide)) g196_ hI196_ hF196_ (by exact hR196_0) (by
                                                                                          have x207 : (v53).toNatClampNeg = 8 * a1.toInt.toNat + 5 := by omega
                                                                                          have r207 := q54
                                                                                          rw [x207, hR196_0] at r207
                                                                                          rw [q55, hR196_1, r207]) (by exact (zt_y (zt_y1 (by rw [← hR196_2]; assumption))).symm) (by have qc0 : (32 : Int32).toInt = 32 := (by decide); omega) (by have qc0 : (32 : Int32).toInt = 32 := (by decide); omega)
      · skip
        intro a220_3 b220_3 n220_3 a220_4 b220_4 a220_5 b220_5 a220_s0 b220_s0 a220_s1 b220_s1 g220_ hI220_ hF220_ hR220_0 hR220_1 hR220_2 hR220_3 hM220_
        refine z_ior (pc := 220) C dX10_standing_220 ?_
        refine w_gp (fun v => v = a220_s0 ||| a220_s1) rfl (fun v59 q59 => ?_)
        have b59x : zB v59 0 63 := by rw [q59]; exact (zor_b 6 b220_s0 b220_s1 (by decide) (by decide) (by decide) (by decide) (by decide))
        exact z_iret (pc := 221) C hr dX10_standing_221 ⟨⟨_, rfl, b59x⟩, hI220_, hF220_, (by intro v hv; cases hv; rw [q59, hR220_1, hR220_2]; rfl)⟩
  obtain ⟨J0, J1, J2, J3, J4, J5, J6⟩ := J 18
  show Z X 0 [some (zr 25 0), some (zi a1), some (zi a2), none, none, none] [] f
  refine z_bipush (pc := 0) (v := 8) C dX10_standing_0 (by decide) ?_
  refine z_iload_n (pc := 2) C dX10_standing_2 rfl ?_
  refine z_imul (pc := 3) C dX10_standing_3 ?_
  refine w_gp (fun v => v = (8 : Int32) * a1) rfl (fun v60 q60 => ?_)
  have e60 : v60.toInt = 8 * a1.toInt := by rw [q60]; exact (zmul_kb 8 (by decide) (by decide) b1 (by decide) (by decide))
  have b60x : zB v60 0 88 := zmul_bb e60 (by decide) b1
  refine z_istore_n (pc := 4) C dX10_standing_4 (by rw [hn]; decide) rfl ?_
  refine z_aload_n (pc := 5) C dX10_standing_5 rfl ?_
  refine z_getR (pc := 6) C zf_X10_22 rfl rfl (by decide) dX10_standing_6 ?_
  refine z_iconst (pc := 9) (v := 0) C dX10_standing_9 (by decide) ?_
  refine z_iald (pc := 10) C rfl (by decide) (zIx (zB.of (x := 0) 0 (by decide)) (by decide) (by decide)) dX10_standing_10 ?_
  have kq10_60 : (0 : Int32).toNatClampNeg = (0 : Int32).toInt.toNat := rfl
  refine w_gp (fun v => v = f 30 0 (0 : Int32).toNatClampNeg) rfl (fun v61 q61 => ?_)
  have b61x : zB v61 0 5 := by rw [q61]; exact (hI 30 0 (0 : Int32).toNatClampNeg)
  refine z_aload_n (pc := 11) C dX10_standing_11 rfl ?_
  refine z_getR (pc := 12) C zf_X10_16 rfl rfl (by decide) dX10_standing_12 ?_
  refine z_iload_n (pc := 15) C dX10_standing_15 rfl ?_
  refine z_iconst (pc := 16) (v := 1) C dX10_standing_16 (by decide) ?_
  refine z_iadd (pc := 17) C dX10_standing_17 ?_
  refine w_gp (fun v => v = v60 + (1 : Int32)) rfl (fun v62 q62 => ?_)
  have e62 : v62.toInt = v60.toInt + 1 := by rw [q62]; exact (zadd_eb b60x (zB.of (x := 1) 1 (by decide)) (by decide) (by decide))
  have b62x : zB v62 1 89 := by have q1 := b60x; have q2 := (zB.of (x := 1) 1 (by decide)); constructor <;> omega
  refine z_iald (pc := 18) C rfl (by decide) (zIx b62x (by decide) (by decide)) dX10_standing_18 ?_
  have kq18_62 : v62.toNatClampNeg = v62.toInt.toNat := rfl
  refine w_gp (fun v => v = f 28 0 v62.toNatClampNeg) rfl (fun v63 q63 => ?_)
  have b63x : zB v63 0 5 := by rw [q63]; exact (by have hq9 := hI 28 0 v62.toNatClampNeg; rw [zrg28 (r := 1) (by have hq : v62.toNatClampNeg = v62.toInt.toNat := rfl; have hq2 := b62x; omega)] at hq9; exact hq9)
  refine z_icmp_ne (pc := 19) 26 C dX10_standing_19 (by decide) (fun h19_63 => ?_) (fun h19_63 => ?_)
  · skip
    refine z_iconst (pc := 26) (v := 0) C dX10_standing_26 (by decide) ?_
    exact J0 v60 b60x (by have qc0 : (0 : Int32).toInt = 0 := (by decide); omega) 0 (zB.wk (a' := 0) (b' := 1) (zB.of (x := 0) 0 (by decide)) (by decide) (by decide)) f hI hF (by rfl) (by
                                                                                          have r10 : v61 = f 30 0 0 := q61
                                                                                          have x18 : (v62).toNatClampNeg = 8 * a1.toInt.toNat + 1 := by omega
                                                                                          have r18 := q63
                                                                                          rw [x18] at r18
                                                                                          exact (zt_n (by rw [← r10, ← r18]; assumption)).symm) (by have qc0 : (0 : Int32).toInt = 0 := (by decide); omega) (by have qc0 : (0 : Int32).toInt = 0 := (by decide); omega)
  · skip
    have rr65 : v61.toInt = v63.toInt := by simp only [z32lt, z32le, z32eq] at h19_63; omega
    refine z_iconst (pc := 22) (v := 1) C dX10_standing_22 (by decide) ?_
    refine z_goto (pc := 23) 27 C dX10_standing_23 (by decide) ?_
    exact J0 v60 b60x (by have qc0 : (1 : Int32).toInt = 1 := (by decide); omega) 1 (zB.wk (a' := 0) (b' := 1) (zB.of (x := 1) 1 (by decide)) (by decide) (by decide)) f hI hF (by rfl) (by
                                                                                          have r10 : v61 = f 30 0 0 := q61
                                                                                          have x18 : (v62).toNatClampNeg = 8 * a1.toInt.toNat + 1 := by omega
                                                                                          have r18 := q63
                                                                                          rw [x18] at r18
                                                                                          exact (zt_y (by rw [← r10, ← r18]; assumption)).symm) (by have qc0 : (1 : Int32).toInt = 1 := (by decide); omega) (by have qc0 : (1 : Int32).toInt = 1 := (by decide); omega)

set_option maxRecDepth 100000 in
set_option maxHeartbeats 4000000 in
theorem x_X10_barred (d : Nat) (f : zM) (a1 : Int32) (b1 : zB a1 (-2147483648) 2147483647) (a2 : Int32) (b2 : zB a2 (-2147483648) 2147483647) (hI : zInv f) : ZM (d + 4) yX10_barred cX10_barred 3 (some .int) [zr 25 0, zi a1, zi a2] f (fun r g => (∃ v, r = some (zi v) ∧ zB v (-1) 63) ∧ zInv g ∧ zFr [] f g ∧ (∀ v : Int32, r = some (zi v) → (¬ ((0 ≤ a1.toInt ∧ a1.toInt < (f 25 0 4).toInt) ∧ (0 ≤ a2.toInt ∧ a2.toInt < (f 25 0 2).toInt)) ∧ v = -1) ∨ (((0 ≤ a1.toInt ∧ a1.toInt < (f 25 0 4).toInt) ∧ (0 ≤ a2.toInt ∧ a2.toInt < (f 25 0 2).toInt)) ∧ v = zsr f a1.toInt.toNat a2.toInt.toNat))) := by
  refine ZM.intro (by decide +kernel) (Nat.le_of_ble_eq_true rfl) ?_
  intro X C hr hn
  have hF : zFr [] f f := zFr.rf _ _
  show Z X 0 [some (zr 25 0), some (zi a1), some (zi a2)] [] f
  refine z_aload_n (pc := 0) C dX10_barred_0 rfl ?_
  refine z_iload_n (pc := 1) C dX10_barred_1 rfl ?_
  refine z_callVb (pc := 2) C zk_X10_109 (m_X10_isPaper _ _ _ hI) rfl rfl (by decide) rfl rfl (Nat.le_of_ble_eq_true rfl) dX10_barred_2 (fun h2_0 => ?_) (fun h2_0 => ?_)
  · skip
    have b2x : zB a1 0 11 := (zltc h2_0 (hI 25 0 4).2)
    refine z_if_eq (pc := 5) 25 C dX10_barred_5 (by decide) (fun h => absurd h (by decide)) (fun _ => ?_)
    refine z_aload_n (pc := 8) C dX10_barred_8 rfl ?_
    refine z_iload_n (pc := 9) C dX10_barred_9 rfl ?_
    refine z_callVb (pc := 10) C zk_X10_120 (m_X10_isDeed _ _ _ hI) rfl rfl (by decide) rfl rfl (Nat.le_of_ble_eq_true rfl) dX10_barred_10 (fun h10_2 => ?_) (fun h10_2 => ?_)
    · skip
      have b4x : zB a2 0 7 := (zltc h10_2 (hI 25 0 2).2)
      refine z_if_eq (pc := 13) 25 C dX10_barred_13 (by decide) (fun h => absurd h (by decide)) (fun _ => ?_)
      refine z_aload_n (pc := 16) C dX10_barred_16 rfl ?_
      refine z_iload_n (pc := 17) C dX10_barred_17 rfl ?_
      refine z_iload_n (pc := 18) C dX10_barred_18 rfl ?_
      refine z_callV (pc := 19) C zk_X10_141 (x_X10_standing _ _ a1 b2x a2 b4x hI) rfl rfl (by decide) rfl rfl (Nat.le_of_ble_eq_true rfl) dX10_barred_19 (fun r5 g5 q5 => ?_)
      obtain ⟨⟨v5, rfl, b5x⟩, hI5, hF5q, hp5_0⟩ := q5
      have hp5_0 := hp5_0 _ rfl
      obtain rfl := zFr_nil hF5q
      simp only [Option.toList, List.cons_append, List.nil_append]
      refine z_goto (pc := 22) 26 C dX10_barred_22 (by decide) ?_
      exact z_iret (pc := 26) C hr dX10_barred_26 ⟨⟨_, rfl, (zB.wk (a' := (-1)) (b' := 63) b5x (by decide) (by decide))⟩, hI, hF, (by intro v hv; cases hv; exact Or.inr ⟨by omega, hp5_0⟩)⟩
    · skip
      refine z_if_eq (pc := 13) 25 C dX10_barred_13 (by decide) (fun _ => ?_) (fun h => absurd (by decide) h)
      refine z_iconst (pc := 25) (v := -1) C dX10_barred_25 (by decide) ?_
      exact z_iret (pc := 26) C hr dX10_barred_26 ⟨⟨_, rfl, (zB.wk (a' := (-1)) (b' := 63) (zB.of (x := (-1)) (-1) (by decide)) (by decide) (by decide))⟩, hI, hF, (by intro v hv; cases hv; exact Or.inl ⟨by omega, rfl⟩)⟩
  · skip
    refine z_if_eq (pc := 5) 25 C dX10_barred_5 (by decide) (fun _ => ?_) (fun h => absurd (by decide) h)
    refine z_iconst (pc := 25) (v := -1) C dX10_barred_25 (by decide) ?_
    exact z_iret (pc := 26) C hr dX10_barred_26 ⟨⟨_, rfl, (zB.wk (a' := (-1)) (b' := 63) (zB.of (x := (-1)) (-1) (by decide)) (by decide) (by decide))⟩, hI, hF, (by intro v hv; cases hv; exact Or.inl ⟨by omega, rfl⟩)⟩
