def zRk (f : zM) : Prop := (∀ i j : Nat, (i : Int) < (f 1 0 8).toInt → j < 3 → f 12 i j = f 29 0 (3 * i + j)) ∧ (∀ i j : Nat, (i : Int) < (f 1 1 8).toInt → j < 3 → f 12 (8 + i) j = f 39 0 (284 + (3 * i + j)))
theorem zRk_k {f g : zM} (h : zRk f) (a0 : g 1 0 8 = f 1 0 8) (a1 : g 1 1 8 = f 1 1 8) (a : ∀ x j : Nat, True → j < 3 → g 12 x j = f 12 x j) (b : ∀ j, g 29 0 j = f 29 0 j) (c : ∀ j, g 39 0 j = f 39 0 j) : zRk g := by
  refine ⟨fun i j hi hj => ?_, fun i j hi hj => ?_⟩
  · rw [a0] at hi; rw [a _ _ trivial hj, b]; exact h.1 i j hi hj
  · rw [a1] at hi; rw [a _ _ trivial hj, c]; exact h.2 i j hi hj
theorem zRk_0 : zRk z0 := by
  refine ⟨fun i j hi _ => ?_, fun i j hi _ => ?_⟩
  · rw [show z0 1 0 8 = 0 from rfl] at hi; exact absurd hi (by have : (0 : Int32).toInt = 0 := by decide
                                                               omega)
  · rw [show z0 1 1 8 = 0 from rfl] at hi; exact absurd hi (by have : (0 : Int32).toInt = 0 := by decide
                                                               omega)
theorem qk_demand {f g g2 : zM} {v v2 : Int32} {a1 a2 a3 : Int32} (hI : zInv f) (hg : zInv g) (Ri : zRi f) (Rc : zRc f) (Rd : zRd f) (Rt : zRt f) (Rs : zRs f) (Rk : zRk f) (hF : zFr [(1, some 8), (12, some 0), (12, some 1), (12, some 2)] f g) (hG : zFr [(25, some 6), (29, none)] g g2) (hP : (¬ ((0 ≤ a1.toInt ∧ a1.toInt ≤ 5) ∧ (1 ≤ a2.toInt ∧ a2.toInt ≤ ((1 <<< (f 1 0 6 &&& 31)) - 1 : Int32).toInt) ∧ (0 ≤ a3.toInt ∧ a3.toInt ≤ 99)) ∧ v = -1 ∧ g = f) ∨ (((0 ≤ a1.toInt ∧ a1.toInt ≤ 5) ∧ (1 ≤ a2.toInt ∧ a2.toInt ≤ ((1 <<< (f 1 0 6 &&& 31)) - 1 : Int32).toInt) ∧ (0 ≤ a3.toInt ∧ a3.toInt ≤ 99)) ∧ 8 ≤ (f 1 0 8).toInt ∧ v = -3 ∧ g = f) ∨ (((0 ≤ a1.toInt ∧ a1.toInt ≤ 5) ∧ (1 ≤ a2.toInt ∧ a2.toInt ≤ ((1 <<< (f 1 0 6 &&& 31)) - 1 : Int32).toInt) ∧ (0 ≤ a3.toInt ∧ a3.toInt ≤ 99)) ∧ (f 1 0 8).toInt < 8 ∧ v = f 1 0 8 ∧ g = zup (zup (zup (zup f 12 (f 1 0 8).toInt.toNat 0 a1) 12 (f 1 0 8).toInt.toNat 1 a2) 12 (f 1 0 8).toInt.toNat 2 a3) 1 0 8 (f 1 0 8 + 1))) (hQ : (¬ ((0 ≤ a1.toInt ∧ a1.toInt ≤ 5) ∧ (1 ≤ a2.toInt ∧ a2.toInt ≤ ((1 <<< (g 25 0 2 &&& 31)) - 1 : Int32).toInt) ∧ (0 ≤ a3.toInt ∧ a3.toInt ≤ 99)) ∧ v2 = -1 ∧ g2 = g) ∨ (((0 ≤ a1.toInt ∧ a1.toInt ≤ 5) ∧ (1 ≤ a2.toInt ∧ a2.toInt ≤ ((1 <<< (g 25 0 2 &&& 31)) - 1 : Int32).toInt) ∧ (0 ≤ a3.toInt ∧ a3.toInt ≤ 99)) ∧ 8 ≤ (g 25 0 6).toInt ∧ v2 = -3 ∧ g2 = g) ∨ (((0 ≤ a1.toInt ∧ a1.toInt ≤ 5) ∧ (1 ≤ a2.toInt ∧ a2.toInt ≤ ((1 <<< (g 25 0 2 &&& 31)) - 1 : Int32).toInt) ∧ (0 ≤ a3.toInt ∧ a3.toInt ≤ 99)) ∧ (g 25 0 6).toInt < 8 ∧ v2 = g 25 0 6 ∧ g2 25 0 6 = g 25 0 6 + 1 ∧ g2 29 0 (3 * (g 25 0 6).toInt.toNat) = a1 ∧ g2 29 0 (3 * (g 25 0 6).toInt.toNat + 1) = a2 ∧ g2 29 0 (3 * (g 25 0 6).toInt.toNat + 2) = a3 ∧ (∀ q, (q < 3 * (g 25 0 6).toInt.toNat ∨ 3 * (g 25 0 6).toInt.toNat + 3 ≤ q) → g2 29 0 q = g 29 0 q))) : v2 = v ∧ zRc g2 ∧ zRk g2 := by
  obtain ⟨hv, H1⟩ := qd_demand hI hg Ri Rc Rd Rt Rs hF hG hP hQ
  refine ⟨hv, H1, ?_⟩
  have e25 : g 25 0 2 = f 1 0 6 := (hF 25 0 2 rfl).trans Rc.1.symm
  have e26 : g 25 0 6 = f 1 0 8 := (hF 25 0 6 rfl).trans Rc.2.2.1.symm
  rw [e25, e26] at hQ
  have n0 : 0 ≤ (f 1 0 8).toInt := (hI 1 0 8).1
  have es : (f 1 0 8 + 1 : Int32).toInt = (f 1 0 8).toInt + 1 := zadd_eb (x := f 1 0 8) (hI 1 0 8) (zB.of (x := 1) 1 (by decide)) (by decide) (by decide)
  have k29 : ∀ j, g 29 0 j = f 29 0 j := fun j => hF 29 0 j rfl
  have k39 : ∀ j, g2 39 0 j = f 39 0 j := fun j => (hG 39 0 j rfl).trans (hF 39 0 j rfl)
  clear hv H1
  rcases hP with ⟨p1, p2, rfl⟩ | ⟨p1, p2, p0, rfl⟩ | ⟨p1, p2, p0, p3⟩ <;> rcases hQ with ⟨q1, q0, rfl⟩ | ⟨q1, q2, q0, rfl⟩ | ⟨q1, q2, q3, q4, d0, d1, d2, q5⟩
  · exact Rk
  · exact Rk
  · exact absurd q1 p1
  · exact Rk
  · exact Rk
  · omega
  · exact absurd p1 q1
  · omega
  · have g12 : ∀ x j, x ≠ (f 1 0 8).toInt.toNat → g 12 x j = f 12 x j := fun x j hx => by rw [p3, zup_ne _ _ (by omega), zup_ne _ _ (by omega), zup_ne _ _ (by omega), zup_ne _ _ (by omega)]
    have g18 : g 1 0 8 = f 1 0 8 + 1 := by rw [p3, zup_same]
    have g118 : g 1 1 8 = f 1 1 8 := by rw [p3, zup_ne _ _ (by omega), zup_ne _ _ (by omega), zup_ne _ _ (by omega), zup_ne _ _ (by omega)]
    have r0 : g 12 (f 1 0 8).toInt.toNat 0 = a1 := by rw [p3, zup_ne _ _ (by omega), zup_ne _ _ (by omega), zup_ne _ _ (by omega), zup_same]
    have r1 : g 12 (f 1 0 8).toInt.toNat 1 = a2 := by rw [p3, zup_ne _ _ (by omega), zup_ne _ _ (by omega), zup_same]
    have r2 : g 12 (f 1 0 8).toInt.toNat 2 = a3 := by rw [p3, zup_ne _ _ (by omega), zup_same]
    refine ⟨fun i j hi hj => ?_, fun i j hi hj => ?_⟩
    · rw [hG 1 0 8 rfl, g18, es] at hi
      by_cases e : i = (f 1 0 8).toInt.toNat
      · rw [e]
        rcases (show j = 0 ∨ j = 1 ∨ j = 2 by omega) with rfl | rfl | rfl
        · rw [hG 12 _ 0 rfl, r0]; exact d0.symm
        · rw [hG 12 _ 1 rfl, r1]; exact d1.symm
        · rw [hG 12 _ 2 rfl, r2]; exact d2.symm
      · rw [hG 12 i j rfl, g12 i j e, q5 _ (by omega), k29]; exact Rk.1 i j (by omega) hj
    · rw [hG 1 1 8 rfl, g118] at hi
      rw [hG 12 _ j rfl, g12 _ j (by omega), k39]; exact Rk.2 i j hi hj
theorem qk_image {f g : zM} (hI : zInv f) (Rk : zRk f) (hF : zFr [(0, some 5), (1, some 5), (1, some 6), (1, some 7), (1, some 8), (6, some 0), (6, some 1), (6, some 2), (6, some 3), (6, some 4), (6, some 5), (6, some 6), (7, some 0), (7, some 1), (7, some 2), (7, some 3), (7, some 4), (7, some 5), (8, some 0), (8, some 1), (8, some 2), (8, some 3), (8, some 4), (8, some 5), (8, some 6), (8, some 7), (9, none), (10, none), (11, some 0), (11, some 1), (11, some 2), (11, some 3), (11, some 4), (11, some 5), (11, some 6), (11, some 7), (12, some 0), (12, some 1), (12, some 2)] f g) (h0 : g 1 1 5 = f 1 0 5) (h1 : g 1 1 6 = f 1 0 6) (h2 : g 1 1 7 = f 1 0 7) (h3 : g 1 1 8 = f 1 0 8) (h4 : g 1 0 5 = f 1 0 5) (h5 : g 1 0 6 = f 1 0 6) (h6 : g 1 0 7 = f 1 0 7) (h7 : g 1 0 8 = f 1 0 8) (h8 : zcpd f g 7 24 0 (f 1 0 5).toInt.toNat 6 24) (h9 : zcpd f g 8 8 0 (f 1 0 6).toInt.toNat 5 8) (h10 : zcpd f g 11 12 0 (f 1 0 7).toInt.toNat 8 12) (h11 : zcpd f g 12 8 0 (f 1 0 8).toInt.toNat 3 8) (h12 : ∀ j, j < 7 → g 6 1 j = f 6 0 j) (h13 : ∀ j, j < 7 → g 6 0 j = f 6 0 j) (h14 : g 0 0 5 = 1) (h15 : zRl f → zRl g) : zRk (zim g) := by
  have k29 : ∀ j, g 29 0 j = f 29 0 j := fun j => hF 29 0 j rfl
  have z1 : ∀ n j, zim g 1 n j = g 1 n j := fun n j => zim_o g (by decide) (by decide) (by omega) (by omega)
  have z12 : ∀ n j, zim g 12 n j = g 12 n j := fun n j => zim_o g (by decide) (by decide) (by omega) (by omega)
  have z29 : ∀ j, zim g 29 0 j = g 29 0 j := fun j => zim_o g (by decide) (by decide) (by omega) (by omega)
  have b8 : (f 1 0 8).toInt ≤ 8 := (hI 1 0 8).2
  refine ⟨fun i j hi hj => ?_, fun i j hi hj => ?_⟩
  · rw [z1, h7] at hi
    have e := h11.2 i j (by omega) hj
    rw [Nat.zero_add] at e
    rw [z12, e, z29, k29]; exact Rk.1 i j hi hj
  · rw [z1, h3] at hi
    have e := h11.1 i j (by omega) hj
    rw [Nat.zero_add] at e
    rw [z12, e, zim_29 g (by omega), k29]; exact Rk.1 i j hi hj
theorem qk_restore {f g : zM} (hI : zInv f) (Rk : zRk f) (hF : zFr [(1, some 5), (1, some 6), (1, some 7), (1, some 8), (6, some 0), (6, some 1), (6, some 2), (6, some 3), (6, some 4), (6, some 5), (6, some 6), (7, some 0), (7, some 1), (7, some 2), (7, some 3), (7, some 4), (7, some 5), (8, some 0), (8, some 1), (8, some 2), (8, some 3), (8, some 4), (8, some 5), (8, some 6), (8, some 7), (9, none), (10, none), (11, some 0), (11, some 1), (11, some 2), (11, some 3), (11, some 4), (11, some 5), (11, some 6), (11, some 7), (12, some 0), (12, some 1), (12, some 2)] f g) (h0 : g 1 0 5 = f 1 1 5) (h1 : g 1 0 6 = f 1 1 6) (h2 : g 1 0 7 = f 1 1 7) (h3 : g 1 0 8 = f 1 1 8) (h4 : g 1 1 5 = f 1 1 5) (h5 : g 1 1 6 = f 1 1 6) (h6 : g 1 1 7 = f 1 1 7) (h7 : g 1 1 8 = f 1 1 8) (h8 : zcpd f g 7 0 24 (f 1 1 5).toInt.toNat 6 24) (h9 : zcpd f g 8 0 8 (f 1 1 6).toInt.toNat 5 8) (h10 : zcpd f g 11 0 12 (f 1 1 7).toInt.toNat 8 12) (h11 : zcpd f g 12 0 8 (f 1 1 8).toInt.toNat 3 8) (h12 : ∀ j, j < 7 → g 6 0 j = f 6 1 j) (h13 : ∀ j, j < 7 → g 6 1 j = f 6 1 j) (h14 : ∀ i, i < (f 1 1 6).toInt.toNat → zLk g i (fun k j => g 7 k j) (g 1 0 5).toInt.toNat) : zRk (zre g) := by
  have k39 : ∀ j, g 39 0 j = f 39 0 j := fun j => hF 39 0 j rfl
  have z1 : ∀ n j, zre g 1 n j = g 1 n j := fun n j => zre_o g (by omega) (by decide) (by decide)
  have z12 : ∀ n j, zre g 12 n j = g 12 n j := fun n j => zre_o g (by omega) (by decide) (by decide)
  have z39 : ∀ j, zre g 39 0 j = g 39 0 j := fun j => zre_o g (by omega) (by decide) (by decide)
  have b8 : (f 1 1 8).toInt ≤ 8 := (hI 1 1 8).2
  refine ⟨fun i j hi hj => ?_, fun i j hi hj => ?_⟩
  · rw [z1, h3] at hi
    have e := h11.1 i j (by omega) hj
    rw [Nat.zero_add] at e
    rw [z12, e, zre_29 g (by omega), k39]; exact Rk.2 i j hi hj
  · rw [z1, h7] at hi
    have e := h11.2 i j (by omega) hj
    rw [z12, e, z39, k39]; exact Rk.2 i j hi hj

/-- the greatest of those that are so -/
noncomputable def zyg (S : Nat → Prop) (Y : Nat → Int32) : Nat → Int32
  | 0 => 0
  | k + 1 => @ite Int32 (S k) (Classical.propDecidable _) (imax (zyg S Y k) (Y k)) (zyg S Y k)
theorem zyg_congr {S T : Nat → Prop} {Y Z : Nat → Int32} : ∀ n : Nat, (∀ k, k < n → (S k ↔ T k) ∧ Y k = Z k) → zyg S Y n = zyg T Z n
  | 0, _ => rfl
  | n + 1, h => by
    obtain ⟨h1, h2⟩ := h n (by omega)
    rw [zyg, zyg, zyg_congr n (fun k hk => h k (by omega)), h2]
    by_cases q : S n
    · rw [if_pos q, if_pos (h1.mp q)]
    · rw [if_neg q, if_neg (fun z => q (h1.mpr z))]
/-- of two the one that goes ahead -/
def zah (Y : Nat → Int32) (H : Nat → Prop) (D : Nat → Int32) (a b : Nat) : Prop := (Y b).toInt < (Y a).toInt ∨ ((Y a).toInt = (Y b).toInt ∧ ((H a ∧ ¬ H b) ∨ ((H a ↔ H b) ∧ ((D a).toInt < (D b).toInt ∨ ((D a).toInt = (D b).toInt ∧ a < b)))))
theorem zah_i {Y : Nat → Int32} {H : Nat → Prop} {D : Nat → Int32} {a : Nat} : ¬ zah Y H D a a := by
  rintro (h | ⟨_, h | ⟨_, h | h⟩⟩)
  · omega
  · exact h.2 h.1
  · omega
  · omega
theorem zah_congr {Y Z : Nat → Int32} {H K : Nat → Prop} {D E : Nat → Int32} {a b : Nat} (ya : Y a = Z a) (yb : Y b = Z b) (ha : H a ↔ K a) (hb : H b ↔ K b) (da : D a = E a) (db : D b = E b) : zah Y H D a b ↔ zah Z K E a b := by
  unfold zah; rw [ya, yb, ha, hb, da, db]
noncomputable def zct (P : Nat → Prop) : Nat → Nat
  | 0 => 0
  | k + 1 => zct P k + @ite Nat (P k) (Classical.propDecidable _) 1 0
theorem zct_congr {P Q : Nat → Prop} : ∀ n : Nat, (∀ k, k < n → (P k ↔ Q k)) → zct P n = zct Q n
  | 0, _ => rfl
  | n + 1, h => by
    rw [zct, zct, zct_congr n (fun k hk => h k (by omega))]
    by_cases q : P n
    · rw [if_pos q, if_pos ((h n (by omega)).mp q)]
    · rw [if_neg q, if_neg (fun z => q ((h n (by omega)).mpr z))]
theorem zct_y {P : Nat → Prop} {n : Nat} (h : P n) : zct P (n + 1) = zct P n + 1 := by rw [zct, if_pos h]
theorem zct_n {P : Nat → Prop} {n : Nat} (h : ¬ P n) : zct P (n + 1) = zct P n := by rw [zct, if_neg h]; rfl
/-- the first that is so, or none -/
def zfst (Q : Nat → Prop) (n : Nat) (v : Int32) : Prop := (∃ k, k < n ∧ v = nI k ∧ Q k ∧ ∀ j, j < k → ¬ Q j) ∨ (v = -4 ∧ ∀ j, j < n → ¬ Q j)
theorem zfst_u {Q R : Nat → Prop} {n : Nat} {v w : Int32} (h : zfst Q n v) (h2 : zfst R n w) (e : ∀ k, k < n → (Q k ↔ R k)) : w = v := by
  rcases h with ⟨k, k1, k2, k3, k4⟩ | ⟨h1, h2q⟩ <;> rcases h2 with ⟨l, l1, l2, l3, l4⟩ | ⟨l1, l2⟩
  · have hkl : k = l := by
      rcases Nat.lt_trichotomy k l with q | q | q
      · exact absurd ((e k k1).mp k3) (l4 k q)
      · exact q
      · exact absurd ((e l l1).mpr l3) (k4 l q)
    rw [l2, k2, hkl]
  · exact absurd ((e k k1).mp k3) (l2 k k1)
  · exact absurd ((e l l1).mpr l3) (h2q l l1)
  · rw [l1, h1]
theorem zbf_or {P Q : Nat → Prop} {n : Nat} (hn : n ≤ 32) : zbf P n ||| zbf Q n = zbf (fun i => P i ∨ Q i) n :=
  zbf_ext hn (fun i hi => by
    rw [b_or, Bool.or_eq_true, zbf_bit hi n hn, zbf_bit hi n hn]
    constructor
    · rintro (q | q)
      · exact ⟨q.1, Or.inl q.2⟩
      · exact ⟨q.1, Or.inr q.2⟩
    · rintro ⟨q1, q2 | q2⟩
      · exact Or.inl ⟨q1, q2⟩
      · exact Or.inr ⟨q1, q2⟩)
/-- the class: DEEDS that some paper to a LAND lets go; those of a DEMAND, their greatest YEARS, whether one was there -/
def zlx (f : zM) (l : Int32) (n i : Nat) : Prop := ∃ p, p < n ∧ f 11 p 2 = l ∧ zga f p (f 6 0 1) (f 6 0 4) (f 6 0 5) (f 6 0 6) i
theorem zlx_0 {f : zM} {l : Int32} {i : Nat} : ¬ zlx f l 0 i := fun ⟨p, h, _⟩ => absurd h (Nat.not_lt_zero p)
theorem zlx_s {f : zM} {l : Int32} {n i : Nat} : zlx f l (n + 1) i ↔ (zlx f l n i ∨ (f 11 n 2 = l ∧ zga f n (f 6 0 1) (f 6 0 4) (f 6 0 5) (f 6 0 6) i)) := by
  constructor
  · rintro ⟨p, h1, h2⟩
    by_cases e : p = n
    · subst e; exact Or.inr h2
    · exact Or.inl ⟨p, by omega, h2⟩
  · rintro (⟨p, h1, h2⟩ | h)
    · exact ⟨p, by omega, h2⟩
    · exact ⟨n, by omega, h⟩
def zdx (f : zM) (k i : Nat) : Prop := bt (f 12 k 1) i = true ∧ zlx f (f 12 k 0) (f 1 0 7).toInt.toNat i
noncomputable def zDS (f : zM) (k : Nat) : Int32 := zbf (zdx f k) (f 1 0 6).toInt.toNat
noncomputable def zDY (f : zM) (k : Nat) : Int32 := zyg (zdx f k) (fun d => f 9 d (f 12 k 0).toInt.toNat) (f 1 0 6).toInt.toNat
def zHx (f : zM) (k n : Nat) : Prop := ∃ d, d < n ∧ zdx f k d ∧ f 8 d 2 = f 12 k 0
def zDH (f : zM) (k : Nat) : Prop := zHx f k (f 1 0 6).toInt.toNat
theorem zHx_s {f : zM} {k n : Nat} : zHx f k (n + 1) ↔ (zHx f k n ∨ (zdx f k n ∧ f 8 n 2 = f 12 k 0)) := by
  constructor
  · rintro ⟨p, h1, h2⟩
    by_cases e : p = n
    · subst e; exact Or.inr h2
    · exact Or.inl ⟨p, by omega, h2⟩
  · rintro (⟨p, h1, h2⟩ | h)
    · exact ⟨p, by omega, h2⟩
    · exact ⟨n, by omega, h⟩
/-- the reference -/
def zlm (f : zM) (l : Int32) (n i : Nat) : Prop := ∃ p, p < n ∧ f 28 0 (8 * p + 2) = l ∧ zgr f p (f 30 0 1) (f 30 0 3) (f 30 0 4) (f 30 0 5) i
theorem zlm_0 {f : zM} {l : Int32} {i : Nat} : ¬ zlm f l 0 i := fun ⟨p, h, _⟩ => absurd h (Nat.not_lt_zero p)
theorem zlm_s {f : zM} {l : Int32} {n i : Nat} : zlm f l (n + 1) i ↔ (zlm f l n i ∨ (f 28 0 (8 * n + 2) = l ∧ zgr f n (f 30 0 1) (f 30 0 3) (f 30 0 4) (f 30 0 5) i)) := by
  constructor
  · rintro ⟨p, h1, h2⟩
    by_cases e : p = n
    · subst e; exact Or.inr h2
    · exact Or.inl ⟨p, by omega, h2⟩
  · rintro (⟨p, h1, h2⟩ | h)
    · exact ⟨p, by omega, h2⟩
    · exact ⟨n, by omega, h⟩
def zdm (f : zM) (k i : Nat) : Prop := bt (f 29 0 (3 * k + 1)) i = true ∧ zlm f (f 29 0 (3 * k + 0)) (f 25 0 4).toInt.toNat i
noncomputable def zMS (f : zM) (k : Nat) : Int32 := zbf (zdm f k) (f 25 0 2).toInt.toNat
noncomputable def zMY (f : zM) (k : Nat) : Int32 := zyg (zdm f k) (fun d => zly (fun k j => f 26 0 (6 * k + j)) (f 27 0 (5 * d + 0)) (f 29 0 (3 * k + 0)).toInt.toNat (f 25 0 0).toInt.toNat) (f 25 0 2).toInt.toNat
def zHm (f : zM) (k n : Nat) : Prop := ∃ d, d < n ∧ zdm f k d ∧ f 27 0 (5 * d + 2) = f 29 0 (3 * k + 0)
def zMH (f : zM) (k : Nat) : Prop := zHm f k (f 25 0 2).toInt.toNat
theorem zHm_s {f : zM} {k n : Nat} : zHm f k (n + 1) ↔ (zHm f k n ∨ (zdm f k n ∧ f 27 0 (5 * n + 2) = f 29 0 (3 * k + 0))) := by
  constructor
  · rintro ⟨p, h1, h2⟩
    by_cases e : p = n
    · subst e; exact Or.inr h2
    · exact Or.inl ⟨p, by omega, h2⟩
  · rintro (⟨p, h1, h2⟩ | h)
    · exact ⟨p, by omega, h2⟩
    · exact ⟨n, by omega, h⟩
theorem zWs_k {f g : zM} (h : zWs f) (k1 : ∀ j, j < 8 → g 1 0 j = f 1 0 j) (k11 : ∀ p j, g 11 p j = f 11 p j) (k8 : ∀ n j, g 8 n j = f 8 n j) (k9 : ∀ n j, g 9 n j = f 9 n j) (k10 : ∀ n j, g 10 n j = f 10 n j) (k6 : ∀ n j, g 6 n j = f 6 n j) : zWs g := by
  intro q hq
  rw [k1 7 (by decide)] at hq
  obtain ⟨h1, h2⟩ := h q hq
  rw [k11, k11, k1 6 (by decide)]
  refine ⟨h1.trans ?_, h2.trans ?_⟩
  · exact zbf_congr _ (fun i _ => by rw [zcx_k (fun j _ => k11 q j) k8 k9 k10, zbx_k (fun j _ => k11 q j) k8 k6])
  · exact zbf_congr _ (fun i _ => by rw [k8, k11])
/-- all papers stand open as they are -/
def zOp (g : zM) : Prop := ∀ q : Nat, (q : Int) < (g 25 0 4).toInt → g 31 0 q = zbf (fun i => zcr g q i ∧ zsr g q i = 0) (g 25 0 2).toInt.toNat
theorem zlx_k {f g : zM} {l : Int32} {n i : Nat} (a : ∀ p j, j < 8 → g 11 p j = f 11 p j) (b : ∀ n j, g 8 n j = f 8 n j) (c : ∀ n j, g 9 n j = f 9 n j) (e : ∀ n j, g 10 n j = f 10 n j) (k6 : ∀ n j, g 6 n j = f 6 n j) : zlx g l n i ↔ zlx f l n i := by
  have hz : ∀ p, zga g p (f 6 0 1) (f 6 0 4) (f 6 0 5) (f 6 0 6) i ↔ zga f p (f 6 0 1) (f 6 0 4) (f 6 0 5) (f 6 0 6) i := fun p => zga_k (a p) b c e (k6 0 0) (k6 0 2)
  have h2 : ∀ p, g 11 p 2 = f 11 p 2 := fun p => a p 2 (by decide)
  unfold zlx
  simp only [k6, h2, hz]
theorem zd_r {f : zM} (hI : zInv f) (Rd : zRd f) (Rq : zRq f) (Rp : zRp f) (Rl : zRl f) (Rn : zRn f) (Rm : zRm f) (Rk : zRk f) {k i : Nat} (hk : (k : Int) < (f 1 0 8).toInt) (hi : (i : Int) < (f 1 0 6).toInt) : zdx f k i ↔ zdm f k i := by
  obtain ⟨m0, m1, m2, m3, m4, m5, m6, m7⟩ := zRm_e Rm
  unfold zdx zdm zlx zlm
  rw [Rk.1 k 1 hk (by decide), Rk.1 k 0 hk (by decide), ← Rp.1]
  have hq : ∀ p, p < (f 1 0 7).toInt.toNat → ((f 11 p 2 = f 29 0 (3 * k + 0) ∧ zga f p (f 6 0 1) (f 6 0 4) (f 6 0 5) (f 6 0 6) i) ↔ (f 28 0 (8 * p + 2) = f 29 0 (3 * k + 0) ∧ zgr f p (f 30 0 1) (f 30 0 3) (f 30 0 4) (f 30 0 5) i)) := fun p hp => by
    rw [Rp.2.2.1 p 2 (by omega) (by decide), zga_r hI Rd Rq Rp Rl Rn Rm m7 (by omega) hi, m1, m4, m5, m6]
  constructor
  · rintro ⟨q1, p, q2, q3⟩; exact ⟨q1, p, q2, (hq p q2).mp q3⟩
  · rintro ⟨q1, p, q2, q3⟩; exact ⟨q1, p, q2, (hq p q2).mpr q3⟩
theorem zDS_r {f : zM} (hI : zInv f) (Rc : zRc f) (Rd : zRd f) (Rq : zRq f) (Rp : zRp f) (Rl : zRl f) (Rn : zRn f) (Rm : zRm f) (Rk : zRk f) {k : Nat} (hk : (k : Int) < (f 1 0 8).toInt) : zDS f k = zMS f k ∧ zDY f k = zMY f k ∧ (zDH f k ↔ zMH f k) := by
  have hz : ∀ i, i < (f 1 0 6).toInt.toNat → (zdx f k i ↔ zdm f k i) := fun i hi => zd_r hI Rd Rq Rp Rl Rn Rm Rk hk (by omega)
  have u0 : (f 1 0 5).toInt ≤ 24 := (hI 1 0 5).2
  have hC : ∀ q j, q < (f 1 0 5).toInt.toNat → j < 6 → (fun k j => f 26 0 (6 * k + j)) q j = (fun k j => f 7 k j) q j := fun i j hi hj => (Rq.2.2.1 i j (by omega) hj).symm
  have e0 := Rk.1 k 0 hk (by decide)
  have r0 : 0 ≤ (f 12 k 0).toInt ∧ (f 12 k 0).toInt ≤ 5 := hI 12 k 0
  unfold zDS zMS zDY zMY zDH zMH
  rw [← Rc.1]
  refine ⟨zbf_congr _ hz, zyg_congr _ (fun d hd => ⟨hz d hd, ?_⟩), ?_⟩
  · obtain ⟨_, _, _, l4, _⟩ := Rl d (by omega)
    have l4 := l4 (f 12 k 0).toInt.toNat (by omega)
    have d0 := Rd.1 d 0 (by omega) (by decide)
    rw [l4, ← e0, ← Rq.1, zly_congr _ hC, ← d0]
  · unfold zHx zHm
    constructor
    · rintro ⟨d, h1, h2, h3⟩
      exact ⟨d, h1, (hz d h1).mp h2, by rw [← Rd.1 d 2 (by omega) (by decide), ← e0]; exact h3⟩
    · rintro ⟨d, h1, h2, h3⟩
      exact ⟨d, h1, (hz d h1).mpr h2, by rw [Rd.1 d 2 (by omega) (by decide), e0]; exact h3⟩
theorem zM_k {f g : zM} {k : Nat} (k25 : g 25 0 = f 25 0) (k26 : g 26 0 = f 26 0) (k27 : g 27 0 = f 27 0) (k28 : g 28 0 = f 28 0) (k29 : g 29 0 = f 29 0) (k30 : g 30 0 = f 30 0) : zMS g k = zMS f k ∧ zMY g k = zMY f k ∧ (zMH g k ↔ zMH f k) := by
  have hd : zdm g k = zdm f k := funext (fun i => by unfold zdm zlm; simp only [zgr_k k25 k26 k27 k28 k30, k25, k28, k29, k30])
  unfold zMS zMY zMH zHm
  simp only [hd, k25, k26, k27, k29]
  exact ⟨trivial, trivial, trivial⟩

set_option maxRecDepth 100000 in
set_option maxHeartbeats 4000000 in
theorem x_X8_letTo (d : Nat) (f : zM) (a1 : Int32) (b1 : zB a1 0 5) (hp0 : zWs f) (hI : zInv f) : ZM (d + 2) yX8_letTo cX8_letTo 4 (some .int) [zr 1 0, zi a1] f (fun r g => (∃ v, r = some (zi v) ∧ zB v 0 255) ∧ zInv g ∧ zFr [] f g ∧ (∀ v : Int32, r = some (zi v) → v = zbf (zlx f a1 (f 1 0 7).toInt.toNat) (f 1 0 6).toInt.toNat)) := by
  refine ZM.intro (by decide +kernel) (Nat.le_of_ble_eq_true rfl) ?_
  intro X C hr hn
  have hF : zFr [] f f := zFr.rf _ _
  have ct1_0_7 : zB (f 1 0 7) 0 12 := hI 1 0 7
  have J : ∀ t : Nat, (∀ a4_2 : Int32, zB a4_2 0 255 → ∀ a4_3 : Int32, zB a4_3 0 12 → ∀ g : zM, zInv g → zFr [] f g → zB (g 1 0 7) 0 12 → (g = f) → (a4_2 = zbf (zlx f a1 a4_3.toInt.toNat) (f 1 0 6).toInt.toNat) → (a4_3.toInt ≤ (f 1 0 7).toInt) → ((g 1 0 7).toInt = (f 1 0 7).toInt) → (0 + 3 * (12 - a4_3.toInt) : Int) < t → Z X 4 [some (zr 1 0), some (zi a1), some (zi a4_2), some (zi a4_3)] [] g) := by
    intro t
    induction t with
    | zero =>
      intros; exfalso; omega
    | succ t ih =>
      have ih0 := ih
      intro a4_2 b4_2 a4_3 b4_3 g4_ hI4_ hF4_ f4_1_0_7 hR4_0 hR4_1 hR4_2 hR4_3 hM4_
      refine z_iload_n (pc := 4) C dX8_letTo_4 rfl ?_
      refine z_aload_n (pc := 5) C dX8_letTo_5 rfl ?_
      refine z_getI (pc := 6) C zf_X8_64 rfl rfl (by decide) dX8_letTo_6 ?_
      refine w_gp (fun v => v = g4_ 1 0 7) rfl (fun v1 q1 => ?_)
      have e1 : v1.toInt = (g4_ 1 0 7).toInt := by rw [q1]
      have b1x : zB v1 0 12 := by first | exact zB.eqv e1 f4_1_0_7 | (have q9 := f4_1_0_7; constructor <;> omega)
      refine z_icmp_ge (pc := 9) 51 C dX8_letTo_9 (by decide) (fun h9_1 => ?_) (fun h9_1 => ?_)
      · skip
        have rr3 : a4_3.toInt ≥ v1.toInt := by simp only [z32lt, z32le, z32eq] at h9_1; omega
        refine z_iload_n (pc := 51) C dX8_letTo_51 rfl ?_
        exact z_iret (pc := 52) C hr dX8_letTo_52 ⟨⟨_, rfl, b4_2⟩, hI4_, hF4_, (by
                                                                                          intro v hv; cases hv
                                                                                          have hn : (f 1 0 7).toInt.toNat = a4_3.toInt.toNat := by omega
                                                                                          rw [hn]; exact hR4_1)⟩
      · skip
        have rr4 : a4_3.toInt < v1.toInt := by simp only [z32lt, z32le, z32eq] at h9_1; omega
        have b5x : zB a4_3 0 11 := by have q1 := b4_3; have q2 := b1x; simp only [z32lt, z32le, z32eq, Int32.reduceToInt, Int32.toInt_zero] at h9_1; constructor <;> omega
        have b6x : zB v1 1 12 := by have q1 := b4_3; have q2 := b1x; simp only [z32lt, z32le, z32eq, Int32.reduceToInt, Int32.toInt_zero] at h9_1; constructor <;> omega
        have c7x : zB (g4_ 1 0 7) 1 12 := by first | assumption | (constructor <;> omega)
        refine z_iload_n (pc := 12) C dX8_letTo_12 rfl ?_
        refine z_aload_n (pc := 13) C dX8_letTo_13 rfl ?_
        refine z_getR (pc := 14) C zf_X8_25 rfl rfl (by decide) dX8_letTo_14 ?_
        refine z_iload_n (pc := 17) C dX8_letTo_17 rfl ?_
        refine z_aald (pc := 18) C rfl ⟨rfl, by decide⟩ (by decide) (zIx b5x (by decide) (by decide)) dX8_letTo_18 ?_
        refine w_grx (by have hq := zN b5x (by decide); show 12 * 0 + a4_3.toNatClampNeg < 36; omega) (fun m8 q8r h8x => ?_)
        have q8r : m8 = 12 * 0 + a4_3.toNatClampNeg := q8r
        have k8r : a4_3.toNatClampNeg = a4_3.toInt.toNat := rfl
        refine z_getI (pc := 19) C zf_X8_117 rfl rfl h8x dX8_letTo_19 ?_
        refine w_gp (fun v => v = g4_ 11 m8 2) rfl (fun v10 q10 => ?_)
        have b10x : zB v10 0 5 := by rw [q10]; exact (hI4_ 11 m8 2)
        refine z_iload_n (pc := 22) C dX8_letTo_22 rfl ?_
        refine z_icmp_ne (pc := 23) 42 C dX8_letTo_23 (by decide) (fun h23_10 => ?_) (fun h23_10 => ?_)
        · skip
          refine z_iconst (pc := 42) (v := 0) C dX8_letTo_42 (by decide) ?_
          refine z_ior (pc := 43) C dX8_letTo_43 ?_
          refine w_gp (fun v => v = a4_2 ||| (0 : Int32)) rfl (fun v12 q12 => ?_)
          have b12x : zB v12 0 255 := by rw [q12]; exact (zor_b 8 b4_2 (zB.of (x := 0) 0 (by decide)) (by decide) (by decide) (by decide) (by decide) (by decide))
          refine z_istore_n (pc := 44) C dX8_letTo_44 (by rw [hn]; decide) rfl ?_
          refine z_iinc (pc := 45) (v := 1) C dX8_letTo_45 rfl (by decide) (by rw [hn]; decide) rfl ?_
          obtain ⟨v13, hv13, e13⟩ : ∃ v : Int32, v = a4_3 + 1 ∧ v.toInt = a4_3.toInt + 1 := ⟨_, rfl, zadd_eb b5x (zB.of (x := 1) 1 (by decide)) (by decide) (by decide)⟩
          rw [← hv13]
          have b13x : zB v13 1 12 := by have q9 := b5x; constructor <;> omega
          refine z_goto (pc := 48) 4 C dX8_letTo_48 (by decide) ?_
          exact ih0 v12 b12x v13 (zB.wk (a' := 0) (b' := 12) b13x (by decide) (by decide)) g4_ hI4_ hF4_ (zB.wk c7x (by decide) (by decide)) (by exact hR4_0) (by
                                                                                          have hn : (v13).toInt.toNat = a4_3.toInt.toNat + 1 := by omega
                                                                                          have hx : m8 = a4_3.toInt.toNat := by omega
                                                                                          have b8 : (f 1 0 6).toInt ≤ 8 := (hI 1 0 6).2
                                                                                          have r19 := q10
                                                                                          rw [hx, hR4_0] at r19
                                                                                          rw [hn, q12, hR4_1]
                                                                                          rw [Int32.or_zero]
                                                                                          refine zbf_congr _ (fun i _ => ?_)
                                                                                          rw [zlx_s]
                                                                                          exact ⟨Or.inl, fun h => h.resolve_right (fun q => absurd (r19.trans q.1) (by assumption))⟩) (by omega) (by omega) (by omega)
        · skip
          have rr14 : v10.toInt = a1.toInt := by simp only [z32lt, z32le, z32eq] at h23_10; omega
          refine z_aload_n (pc := 26) C dX8_letTo_26 rfl ?_
          refine z_getR (pc := 27) C zf_X8_38 rfl rfl (by decide) dX8_letTo_27 ?_
          refine z_aload_n (pc := 30) C dX8_letTo_30 rfl ?_
          refine z_getR (pc := 31) C zf_X8_25 rfl rfl (by decide) dX8_letTo_31 ?_
          refine z_iload_n (pc := 34) C dX8_letTo_34 rfl ?_
          refine z_aald (pc := 35) C rfl ⟨rfl, by decide⟩ (by decide) (zIx b5x (by decide) (by decide)) dX8_letTo_35 ?_
          refine w_grx (by have hq := zN b5x (by decide); show 12 * 0 + a4_3.toNatClampNeg < 36; omega) (fun m15 q15r h15x => ?_)
          have q15r : m15 = 12 * 0 + a4_3.toNatClampNeg := q15r
          have k15r : a4_3.toNatClampNeg = a4_3.toInt.toNat := rfl
          refine z_callV (pc := 36) C zk_X8_180 (x_X3_goesBy _ _ 0 (by decide) m15 h15x hI4_) rfl rfl (by decide) rfl rfl (Nat.le_of_ble_eq_true rfl) dX8_letTo_36 (fun r16 g16 q16 => ?_)
          obtain ⟨⟨v16, rfl, b16x⟩, hI16, hF16q, hp16_0⟩ := q16
          have hp16_0 := hp16_0 _ rfl
          obtain rfl := zFr_nil hF16q
          simp only [Option.toList, List.cons_append, List.nil_append]
          refine z_goto (pc := 39) 43 C dX8_letTo_39 (by decide) ?_
          refine z_ior (pc := 43) C dX8_letTo_43 ?_
          refine w_gp (fun v => v = a4_2 ||| v16) rfl (fun v17 q17 => ?_)
          have b17x : zB v17 0 255 := by rw [q17]; exact (zor_b 8 b4_2 b16x (by decide) (by decide) (by decide) (by decide) (by decide))
          refine z_istore_n (pc := 44) C dX8_letTo_44 (by rw [hn]; decide) rfl ?_
          refine z_iinc (pc := 45) (v := 1) C dX8_letTo_45 rfl (by decide) (by rw [hn]; decide) rfl ?_
          obtain ⟨v18, hv18, e18⟩ : ∃ v : Int32, v = a4_3 + 1 ∧ v.toInt = a4_3.toInt + 1 := ⟨_, rfl, zadd_eb b5x (zB.of (x := 1) 1 (by decide)) (by decide) (by decide)⟩
          rw [← hv18]
          have b18x : zB v18 1 12 := by have q9 := b5x; constructor <;> omega
          refine z_goto (pc := 48) 4 C dX8_letTo_48 (by decide) ?_
          exact ih0 v17 b17x v18 (zB.wk (a' := 0) (b' := 12) b18x (by decide) (by decide)) g4_ hI4_ hF4_ (zB.wk c7x (by decide) (by decide)) (by exact hR4_0) (by
                                                                                          have hn : (v18).toInt.toNat = a4_3.toInt.toNat + 1 := by omega
                                                                                          have hx : m8 = a4_3.toInt.toNat := by omega
                                                                                          have b8 : (f 1 0 6).toInt ≤ 8 := (hI 1 0 6).2
                                                                                          have r19 := q10
                                                                                          rw [hx, hR4_0] at r19
                                                                                          rw [hn, q17, hR4_1]
                                                                                          have hx2 : m15 = a4_3.toInt.toNat := by omega
                                                                                          have hg := hp16_0
                                                                                          rw [hx2, hR4_0] at hg
                                                                                          have hv := zgb (f := f) (m := f) hI hp0 (by omega) (fun j => rfl) hg
                                                                                          have hl : f 11 a4_3.toInt.toNat 2 = a1 := r19.symm.trans (by assumption)
                                                                                          rw [hv, zbf_or (by omega)]
                                                                                          refine zbf_congr _ (fun i _ => ?_)
                                                                                          rw [zlx_s]
                                                                                          exact ⟨fun h => h.elim Or.inl (fun q => Or.inr ⟨hl, q⟩), fun h => h.elim Or.inl (fun q => Or.inr q.2)⟩) (by omega) (by omega) (by omega)
  have J0 := J 51
  show Z X 0 [some (zr 1 0), some (zi a1), none, none] [] f
  refine z_iconst (pc := 0) (v := 0) C dX8_letTo_0 (by decide) ?_
  refine z_istore_n (pc := 1) C dX8_letTo_1 (by rw [hn]; decide) rfl ?_
  refine z_iconst (pc := 2) (v := 0) C dX8_letTo_2 (by decide) ?_
  refine z_istore_n (pc := 3) C dX8_letTo_3 (by rw [hn]; decide) rfl ?_
  exact J0 0 (zB.wk (a' := 0) (b' := 255) (zB.of (x := 0) 0 (by decide)) (by decide) (by decide)) 0 (zB.wk (a' := 0) (b' := 12) (zB.of (x := 0) 0 (by decide)) (by decide) (by decide)) f hI hF ct1_0_7 (by rfl) (by exact (zbf_0 _ (fun k _ => zlx_0)).symm) (by have qc0 : (0 : Int32).toInt = 0 := (by decide); omega) (by have qc0 : (0 : Int32).toInt = 0 := (by decide); omega) (by have qc0 : (0 : Int32).toInt = 0 := (by decide); omega)

set_option maxRecDepth 100000 in
set_option maxHeartbeats 4000000 in
theorem x_X8_weighDemands (d : Nat) (f : zM) (hp0 : zWs f) (hI : zInv f) : ZM (d + 3) yX8_weighDemands cX8_weighDemands 4 none [zr 1 0] f (fun r g => r = none ∧ zInv g ∧ zFr [(12, some 3), (12, some 4), (12, some 5)] f g ∧ ((∀ k, k < (f 1 0 8).toInt.toNat → g 12 k 3 = zDS f k ∧ g 12 k 4 = zDY f k ∧ zbo (g 12 k 5) (zDH f k)))) := by
  refine ZM.intro (by decide +kernel) (Nat.le_of_ble_eq_true rfl) ?_
  intro X C hr hn
  have hF : zFr [(12, some 3), (12, some 4), (12, some 5)] f f := zFr.rf _ _
  have ct1_0_6 : zB (f 1 0 6) 0 8 := hI 1 0 6
  have ct1_0_8 : zB (f 1 0 8) 0 8 := hI 1 0 8
  have J : ∀ t : Nat, (∀ a2_1 : Int32, zB a2_1 0 8 → ∀ g : zM, zInv g → zFr [(12, some 3), (12, some 4), (12, some 5)] f g → zB (g 1 0 6) 0 8 → zB (g 1 0 8) 0 8 → ((∀ k, k < a2_1.toInt.toNat → g 12 k 3 = zDS f k ∧ g 12 k 4 = zDY f k ∧ zbo (g 12 k 5) (zDH f k))) → (a2_1.toInt ≤ (f 1 0 8).toInt) → ((g 1 0 6).toInt = (f 1 0 6).toInt) → ((g 1 0 8).toInt = (f 1 0 8).toInt) → (37 + 40 * (8 - a2_1.toInt) : Int) < t → Z X 2 [some (zr 1 0), some (zi a2_1), none, none] [] g) ∧ (∀ a46_1 : Int32, zB a46_1 0 7 → ∀ m46_2 : Nat, m46_2 < zcnt 12 → ∀ a46_3 : Int32, zB a46_3 0 8 → ∀ g : zM, zInv g → zFr [(12, some 3), (12, some 4), (12, some 5)] f g → zB (g 1 0 6) 0 8 → zB (g 1 0 8) 1 8 → ((∀ k, k < a46_1.toInt.toNat → g 12 k 3 = zDS f k ∧ g 12 k 4 = zDY f k ∧ zbo (g 12 k 5) (zDH f k))) → ((m46_2 = a46_1.toInt.toNat ∧ g 12 a46_1.toInt.toNat 3 = zDS f a46_1.toInt.toNat ∧ g 12 a46_1.toInt.toNat 4 = zyg (zdx f a46_1.toInt.toNat) (fun d => f 9 d (f 12 a46_1.toInt.toNat 0).toInt.toNat) a46_3.toInt.toNat ∧ zbo (g 12 a46_1.toInt.toNat 5) (zHx f a46_1.toInt.toNat a46_3.toInt.toNat))) → (a46_1.toInt < (f 1 0 8).toInt) → (a46_3.toInt ≤ (f 1 0 6).toInt) → ((g 1 0 6).toInt = (f 1 0 6).toInt) → ((g 1 0 8).toInt = (f 1 0 8).toInt) → (0 + 4 * (8 - a46_3.toInt) + 40 * (8 - a46_1.toInt) : Int) < t → Z X 46 [some (zr 1 0), some (zi a46_1), some (zr 12 m46_2), some (zi a46_3)] [] g) := by
    intro t
    induction t with
    | zero =>
      refine ⟨?_, ?_⟩ <;> (intros; exfalso; omega)
    | succ t ih =>
      obtain ⟨ih0, ih1⟩ := ih
      refine ⟨?_, ?_⟩
      · skip
        intro a2_1 b2_1 g2_ hI2_ hF2_ f2_1_0_6 f2_1_0_8 hR2_0 hR2_1 hR2_2 hR2_3 hM2_
        refine z_iload_n (pc := 2) C dX8_weighDemands_2 rfl ?_
        refine z_aload_n (pc := 3) C dX8_weighDemands_3 rfl ?_
        refine z_getI (pc := 4) C zf_X8_70 rfl rfl (by decide) dX8_weighDemands_4 ?_
        refine w_gp (fun v => v = g2_ 1 0 8) rfl (fun v1 q1 => ?_)
        have e1 : v1.toInt = (g2_ 1 0 8).toInt := by rw [q1]
        have b1x : zB v1 0 8 := by first | exact zB.eqv e1 f2_1_0_8 | (have q9 := f2_1_0_8; constructor <;> omega)
        refine z_icmp_ge (pc := 7) 134 C dX8_weighDemands_7 (by decide) (fun h7_1 => ?_) (fun h7_1 => ?_)
        · skip
          have rr3 : a2_1.toInt ≥ v1.toInt := by simp only [z32lt, z32le, z32eq] at h7_1; omega
          exact z_vret (pc := 134) C hr dX8_weighDemands_134 ⟨rfl, hI2_, hF2_, (by
                                                                                          have hn : (f 1 0 8).toInt.toNat = a2_1.toInt.toNat := by omega
                                                                                          rw [hn]; exact hR2_0)⟩
        · skip
          have rr4 : a2_1.toInt < v1.toInt := by simp only [z32lt, z32le, z32eq] at h7_1; omega
          have b5x : zB a2_1 0 7 := by have q1 := b2_1; have q2 := b1x; simp only [z32lt, z32le, z32eq, Int32.reduceToInt, Int32.toInt_zero] at h7_1; constructor <;> omega
          have b6x : zB v1 1 8 := by have q1 := b2_1; have q2 := b1x; simp only [z32lt, z32le, z32eq, Int32.reduceToInt, Int32.toInt_zero] at h7_1; constructor <;> omega
          have c7x : zB (g2_ 1 0 8) 1 8 := by first | assumption | (constructor <;> omega)
          refine z_aload_n (pc := 10) C dX8_weighDemands_10 rfl ?_
          refine z_getR (pc := 11) C zf_X8_31 rfl rfl (by decide) dX8_weighDemands_11 ?_
          refine z_iload_n (pc := 14) C dX8_weighDemands_14 rfl ?_
          refine z_aald (pc := 15) C rfl ⟨rfl, by decide⟩ (by decide) (zIx b5x (by decide) (by decide)) dX8_weighDemands_15 ?_
          refine w_grx (by have hq := zN b5x (by decide); show 8 * 0 + a2_1.toNatClampNeg < 16; omega) (fun m8 q8r h8x => ?_)
          have q8r : m8 = 8 * 0 + a2_1.toNatClampNeg := q8r
          have k8r : a2_1.toNatClampNeg = a2_1.toInt.toNat := rfl
          refine z_astore_n (pc := 16) C dX8_weighDemands_16 (by rw [hn]; decide) rfl ?_
          refine z_aload_n (pc := 17) C dX8_weighDemands_17 rfl ?_
          refine z_aload_n (pc := 18) C dX8_weighDemands_18 rfl ?_
          refine z_getI (pc := 19) C zf_X8_76 rfl rfl h8x dX8_weighDemands_19 ?_
          refine w_gp (fun v => v = g2_ 12 m8 1) rfl (fun v10 q10 => ?_)
          have b10x : zB v10 0 255 := by rw [q10]; exact (hI2_ 12 m8 1)
          refine z_aload_n (pc := 22) C dX8_weighDemands_22 rfl ?_
          refine z_aload_n (pc := 23) C dX8_weighDemands_23 rfl ?_
          refine z_getI (pc := 24) C zf_X8_73 rfl rfl h8x dX8_weighDemands_24 ?_
          refine w_gp (fun v => v = g2_ 12 m8 0) rfl (fun v12 q12 => ?_)
          have b12x : zB v12 0 5 := by rw [q12]; exact (hI2_ 12 m8 0)
          refine z_callV (pc := 27) C zk_X8_157 (x_X8_letTo _ _ v12 b12x (by exact zWs_k hp0 (fun j _ => hF2_ 1 0 j rfl) (fun p j => hF2_ 11 p j rfl) (fun n j => hF2_ 8 n j rfl) (fun n j => hF2_ 9 n j rfl) (fun n j => hF2_ 10 n j rfl) (fun n j => hF2_ 6 n j rfl)) hI2_) rfl rfl (by decide) rfl rfl (Nat.le_of_ble_eq_true rfl) dX8_weighDemands_27 (fun r13 g13 q13 => ?_)
          obtain ⟨⟨v13, rfl, b13x⟩, hI13, hF13q, hp13_0⟩ := q13
          have hp13_0 := hp13_0 _ rfl
          obtain rfl := zFr_nil hF13q
          simp only [Option.toList, List.cons_append, List.nil_append]
          refine z_iand (pc := 30) C dX8_weighDemands_30 ?_
          refine w_gp (fun v => v = v10 &&& v13) rfl (fun v14 q14 => ?_)
          have b14x : zB v14 0 255 := by rw [q14]; exact (zand_b b10x b13x (by decide))
          refine z_putI (pc := 31) C zf_X8_161 zp_2_3 rfl rfl h8x dX8_weighDemands_31 ?_
          refine w_memx hI2_ hF2_ b14x rfl (fun g15 qm15 hI15 hF15 hq15 hx15 => ?_)
          have ek15_1_0_6 : (g15 1 0 6).toInt = (g2_ 1 0 6).toInt := by rw [hq15 1 0 6 (by omega)]
          have c15_1_0_6x : zB (g15 1 0 6) 0 8 := by rw [hq15 1 0 6 (by omega)]; exact f2_1_0_6
          have ek15_1_0_8 : (g15 1 0 8).toInt = (g2_ 1 0 8).toInt := by rw [hq15 1 0 8 (by omega)]
          have c15_1_0_8x : zB (g15 1 0 8) 1 8 := by rw [hq15 1 0 8 (by omega)]; exact c7x
          refine z_aload_n (pc := 34) C dX8_weighDemands_34 rfl ?_
          refine z_iconst (pc := 35) (v := 0) C dX8_weighDemands_35 (by decide) ?_
          refine z_putI (pc := 36) C zf_X8_164 zp_2_4 rfl rfl h8x dX8_weighDemands_36 ?_
          refine w_memx hI15 hF15 (zB.wk (a' := 0) (b' := 40) (zB.of (x := 0) 0 (by decide)) (by decide) (by decide)) rfl (fun g16 qm16 hI16 hF16 hq16 hx16 => ?_)
          have ek16_1_0_6 : (g16 1 0 6).toInt = (g15 1 0 6).toInt := by rw [hq16 1 0 6 (by omega)]
          have c16_1_0_6x : zB (g16 1 0 6) 0 8 := by rw [hq16 1 0 6 (by omega)]; exact c15_1_0_6x
          have ek16_1_0_8 : (g16 1 0 8).toInt = (g15 1 0 8).toInt := by rw [hq16 1 0 8 (by omega)]
          have c16_1_0_8x : zB (g16 1 0 8) 1 8 := by rw [hq16 1 0 8 (by omega)]; exact c15_1_0_8x
          refine z_aload_n (pc := 39) C dX8_weighDemands_39 rfl ?_
          refine z_iconst (pc := 40) (v := 0) C dX8_weighDemands_40 (by decide) ?_
          refine z_putZ (pc := 41) C zf_X8_167 zp_2_5 (z01 (zB.wk (a' := 0) (b' := 1) (zB.of (x := 0) 0 (by decide)) (by decide) (by decide))) rfl rfl h8x dX8_weighDemands_41 ?_
          refine w_memx hI16 hF16 (zB.wk (a' := 0) (b' := 1) (zB.of (x := 0) 0 (by decide)) (by decide) (by decide)) rfl (fun g17 qm17 hI17 hF17 hq17 hx17 => ?_)
          have ek17_1_0_6 : (g17 1 0 6).toInt = (g16 1 0 6).toInt := by rw [hq17 1 0 6 (by omega)]
          have c17_1_0_6x : zB (g17 1 0 6) 0 8 := by rw [hq17 1 0 6 (by omega)]; exact c16_1_0_6x
          have ek17_1_0_8 : (g17 1 0 8).toInt = (g16 1 0 8).toInt := by rw [hq17 1 0 8 (by omega)]
          have c17_1_0_8x : zB (g17 1 0 8) 1 8 := by rw [hq17 1 0 8 (by omega)]; exact c16_1_0_8x
          refine z_iconst (pc := 44) (v := 0) C dX8_weighDemands_44 (by decide) ?_
          refine z_istore_n (pc := 45) C dX8_weighDemands_45 (by rw [hn]; decide) rfl ?_
          exact ih1 a2_1 b5x m8 h8x 0 (zB.wk (a' := 0) (b' := 8) (zB.of (x := 0) 0 (by decide)) (by decide) (by decide)) g17 hI17 hF17 c17_1_0_6x c17_1_0_8x (by
                                                                                          have hx : m8 = a2_1.toInt.toNat := by omega
                                                                                          intro k hk
                                                                                          have hp := hR2_0 k hk
                                                                                          have e : ∀ j, g17 12 k j = g2_ 12 k j := fun j => by rw [qm17, zup_ne _ _ (by omega), qm16, zup_ne _ _ (by omega), qm15, zup_ne _ _ (by omega)]
                                                                                          rw [e, e, e]; exact hp) (by
                                                                                          have hx : m8 = a2_1.toInt.toNat := by omega
                                                                                          have k11 : ∀ q j, g2_ 11 q j = f 11 q j := fun q j => hF2_ 11 q j rfl
                                                                                          have k8 : ∀ n j, g2_ 8 n j = f 8 n j := fun n j => hF2_ 8 n j rfl
                                                                                          have k9 : ∀ n j, g2_ 9 n j = f 9 n j := fun n j => hF2_ 9 n j rfl
                                                                                          have k10 : ∀ n j, g2_ 10 n j = f 10 n j := fun n j => hF2_ 10 n j rfl
                                                                                          have k6 : ∀ n j, g2_ 6 n j = f 6 n j := fun n j => hF2_ 6 n j rfl
                                                                                          have k1 : ∀ j, g2_ 1 0 j = f 1 0 j := fun j => hF2_ 1 0 j rfl
                                                                                          have k12 : ∀ n j, j < 3 → g2_ 12 n j = f 12 n j := fun n j hj => by rcases (show j = 0 ∨ j = 1 ∨ j = 2 by omega) with rfl | rfl | rfl <;> exact hF2_ 12 n _ rfl
                                                                                          have b8 : (f 1 0 6).toInt ≤ 8 := (hI 1 0 6).2
                                                                                          have r19 := q10
                                                                                          have r24 := q12
                                                                                          rw [hx, k12 _ 1 (by decide)] at r19
                                                                                          rw [hx, k12 _ 0 (by decide)] at r24
                                                                                          have hv := hp13_0
                                                                                          rw [k1, k1, r24] at hv
                                                                                          rw [zbf_congr _ (fun i _ => zlx_k (fun p j _ => k11 p j) k8 k9 k10 k6)] at hv
                                                                                          refine ⟨hx, ?_, ?_, ?_⟩
                                                                                          · rw [qm17, zup_ne _ _ (by omega), qm16, zup_ne _ _ (by omega), qm15, hx, zup_same, q14, hv, r19, Int32.and_comm, zbf_and (by omega)]
                                                                                            unfold zDS
                                                                                            exact zbf_congr _ (fun i _ => and_comm)
                                                                                          · rw [qm17, zup_ne _ _ (by omega), qm16, hx, zup_same]; rfl
                                                                                          · rw [qm17, hx, zup_same]
                                                                                            exact Or.inr ⟨rfl, fun ⟨d, h, _⟩ => absurd h (Nat.not_lt_zero d)⟩) (by have qc0 : (0 : Int32).toInt = 0 := (by decide); omega) (by have qc0 : (0 : Int32).toInt = 0 := (by decide); omega) (by have qc0 : (0 : Int32).toInt = 0 := (by decide); omega) (by have qc0 : (0 : Int32).toInt = 0 := (by decide); omega) (by have qc0 : (0 : Int32).toInt = 0 := (by decide); omega)
      · skip
        intro a46_1 b46_1 m46_2 h46_2 a46_3 b46_3 g46_ hI46_ hF46_ f46_1_0_6 f46_1_0_8 hR46_0 hR46_1 hR46_2 hR46_3 hR46_4 hR46_5 hM46_
        refine z_iload_n (pc := 46) C dX8_weighDemands_46 rfl ?_
        refine z_aload_n (pc := 47) C dX8_weighDemands_47 rfl ?_
        refine z_getI (pc := 48) C zf_X8_54 rfl rfl (by decide) dX8_weighDemands_48 ?_
        refine w_gp (fun v => v = g46_ 1 0 6) rfl (fun v18 q18 => ?_)
        have e18 : v18.toInt = (g46_ 1 0 6).toInt := by rw [q18]
        have b18x : zB v18 0 8 := by first | exact zB.eqv e18 f46_1_0_6 | (have q9 := f46_1_0_6; constructor <;> omega)
        refine z_icmp_ge (pc := 51) 128 C dX8_weighDemands_51 (by decide) (fun h51_18 => ?_) (fun h51_18 => ?_)
        · skip
          have rr20 : a46_3.toInt ≥ v18.toInt := by simp only [z32lt, z32le, z32eq] at h51_18; omega
          refine z_iinc (pc := 128) (v := 1) C dX8_weighDemands_128 rfl (by decide) (by rw [hn]; decide) rfl ?_
          obtain ⟨v21, hv21, e21⟩ : ∃ v : Int32, v = a46_1 + 1 ∧ v.toInt = a46_1.toInt + 1 := ⟨_, rfl, zadd_eb b46_1 (zB.of (x := 1) 1 (by decide)) (by decide) (by decide)⟩
          rw [← hv21]
          have b21x : zB v21 1 8 := by have q9 := b46_1; constructor <;> omega
          refine z_goto (pc := 131) 2 C dX8_weighDemands_131 (by decide) ?_
          refine w_mask [2, 3] ?_
          exact ih0 v21 (zB.wk (a' := 0) (b' := 8) b21x (by decide) (by decide)) g46_ hI46_ hF46_ f46_1_0_6 (zB.wk f46_1_0_8 (by decide) (by decide)) (by
                                                                                          obtain ⟨hx, i1, i2, i3⟩ := hR46_1
                                                                                          have hn : (v21).toInt.toNat = a46_1.toInt.toNat + 1 := by omega
                                                                                          have hd : (f 1 0 6).toInt.toNat = a46_3.toInt.toNat := by omega
                                                                                          intro k hk
                                                                                          rw [hn] at hk
                                                                                          by_cases e : k = a46_1.toInt.toNat
                                                                                          · rw [e]
                                                                                            refine ⟨i1, ?_, ?_⟩
                                                                                            · unfold zDY; rw [hd]; exact i2
                                                                                            · unfold zDH; rw [hd]; exact i3
                                                                                          · exact hR46_0 k (by omega)) (by omega) (by omega) (by omega) (by omega)
        · skip
          have rr22 : a46_3.toInt < v18.toInt := by simp only [z32lt, z32le, z32eq] at h51_18; omega
          have b23x : zB a46_3 0 7 := by have q1 := b46_3; have q2 := b18x; simp only [z32lt, z32le, z32eq, Int32.reduceToInt, Int32.toInt_zero] at h51_18; constructor <;> omega
          have b24x : zB v18 1 8 := by have q1 := b46_3; have q2 := b18x; simp only [z32lt, z32le, z32eq, Int32.reduceToInt, Int32.toInt_zero] at h51_18; constructor <;> omega
          have c25x : zB (g46_ 1 0 6) 1 8 := by first | assumption | (constructor <;> omega)
          refine z_aload_n (pc := 54) C dX8_weighDemands_54 rfl ?_
          refine z_getI (pc := 55) C zf_X8_161 rfl rfl h46_2 dX8_weighDemands_55 ?_
          refine w_gp (fun v => v = g46_ 12 m46_2 3) rfl (fun v27 q27 => ?_)
          have b27x : zB v27 0 255 := by rw [q27]; exact (hI46_ 12 m46_2 3)
          refine z_iload_n (pc := 58) C dX8_weighDemands_58 rfl ?_
          refine z_ishr (pc := 59) C dX8_weighDemands_59 ?_
          refine w_gp (fun v => v = v27 >>> (a46_3 &&& 31)) rfl (fun v28 q28 => ?_)
          refine z_iconst (pc := 60) (v := 1) C dX8_weighDemands_60 (by decide) ?_
          refine z_iand (pc := 61) C dX8_weighDemands_61 ?_
          refine w_gp (fun v => v = v28 &&& (1 : Int32)) rfl (fun v29 q29 => ?_)
          have b29x : zB v29 0 1 := by rw [q29]; exact (zand_b (zB_any v28) (zB.of (x := 1) 1 (by decide)) (by decide))
          refine z_if_eq (pc := 62) 122 C dX8_weighDemands_62 (by decide) (fun h62_29 => ?_) (fun h62_29 => ?_)
          · skip
            have b31x : zB v29 0 0 := by have q1 := b29x; have q2 := (zB.of (x := 0) 0 (by decide)); simp only [z32lt, z32le, z32eq, Int32.reduceToInt, Int32.toInt_zero] at h62_29; constructor <;> omega
            refine z_iinc (pc := 122) (v := 1) C dX8_weighDemands_122 rfl (by decide) (by rw [hn]; decide) rfl ?_
            obtain ⟨v32, hv32, e32⟩ : ∃ v : Int32, v = a46_3 + 1 ∧ v.toInt = a46_3.toInt + 1 := ⟨_, rfl, zadd_eb b23x (zB.of (x := 1) 1 (by decide)) (by decide) (by decide)⟩
            rw [← hv32]
            have b32x : zB v32 1 8 := by have q9 := b23x; constructor <;> omega
            refine z_goto (pc := 125) 46 C dX8_weighDemands_125 (by decide) ?_
            exact ih1 a46_1 b46_1 m46_2 h46_2 v32 (zB.wk (a' := 0) (b' := 8) b32x (by decide) (by decide)) g46_ hI46_ hF46_ (zB.wk c25x (by decide) (by decide)) f46_1_0_8 (by
                                                                                          have hx := hR46_1.1
                                                                                          intro k hk
                                                                                          have hp := hR46_0 k hk
                                                                                          exact hp) (by
                                                                                          obtain ⟨hx, i1, i2, i3⟩ := hR46_1
                                                                                          have hn : (v32).toInt.toNat = a46_3.toInt.toNat + 1 := by omega
                                                                                          have hi : a46_3 = nI a46_3.toInt.toNat := (nI_ofI (by omega)).1
                                                                                          have b8 : (f 1 0 6).toInt ≤ 8 := (hI 1 0 6).2
                                                                                          have k11 : ∀ q j, g46_ 11 q j = f 11 q j := fun q j => hF46_ 11 q j rfl
                                                                                          have k8 : ∀ n j, g46_ 8 n j = f 8 n j := fun n j => hF46_ 8 n j rfl
                                                                                          have k9 : ∀ n j, g46_ 9 n j = f 9 n j := fun n j => hF46_ 9 n j rfl
                                                                                          have k10 : ∀ n j, g46_ 10 n j = f 10 n j := fun n j => hF46_ 10 n j rfl
                                                                                          have k6 : ∀ n j, g46_ 6 n j = f 6 n j := fun n j => hF46_ 6 n j rfl
                                                                                          have k1 : ∀ j, g46_ 1 0 j = f 1 0 j := fun j => hF46_ 1 0 j rfl
                                                                                          have k12 : ∀ n j, j < 3 → g46_ 12 n j = f 12 n j := fun n j hj => by rcases (show j = 0 ∨ j = 1 ∨ j = 2 by omega) with rfl | rfl | rfl <;> exact hF46_ 12 n _ rfl
                                                                                          have r55 := q27
                                                                                          rw [hx, i1] at r55
                                                                                          have hb := zbt_bit (i := a46_3.toInt.toNat) r55 (by omega) (by omega)
                                                                                          have z := z01b (x := v27) (a := a46_3.toInt.toNat) (by omega)
                                                                                          rw [← hi, ← q28, ← q29] at z
                                                                                          have hno : ¬ zdx f a46_1.toInt.toNat a46_3.toInt.toNat := fun h => by
                                                                                            rw [if_pos (hb.mpr h)] at z
                                                                                            exact absurd (show v29 = 0 by assumption) (by rw [z]; decide)
                                                                                          rw [hn]
                                                                                          refine ⟨hx, i1, ?_, ?_⟩
                                                                                          · rw [zyg, if_neg hno]; exact i2
                                                                                          · rcases i3 with ⟨y1, y2⟩ | ⟨y1, y2⟩
                                                                                            · exact Or.inl ⟨y1, zHx_s.mpr (Or.inl y2)⟩
                                                                                            · exact Or.inr ⟨y1, fun h => (zHx_s.mp h).elim y2 (fun h2 => hno h2.1)⟩) (by omega) (by omega) (by omega) (by omega) (by omega)
          · skip
            have b33x : zB v29 1 1 := by have q1 := b29x; have q2 := (zB.of (x := 0) 0 (by decide)); simp only [z32lt, z32le, z32eq, Int32.reduceToInt, Int32.toInt_zero] at h62_29; constructor <;> omega
            refine z_aload_n (pc := 65) C dX8_weighDemands_65 rfl ?_
            refine z_aload_n (pc := 66) C dX8_weighDemands_66 rfl ?_
            refine z_getI (pc := 67) C zf_X8_164 rfl rfl h46_2 dX8_weighDemands_67 ?_
            refine w_gp (fun v => v = g46_ 12 m46_2 4) rfl (fun v35 q35 => ?_)
            have b35x : zB v35 0 40 := by rw [q35]; exact (hI46_ 12 m46_2 4)
            refine z_aload_n (pc := 70) C dX8_weighDemands_70 rfl ?_
            refine z_getR (pc := 71) C zf_X8_19 rfl rfl (by decide) dX8_weighDemands_71 ?_
            refine z_iload_n (pc := 74) C dX8_weighDemands_74 rfl ?_
            refine z_aald (pc := 75) C rfl ⟨rfl, by decide⟩ (by decide) (zIx b23x (by decide) (by decide)) dX8_weighDemands_75 ?_
            refine w_grx (by have hq := zN b23x (by decide); show 8 * 0 + a46_3.toNatClampNeg < 16; omega) (fun m36 q36r h36x => ?_)
            have q36r : m36 = 8 * 0 + a46_3.toNatClampNeg := q36r
            have k36r : a46_3.toNatClampNeg = a46_3.toInt.toNat := rfl
            refine z_getR (pc := 76) C zf_X8_170 rfl rfl h36x dX8_weighDemands_76 ?_
            refine z_aload_n (pc := 79) C dX8_weighDemands_79 rfl ?_
            refine z_getI (pc := 80) C zf_X8_73 rfl rfl h46_2 dX8_weighDemands_80 ?_
            refine w_gp (fun v => v = g46_ 12 m46_2 0) rfl (fun v38 q38 => ?_)
            have b38x : zB v38 0 5 := by rw [q38]; exact (hI46_ 12 m46_2 0)
            refine z_iald (pc := 83) C rfl h36x (zIx b38x (by decide) (by decide)) dX8_weighDemands_83 ?_
            have kq83_38 : v38.toNatClampNeg = v38.toInt.toNat := rfl
            refine w_gp (fun v => v = g46_ 9 m36 v38.toNatClampNeg) rfl (fun v39 q39 => ?_)
            have b39x : zB v39 0 40 := by rw [q39]; exact (hI46_ 9 m36 v38.toNatClampNeg)
            refine z_mmax (pc := 84) C zk_X8_174 (Nat.le_of_ble_eq_true rfl) dX8_weighDemands_84 ?_
            refine w_gp (fun v => v = imax v35 v39) rfl (fun v40 q40 => ?_)
            have b40x : zB v40 0 40 := by rw [q40]; exact (by have q9 := zmax_b b35x b39x; constructor <;> omega)
            refine z_putI (pc := 87) C zf_X8_164 zp_2_4 rfl rfl h46_2 dX8_weighDemands_87 ?_
            refine w_memx hI46_ hF46_ b40x rfl (fun g41 qm41 hI41 hF41 hq41 hx41 => ?_)
            have ek41_1_0_6 : (g41 1 0 6).toInt = (g46_ 1 0 6).toInt := by rw [hq41 1 0 6 (by omega)]
            have c41_1_0_6x : zB (g41 1 0 6) 1 8 := by rw [hq41 1 0 6 (by omega)]; exact c25x
            have ek41_1_0_8 : (g41 1 0 8).toInt = (g46_ 1 0 8).toInt := by rw [hq41 1 0 8 (by omega)]
            have c41_1_0_8x : zB (g41 1 0 8) 1 8 := by rw [hq41 1 0 8 (by omega)]; exact f46_1_0_8
            refine z_aload_n (pc := 90) C dX8_weighDemands_90 rfl ?_
            refine z_aload_n (pc := 91) C dX8_weighDemands_91 rfl ?_
            refine z_getI (pc := 92) C zf_X8_167 rfl rfl h46_2 dX8_weighDemands_92 ?_
            refine w_gp (fun v => v = g41 12 m46_2 5) rfl (fun v43 q43 => ?_)
            have b43x : zB v43 0 1 := by rw [q43]; exact (hI41 12 m46_2 5)
            refine z_if_ne (pc := 95) 114 C dX8_weighDemands_95 (by decide) (fun h95_43 => ?_) (fun h95_43 => ?_)
            · skip
              have b45x : zB v43 1 1 := by have q1 := b43x; have q2 := (zB.of (x := 0) 0 (by decide)); simp only [z32lt, z32le, z32eq, Int32.reduceToInt, Int32.toInt_zero] at h95_43; constructor <;> omega
              refine z_iconst (pc := 114) (v := 1) C dX8_weighDemands_114 (by decide) ?_
              refine z_goto (pc := 115) 119 C dX8_weighDemands_115 (by decide) ?_
              refine z_putZ (pc := 119) C zf_X8_167 zp_2_5 (z01 (zB.wk (a' := 0) (b' := 1) (zB.of (x := 1) 1 (by decide)) (by decide) (by decide))) rfl rfl h46_2 dX8_weighDemands_119 ?_
              refine w_memx hI41 hF41 (zB.wk (a' := 0) (b' := 1) (zB.of (x := 1) 1 (by decide)) (by decide) (by decide)) rfl (fun g46 qm46 hI46 hF46 hq46 hx46 => ?_)
              have ek46_1_0_6 : (g46 1 0 6).toInt = (g41 1 0 6).toInt := by rw [hq46 1 0 6 (by omega)]
              have c46_1_0_6x : zB (g46 1 0 6) 1 8 := by rw [hq46 1 0 6 (by omega)]; exact c41_1_0_6x
              have ek46_1_0_8 : (g46 1 0 8).toInt = (g41 1 0 8).toInt := by rw [hq46 1 0 8 (by omega)]
              have c46_1_0_8x : zB (g46 1 0 8) 1 8 := by rw [hq46 1 0 8 (by omega)]; exact c41_1_0_8x
              refine z_iinc (pc := 122) (v := 1) C dX8_weighDemands_122 rfl (by decide) (by rw [hn]; decide) rfl ?_
              obtain ⟨v47, hv47, e47⟩ : ∃ v : Int32, v = a46_3 + 1 ∧ v.toInt = a46_3.toInt + 1 := ⟨_, rfl, zadd_eb b23x (zB.of (x := 1) 1 (by decide)) (by decide) (by decide)⟩
              rw [← hv47]
              have b47x : zB v47 1 8 := by have q9 := b23x; constructor <;> omega
              refine z_goto (pc := 125) 46 C dX8_weighDemands_125 (by decide) ?_
              exact ih1 a46_1 b46_1 m46_2 h46_2 v47 (zB.wk (a' := 0) (b' := 8) b47x (by decide) (by decide)) g46 hI46 hF46 (zB.wk c46_1_0_6x (by decide) (by decide)) c46_1_0_8x (by
                                                                                          have hx := hR46_1.1
                                                                                          intro k hk
                                                                                          have hp := hR46_0 k hk
                                                                                          have e : ∀ j, g46 12 k j = g46_ 12 k j := fun j => by rw [qm46, zup_ne _ _ (by omega), qm41, zup_ne _ _ (by omega)]
                                                                                          rw [e, e, e]; exact hp) (by
                                                                                          obtain ⟨hx, i1, i2, i3⟩ := hR46_1
                                                                                          have hn : (v47).toInt.toNat = a46_3.toInt.toNat + 1 := by omega
                                                                                          have hi : a46_3 = nI a46_3.toInt.toNat := (nI_ofI (by omega)).1
                                                                                          have b8 : (f 1 0 6).toInt ≤ 8 := (hI 1 0 6).2
                                                                                          have k11 : ∀ q j, g46_ 11 q j = f 11 q j := fun q j => hF46_ 11 q j rfl
                                                                                          have k8 : ∀ n j, g46_ 8 n j = f 8 n j := fun n j => hF46_ 8 n j rfl
                                                                                          have k9 : ∀ n j, g46_ 9 n j = f 9 n j := fun n j => hF46_ 9 n j rfl
                                                                                          have k10 : ∀ n j, g46_ 10 n j = f 10 n j := fun n j => hF46_ 10 n j rfl
                                                                                          have k6 : ∀ n j, g46_ 6 n j = f 6 n j := fun n j => hF46_ 6 n j rfl
                                                                                          have k1 : ∀ j, g46_ 1 0 j = f 1 0 j := fun j => hF46_ 1 0 j rfl
                                                                                          have k12 : ∀ n j, j < 3 → g46_ 12 n j = f 12 n j := fun n j hj => by rcases (show j = 0 ∨ j = 1 ∨ j = 2 by omega) with rfl | rfl | rfl <;> exact hF46_ 12 n _ rfl
                                                                                          have r55 := q27
                                                                                          rw [hx, i1] at r55
                                                                                          have hb := zbt_bit (i := a46_3.toInt.toNat) r55 (by omega) (by omega)
                                                                                          have z := z01b (x := v27) (a := a46_3.toInt.toNat) (by omega)
                                                                                          rw [← hi, ← q28, ← q29] at z
                                                                                          have hyes : zdx f a46_1.toInt.toNat a46_3.toInt.toNat := by
                                                                                            refine hb.mp ?_
                                                                                            cases q : bt v27 a46_3.toInt.toNat
                                                                                            · rw [q, if_neg (by decide)] at z
                                                                                              exact absurd z (by assumption)
                                                                                            · rfl
                                                                                          have hx75 : m36 = a46_3.toInt.toNat := by omega
                                                                                          have r80 := q38
                                                                                          rw [hx, k12 _ 0 (by decide)] at r80
                                                                                          have r67 := q35
                                                                                          rw [hx, i2] at r67
                                                                                          have r83 : v39 = f 9 a46_3.toInt.toNat (f 12 a46_1.toInt.toNat 0).toInt.toNat := by
                                                                                            have h := q39
                                                                                            rw [hx75, k9, r80] at h
                                                                                            exact h
                                                                                          have g0 : ∀ a b c, ¬ (a = 12 ∧ b = a46_1.toInt.toNat ∧ c = 4) → g41 a b c = g46_ a b c := fun a b c h => by rw [qm41, hx]; exact zup_ne _ _ h
                                                                                          have r92 := q43
                                                                                          rw [g0 12 _ 5 (by omega), hx] at r92
                                                                                          rw [hn]
                                                                                          refine ⟨hx, ?_, ?_, ?_⟩
                                                                                          · rw [qm46, zup_ne _ _ (by omega), g0 12 _ 3 (by omega)]; exact i1
                                                                                          · rw [qm46, zup_ne _ _ (by omega), qm41, hx, zup_same, zyg, if_pos hyes, q40, r67, r83]
                                                                                          · rw [qm46, hx, zup_same]
                                                                                            have y2 := zbo_y i3 (by rw [← r92]; omega)
                                                                                            exact Or.inl ⟨rfl, zHx_s.mpr (Or.inl y2)⟩) (by omega) (by omega) (by omega) (by omega) (by omega)
            · skip
              have b48x : zB v43 0 0 := by have q1 := b43x; have q2 := (zB.of (x := 0) 0 (by decide)); simp only [z32lt, z32le, z32eq, Int32.reduceToInt, Int32.toInt_zero] at h95_43; constructor <;> omega
              refine z_aload_n (pc := 98) C dX8_weighDemands_98 rfl ?_
              refine z_getR (pc := 99) C zf_X8_19 rfl rfl (by decide) dX8_weighDemands_99 ?_
              refine z_iload_n (pc := 102) C dX8_weighDemands_102 rfl ?_
              refine z_aald (pc := 103) C rfl ⟨rfl, by decide⟩ (by decide) (zIx b23x (by decide) (by decide)) dX8_weighDemands_103 ?_
              refine w_grx (by have hq := zN b23x (by decide); show 8 * 0 + a46_3.toNatClampNeg < 16; omega) (fun m49 q49r h49x => ?_)
              have q49r : m49 = 8 * 0 + a46_3.toNatClampNeg := q49r
              have k49r : a46_3.toNatClampNeg = a46_3.toInt.toNat := rfl
              refine z_getI (pc := 104) C zf_X8_126 rfl rfl h49x dX8_weighDemands_104 ?_
              refine w_gp (fun v => v = g41 8 m49 2) rfl (fun v51 q51 => ?_)
              have b51x : zB v51 0 5 := by rw [q51]; exact (hI41 8 m49 2)
              refine z_aload_n (pc := 107) C dX8_weighDemands_107 rfl ?_
              refine z_getI (pc := 108) C zf_X8_73 rfl rfl h46_2 dX8_weighDemands_108 ?_
              refine w_gp (fun v => v = g41 12 m46_2 0) rfl (fun v53 q53 => ?_)
              have b53x : zB v53 0 5 := by rw [q53]; exact (hI41 12 m46_2 0)
              refine z_icmp_ne (pc := 111) 118 C dX8_weighDemands_111 (by decide) (fun h111_53 => ?_) (fun h111_53 => ?_)
              · skip
                refine z_iconst (pc := 118) (v := 0) C dX8_weighDemands_118 (by decide) ?_
                refine z_putZ (pc := 119) C zf_X8_167 zp_2_5 (z01 (zB.wk (a' := 0) (b' := 1) (zB.of (x := 0) 0 (by decide)) (by decide) (by decide))) rfl rfl h46_2 dX8_weighDemands_119 ?_
                refine w_memx hI41 hF41 (zB.wk (a' := 0) (b' := 1) (zB.of (x := 0) 0 (by decide)) (by decide) (by decide)) rfl (fun g55 qm55 hI55 hF55 hq55 hx55 => ?_)
                have ek55_1_0_6 : (g55 1 0 6).toInt = (g41 1 0 6).toInt := by rw [hq55 1 0 6 (by omega)]
                have c55_1_0_6x : zB (g55 1 0 6) 1 8 := by rw [hq55 1 0 6 (by omega)]; exact c41_1_0_6x
                have ek55_1_0_8 : (g55 1 0 8).toInt = (g41 1 0 8).toInt := by rw [hq55 1 0 8 (by omega)]
                have c55_1_0_8x : zB (g55 1 0 8) 1 8 := by rw [hq55 1 0 8 (by omega)]; exact c41_1_0_8x
                refine z_iinc (pc := 122) (v := 1) C dX8_weighDemands_122 rfl (by decide) (by rw [hn]; decide) rfl ?_
                obtain ⟨v56, hv56, e56⟩ : ∃ v : Int32, v = a46_3 + 1 ∧ v.toInt = a46_3.toInt + 1 := ⟨_, rfl, zadd_eb b23x (zB.of (x := 1) 1 (by decide)) (by decide) (by decide)⟩
                rw [← hv56]
                have b56x : zB v56 1 8 := by have q9 := b23x; constructor <;> omega
                refine z_goto (pc := 125) 46 C dX8_weighDemands_125 (by decide) ?_
                exact ih1 a46_1 b46_1 m46_2 h46_2 v56 (zB.wk (a' := 0) (b' := 8) b56x (by decide) (by decide)) g55 hI55 hF55 (zB.wk c55_1_0_6x (by decide) (by decide)) c55_1_0_8x (by
                                                                                          have hx := hR46_1.1
                                                                                          intro k hk
                                                                                          have hp := hR46_0 k hk
                                                                                          have e : ∀ j, g55 12 k j = g46_ 12 k j := fun j => by rw [qm55, zup_ne _ _ (by omega), qm41, zup_ne _ _ (by omega)]
                                                                                          rw [e, e, e]; exact hp) (by
                                                                                          obtain ⟨hx, i1, i2, i3⟩ := hR46_1
                                                                                          have hn : (v56).toInt.toNat = a46_3.toInt.toNat + 1 := by omega
                                                                                          have hi : a46_3 = nI a46_3.toInt.toNat := (nI_ofI (by omega)).1
                                                                                          have b8 : (f 1 0 6).toInt ≤ 8 := (hI 1 0 6).2
                                                                                          have k11 : ∀ q j, g46_ 11 q j = f 11 q j := fun q j => hF46_ 11 q j rfl
                                                                                          have k8 : ∀ n j, g46_ 8 n j = f 8 n j := fun n j => hF46_ 8 n j rfl
                                                                                          have k9 : ∀ n j, g46_ 9 n j = f 9 n j := fun n j => hF46_ 9 n j rfl
                                                                                          have k10 : ∀ n j, g46_ 10 n j = f 10 n j := fun n j => hF46_ 10 n j rfl
                                                                                          have k6 : ∀ n j, g46_ 6 n j = f 6 n j := fun n j => hF46_ 6 n j rfl
                                                                                          have k1 : ∀ j, g46_ 1 0 j = f 1 0 j := fun j => hF46_ 1 0 j rfl
                                                                                          have k12 : ∀ n j, j < 3 → g46_ 12 n j = f 12 n j := fun n j hj => by rcases (show j = 0 ∨ j = 1 ∨ j = 2 by omega) with rfl | rfl | rfl <;> exact hF46_ 12 n _ rfl
                                                                                          have r55 := q27
                                                                                          rw [hx, i1] at r55
                                                                                          have hb := zbt_bit (i := a46_3.toInt.toNat) r55 (by omega) (by omega)
                                                                                          have z := z01b (x := v27) (a := a46_3.toInt.toNat) (by omega)
                                                                                          rw [← hi, ← q28, ← q29] at z
                                                                                          have hyes : zdx f a46_1.toInt.toNat a46_3.toInt.toNat := by
                                                                                            refine hb.mp ?_
                                                                                            cases q : bt v27 a46_3.toInt.toNat
                                                                                            · rw [q, if_neg (by decide)] at z
                                                                                              exact absurd z (by assumption)
                                                                                            · rfl
                                                                                          have hx75 : m36 = a46_3.toInt.toNat := by omega
                                                                                          have r80 := q38
                                                                                          rw [hx, k12 _ 0 (by decide)] at r80
                                                                                          have r67 := q35
                                                                                          rw [hx, i2] at r67
                                                                                          have r83 : v39 = f 9 a46_3.toInt.toNat (f 12 a46_1.toInt.toNat 0).toInt.toNat := by
                                                                                            have h := q39
                                                                                            rw [hx75, k9, r80] at h
                                                                                            exact h
                                                                                          have g0 : ∀ a b c, ¬ (a = 12 ∧ b = a46_1.toInt.toNat ∧ c = 4) → g41 a b c = g46_ a b c := fun a b c h => by rw [qm41, hx]; exact zup_ne _ _ h
                                                                                          have r92 := q43
                                                                                          rw [g0 12 _ 5 (by omega), hx] at r92
                                                                                          rw [hn]
                                                                                          refine ⟨hx, ?_, ?_, ?_⟩
                                                                                          · rw [qm55, zup_ne _ _ (by omega), g0 12 _ 3 (by omega)]; exact i1
                                                                                          · rw [qm55, zup_ne _ _ (by omega), qm41, hx, zup_same, zyg, if_pos hyes, q40, r67, r83]
                                                                                          · rw [qm55, hx, zup_same]
                                                                                            have y2 := zbo_n i3 (by rw [← r92]; omega)
                                                                                            have hx103 : m49 = a46_3.toInt.toNat := by omega
                                                                                            have r104 := q51
                                                                                            rw [hx103, g0 8 _ 2 (by omega), k8] at r104
                                                                                            have r108 := q53
                                                                                            rw [g0 12 _ 0 (by omega), hx, k12 _ 0 (by decide)] at r108
                                                                                            first
                                                                                              | exact Or.inl ⟨rfl, zHx_s.mpr (Or.inr ⟨hyes, by rw [← r104, ← r108]; assumption⟩)⟩
                                                                                              | exact Or.inr ⟨rfl, fun h => (zHx_s.mp h).elim y2 (fun h2 => absurd (show v51 = v53 by rw [r104, r108]; exact h2.2) (by assumption))⟩) (by omega) (by omega) (by omega) (by omega) (by omega)
              · skip
                have rr57 : v51.toInt = v53.toInt := by simp only [z32lt, z32le, z32eq] at h111_53; omega
                refine z_iconst (pc := 114) (v := 1) C dX8_weighDemands_114 (by decide) ?_
                refine z_goto (pc := 115) 119 C dX8_weighDemands_115 (by decide) ?_
                refine z_putZ (pc := 119) C zf_X8_167 zp_2_5 (z01 (zB.wk (a' := 0) (b' := 1) (zB.of (x := 1) 1 (by decide)) (by decide) (by decide))) rfl rfl h46_2 dX8_weighDemands_119 ?_
                refine w_memx hI41 hF41 (zB.wk (a' := 0) (b' := 1) (zB.of (x := 1) 1 (by decide)) (by decide) (by decide)) rfl (fun g58 qm58 hI58 hF58 hq58 hx58 => ?_)
                have ek58_1_0_6 : (g58 1 0 6).toInt = (g41 1 0 6).toInt := by rw [hq58 1 0 6 (by omega)]
                have c58_1_0_6x : zB (g58 1 0 6) 1 8 := by rw [hq58 1 0 6 (by omega)]; exact c41_1_0_6x
                have ek58_1_0_8 : (g58 1 0 8).toInt = (g41 1 0 8).toInt := by rw [hq58 1 0 8 (by omega)]
                have c58_1_0_8x : zB (g58 1 0 8) 1 8 := by rw [hq58 1 0 8 (by omega)]; exact c41_1_0_8x
                refine z_iinc (pc := 122) (v := 1) C dX8_weighDemands_122 rfl (by decide) (by rw [hn]; decide) rfl ?_
                obtain ⟨v59, hv59, e59⟩ : ∃ v : Int32, v = a46_3 + 1 ∧ v.toInt = a46_3.toInt + 1 := ⟨_, rfl, zadd_eb b23x (zB.of (x := 1) 1 (by decide)) (by decide) (by decide)⟩
                rw [← hv59]
                have b59x : zB v59 1 8 := by have q9 := b23x; constructor <;> omega
                refine z_goto (pc := 125) 46 C dX8_weighDemands_125 (by decide) ?_
                exact ih1 a46_1 b46_1 m46_2 h46_2 v59 (zB.wk (a' := 0) (b' := 8) b59x (by decide) (by decide)) g58 hI58 hF58 (zB.wk c58_1_0_6x (by decide) (by decide)) c58_1_0_8x (by
                                                                                          have hx := hR46_1.1
                                                                                          intro k hk
                                                                                          have hp := hR46_0 k hk
                                                                                          have e : ∀ j, g58 12 k j = g46_ 12 k j := fun j => by rw [qm58, zup_ne _ _ (by omega), qm41, zup_ne _ _ (by omega)]
                                                                                          rw [e, e, e]; exact hp) (by
                                                                                          obtain ⟨hx, i1, i2, i3⟩ := hR46_1
                                                                                          have hn : (v59).toInt.toNat = a46_3.toInt.toNat + 1 := by omega
                                                                                          have hi : a46_3 = nI a46_3.toInt.toNat := (nI_ofI (by omega)).1
                                                                                          have b8 : (f 1 0 6).toInt ≤ 8 := (hI 1 0 6).2
                                                                                          have k11 : ∀ q j, g46_ 11 q j = f 11 q j := fun q j => hF46_ 11 q j rfl
                                                                                          have k8 : ∀ n j, g46_ 8 n j = f 8 n j := fun n j => hF46_ 8 n j rfl
                                                                                          have k9 : ∀ n j, g46_ 9 n j = f 9 n j := fun n j => hF46_ 9 n j rfl
                                                                                          have k10 : ∀ n j, g46_ 10 n j = f 10 n j := fun n j => hF46_ 10 n j rfl
                                                                                          have k6 : ∀ n j, g46_ 6 n j = f 6 n j := fun n j => hF46_ 6 n j rfl
                                                                                          have k1 : ∀ j, g46_ 1 0 j = f 1 0 j := fun j => hF46_ 1 0 j rfl
                                                                                          have k12 : ∀ n j, j < 3 → g46_ 12 n j = f 12 n j := fun n j hj => by rcases (show j = 0 ∨ j = 1 ∨ j = 2 by omega) with rfl | rfl | rfl <;> exact hF46_ 12 n _ rfl
                                                                                          have r55 := q27
                                                                                          rw [hx, i1] at r55
                                                                                          have hb := zbt_bit (i := a46_3.toInt.toNat) r55 (by omega) (by omega)
                                                                                          have z := z01b (x := v27) (a := a46_3.toInt.toNat) (by omega)
                                                                                          rw [← hi, ← q28, ← q29] at z
                                                                                          have hyes : zdx f a46_1.toInt.toNat a46_3.toInt.toNat := by
                                                                                            refine hb.mp ?_
                                                                                            cases q : bt v27 a46_3.toInt.toNat
                                                                                            · rw [q, if_neg (by decide)] at z
                                                                                              exact absurd z (by assumption)
                                                                                            · rfl
                                                                                          have hx75 : m36 = a46_3.toInt.toNat := by omega
                                                                                          have r80 := q38
                                                                                          rw [hx, k12 _ 0 (by decide)] at r80
                                                                                          have r67 := q35
                                                                                          rw [hx, i2] at r67
                                                                                          have r83 : v39 = f 9 a46_3.toInt.toNat (f 12 a46_1.toInt.toNat 0).toInt.toNat := by
                                                                                            have h := q39
                                                                                            rw [hx75, k9, r80] at h
                                                                                            exact h
                                                                                          have g0 : ∀ a b c, ¬ (a = 12 ∧ b = a46_1.toInt.toNat ∧ c = 4) → g41 a b c = g46_ a b c := fun a b c h => by rw [qm41, hx]; exact zup_ne _ _ h
                                                                                          have r92 := q43
                                                                                          rw [g0 12 _ 5 (by omega), hx] at r92
                                                                                          rw [hn]
                                                                                          refine ⟨hx, ?_, ?_, ?_⟩
                                                                                          · rw [qm58, zup_ne _ _ (by omega), g0 12 _ 3 (by omega)]; exact i1
                                                                                          · rw [qm58, zup_ne _ _ (by omega), qm41, hx, zup_same, zyg, if_pos hyes, q40, r67, r83]
                                                                                          · rw [qm58, hx, zup_same]
                                                                                            have y2 := zbo_n i3 (by rw [← r92]; omega)
                                                                                            have hx103 : m49 = a46_3.toInt.toNat := by omega
                                                                                            have r104 := q51
                                                                                            rw [hx103, g0 8 _ 2 (by omega), k8] at r104
                                                                                            have r108 := q53
                                                                                            rw [g0 12 _ 0 (by omega), hx, k12 _ 0 (by decide)] at r108
                                                                                            first
                                                                                              | exact Or.inl ⟨rfl, zHx_s.mpr (Or.inr ⟨hyes, by rw [← r104, ← r108]; assumption⟩)⟩
                                                                                              | exact Or.inr ⟨rfl, fun h => (zHx_s.mp h).elim y2 (fun h2 => absurd (show v51 = v53 by rw [r104, r108]; exact h2.2) (by assumption))⟩) (by omega) (by omega) (by omega) (by omega) (by omega)
  obtain ⟨J0, J1⟩ := J 409
  show Z X 0 [some (zr 1 0), none, none, none] [] f
  refine z_iconst (pc := 0) (v := 0) C dX8_weighDemands_0 (by decide) ?_
  refine z_istore_n (pc := 1) C dX8_weighDemands_1 (by rw [hn]; decide) rfl ?_
  exact J0 0 (zB.wk (a' := 0) (b' := 8) (zB.of (x := 0) 0 (by decide)) (by decide) (by decide)) f hI hF ct1_0_6 ct1_0_8 (by intro k hk; exact absurd hk (Nat.not_lt_zero k)) (by have qc0 : (0 : Int32).toInt = 0 := (by decide); omega) (by have qc0 : (0 : Int32).toInt = 0 := (by decide); omega) (by have qc0 : (0 : Int32).toInt = 0 := (by decide); omega) (by have qc0 : (0 : Int32).toInt = 0 := (by decide); omega)

set_option maxRecDepth 100000 in
set_option maxHeartbeats 4000000 in
theorem x_X2_order (d : Nat) (f : zM) (m0 : Nat) (h0 : m0 < zcnt 12) (m1 : Nat) (h1 : m1 < zcnt 12) (hI : zInv f) : ZM d yX2_order cX2_order 2 (some .int) [zr 12 m0, zr 12 m1] f (fun r g => (∃ v, r = some (zi v) ∧ zB v (-99) 99) ∧ zInv g ∧ zFr [] f g ∧ (∀ v : Int32, r = some (zi v) → (¬ f 12 m0 4 = f 12 m1 4 ∧ v.toInt = (f 12 m1 4).toInt - (f 12 m0 4).toInt) ∨ (f 12 m0 4 = f 12 m1 4 ∧ ¬ f 12 m0 5 = f 12 m1 5 ∧ ((¬ f 12 m0 5 = 0 ∧ v.toInt = -1) ∨ (f 12 m0 5 = 0 ∧ v.toInt = 1))) ∨ (f 12 m0 4 = f 12 m1 4 ∧ f 12 m0 5 = f 12 m1 5 ∧ v.toInt = (f 12 m0 2).toInt - (f 12 m1 2).toInt))) := by
  refine ZM.intro (by decide +kernel) (Nat.le_of_ble_eq_true rfl) ?_
  intro X C hr hn
  have hF : zFr [] f f := zFr.rf _ _
  show Z X 0 [some (zr 12 m0), some (zr 12 m1)] [] f
  refine z_aload_n (pc := 0) C dX2_order_0 rfl ?_
  refine z_getI (pc := 1) C zf_X2_19 rfl rfl h0 dX2_order_1 ?_
  refine w_gp (fun v => v = f 12 m0 4) rfl (fun v2 q2 => ?_)
  have b2x : zB v2 0 40 := by rw [q2]; exact (hI 12 m0 4)
  refine z_aload_n (pc := 4) C dX2_order_4 rfl ?_
  refine z_getI (pc := 5) C zf_X2_19 rfl rfl h1 dX2_order_5 ?_
  refine w_gp (fun v => v = f 12 m1 4) rfl (fun v4 q4 => ?_)
  have b4x : zB v4 0 40 := by rw [q4]; exact (hI 12 m1 4)
  refine z_icmp_eq (pc := 8) 21 C dX2_order_8 (by decide) (fun h8_4 => ?_) (fun h8_4 => ?_)
  · skip
    have rr6 : v2.toInt = v4.toInt := by simp only [z32lt, z32le, z32eq] at h8_4; omega
    refine z_aload_n (pc := 21) C dX2_order_21 rfl ?_
    refine z_getI (pc := 22) C zf_X2_22 rfl rfl h0 dX2_order_22 ?_
    refine w_gp (fun v => v = f 12 m0 5) rfl (fun v8 q8 => ?_)
    have b8x : zB v8 0 1 := by rw [q8]; exact (hI 12 m0 5)
    refine z_aload_n (pc := 25) C dX2_order_25 rfl ?_
    refine z_getI (pc := 26) C zf_X2_22 rfl rfl h1 dX2_order_26 ?_
    refine w_gp (fun v => v = f 12 m1 5) rfl (fun v10 q10 => ?_)
    have b10x : zB v10 0 1 := by rw [q10]; exact (hI 12 m1 5)
    refine z_icmp_eq (pc := 29) 45 C dX2_order_29 (by decide) (fun h29_10 => ?_) (fun h29_10 => ?_)
    · skip
      have rr12 : v8.toInt = v10.toInt := by simp only [z32lt, z32le, z32eq] at h29_10; omega
      refine z_aload_n (pc := 45) C dX2_order_45 rfl ?_
      refine z_getI (pc := 46) C zf_X2_16 rfl rfl h0 dX2_order_46 ?_
      refine w_gp (fun v => v = f 12 m0 2) rfl (fun v14 q14 => ?_)
      have b14x : zB v14 0 99 := by rw [q14]; exact (hI 12 m0 2)
      refine z_aload_n (pc := 49) C dX2_order_49 rfl ?_
      refine z_getI (pc := 50) C zf_X2_16 rfl rfl h1 dX2_order_50 ?_
      refine w_gp (fun v => v = f 12 m1 2) rfl (fun v16 q16 => ?_)
      have b16x : zB v16 0 99 := by rw [q16]; exact (hI 12 m1 2)
      refine z_isub (pc := 53) C dX2_order_53 ?_
      refine w_gp (fun v => v = v14 - v16) rfl (fun v17 q17 => ?_)
      have e17 : v17.toInt = v14.toInt - v16.toInt := by rw [q17]; exact (zsub_eb b14x b16x (by decide) (by decide))
      have b17x : zB v17 (-99) 99 := by have q1 := b14x; have q2 := b16x; constructor <;> omega
      exact z_iret (pc := 54) C hr dX2_order_54 ⟨⟨_, rfl, b17x⟩, hI, hF, (by
                                                                                          intro v hv; cases hv
                                                                                          have r1 := q2
                                                                                          have r5 := q4
                                                                                          have r22 := q8
                                                                                          have r26 := q10
                                                                                          have hy : f 12 m0 4 = f 12 m1 4 := r1.symm.trans ((show v2 = v4 by assumption).trans r5)
                                                                                          have r46 := q14
                                                                                          have r50 := q16
                                                                                          exact Or.inr (Or.inr ⟨hy, r22.symm.trans ((show v8 = v10 by assumption).trans r26), by rw [← r46, ← r50]; omega⟩))⟩
    · skip
      refine z_aload_n (pc := 32) C dX2_order_32 rfl ?_
      refine z_getI (pc := 33) C zf_X2_22 rfl rfl h0 dX2_order_33 ?_
      refine w_gp (fun v => v = f 12 m0 5) rfl (fun v19 q19 => ?_)
      have b19x : zB v19 0 1 := by rw [q19]; exact (hI 12 m0 5)
      refine z_if_eq (pc := 36) 43 C dX2_order_36 (by decide) (fun h36_19 => ?_) (fun h36_19 => ?_)
      · skip
        have b21x : zB v19 0 0 := by have q1 := b19x; have q2 := (zB.of (x := 0) 0 (by decide)); simp only [z32lt, z32le, z32eq, Int32.reduceToInt, Int32.toInt_zero] at h36_19; constructor <;> omega
        refine z_iconst (pc := 43) (v := 1) C dX2_order_43 (by decide) ?_
        exact z_iret (pc := 44) C hr dX2_order_44 ⟨⟨_, rfl, (zB.wk (a' := (-99)) (b' := 99) (zB.of (x := 1) 1 (by decide)) (by decide) (by decide))⟩, hI, hF, (by
                                                                                          intro v hv; cases hv
                                                                                          have r1 := q2
                                                                                          have r5 := q4
                                                                                          have r22 := q8
                                                                                          have r26 := q10
                                                                                          have hy : f 12 m0 4 = f 12 m1 4 := r1.symm.trans ((show v2 = v4 by assumption).trans r5)
                                                                                          have r33 := q19
                                                                                          refine Or.inr (Or.inl ⟨hy, fun h => absurd (r22.trans (h.trans r26.symm)) (by assumption), ?_⟩)
                                                                                          first
                                                                                            | exact Or.inl ⟨by rw [← r33]; assumption, by decide⟩
                                                                                            | exact Or.inr ⟨by rw [← r33]; assumption, by decide⟩)⟩
      · skip
        have b22x : zB v19 1 1 := by have q1 := b19x; have q2 := (zB.of (x := 0) 0 (by decide)); simp only [z32lt, z32le, z32eq, Int32.reduceToInt, Int32.toInt_zero] at h36_19; constructor <;> omega
        refine z_iconst (pc := 39) (v := -1) C dX2_order_39 (by decide) ?_
        refine z_goto (pc := 40) 44 C dX2_order_40 (by decide) ?_
        exact z_iret (pc := 44) C hr dX2_order_44 ⟨⟨_, rfl, (zB.wk (a' := (-99)) (b' := 99) (zB.of (x := (-1)) (-1) (by decide)) (by decide) (by decide))⟩, hI, hF, (by
                                                                                          intro v hv; cases hv
                                                                                          have r1 := q2
                                                                                          have r5 := q4
                                                                                          have r22 := q8
                                                                                          have r26 := q10
                                                                                          have hy : f 12 m0 4 = f 12 m1 4 := r1.symm.trans ((show v2 = v4 by assumption).trans r5)
                                                                                          have r33 := q19
                                                                                          refine Or.inr (Or.inl ⟨hy, fun h => absurd (r22.trans (h.trans r26.symm)) (by assumption), ?_⟩)
                                                                                          first
                                                                                            | exact Or.inl ⟨by rw [← r33]; assumption, by decide⟩
                                                                                            | exact Or.inr ⟨by rw [← r33]; assumption, by decide⟩)⟩
  · skip
    refine z_aload_n (pc := 11) C dX2_order_11 rfl ?_
    refine z_getI (pc := 12) C zf_X2_19 rfl rfl h1 dX2_order_12 ?_
    refine w_gp (fun v => v = f 12 m1 4) rfl (fun v24 q24 => ?_)
    have b24x : zB v24 0 40 := by rw [q24]; exact (hI 12 m1 4)
    refine z_aload_n (pc := 15) C dX2_order_15 rfl ?_
    refine z_getI (pc := 16) C zf_X2_19 rfl rfl h0 dX2_order_16 ?_
    refine w_gp (fun v => v = f 12 m0 4) rfl (fun v26 q26 => ?_)
    have b26x : zB v26 0 40 := by rw [q26]; exact (hI 12 m0 4)
    refine z_isub (pc := 19) C dX2_order_19 ?_
    refine w_gp (fun v => v = v24 - v26) rfl (fun v27 q27 => ?_)
    have e27 : v27.toInt = v24.toInt - v26.toInt := by rw [q27]; exact (zsub_eb b24x b26x (by decide) (by decide))
    have b27x : zB v27 (-40) 40 := by have q1 := b24x; have q2 := b26x; constructor <;> omega
    exact z_iret (pc := 20) C hr dX2_order_20 ⟨⟨_, rfl, (zB.wk (a' := (-99)) (b' := 99) b27x (by decide) (by decide))⟩, hI, hF, (by
                                                                                          intro v hv; cases hv
                                                                                          have r1 := q2
                                                                                          have r5 := q4
                                                                                          have r12 := q24
                                                                                          have r16 := q26
                                                                                          exact Or.inl ⟨fun h => absurd (r1.trans (h.trans r5.symm)) (by assumption), by rw [← r12, ← r16]; omega⟩)⟩

theorem zord {f : zM} {a b : Nat} {v : Int32} (hI : zInv f) (h : (¬ f 12 a 4 = f 12 b 4 ∧ v.toInt = (f 12 b 4).toInt - (f 12 a 4).toInt) ∨ (f 12 a 4 = f 12 b 4 ∧ ¬ f 12 a 5 = f 12 b 5 ∧ ((¬ f 12 a 5 = 0 ∧ v.toInt = -1) ∨ (f 12 a 5 = 0 ∧ v.toInt = 1))) ∨ (f 12 a 4 = f 12 b 4 ∧ f 12 a 5 = f 12 b 5 ∧ v.toInt = (f 12 a 2).toInt - (f 12 b 2).toInt)) : (v.toInt < 0 ∨ (v.toInt = 0 ∧ a < b)) ↔ zah (fun k => f 12 k 4) (fun k => ¬ f 12 k 5 = 0) (fun k => f 12 k 2) a b := by
  have ba : 0 ≤ (f 12 a 5).toInt ∧ (f 12 a 5).toInt ≤ 1 := hI 12 a 5
  have bb : 0 ≤ (f 12 b 5).toInt ∧ (f 12 b 5).toInt ≤ 1 := hI 12 b 5
  have c0 : (0 : Int32).toInt = 0 := by decide
  unfold zah
  simp only [z32eq, c0] at h ⊢
  omega

set_option maxRecDepth 100000 in
set_option maxHeartbeats 4000000 in
theorem x_X8_placeOf (d : Nat) (f : zM) (a1 : Int32) (b1 : zB a1 0 7) (hI : zInv f) : ZM (d + 1) yX8_placeOf cX8_placeOf 5 (some .int) [zr 1 0, zi a1] f (fun r g => (∃ v, r = some (zi v) ∧ zB v 0 8) ∧ zInv g ∧ zFr [] f g ∧ (∀ v : Int32, r = some (zi v) → v.toInt = (zct (fun i => ¬ f 12 i 3 = 0 ∧ zah (fun k => f 12 k 4) (fun k => ¬ f 12 k 5 = 0) (fun k => f 12 k 2) i a1.toInt.toNat) (f 1 0 8).toInt.toNat : Int))) := by
  refine ZM.intro (by decide +kernel) (Nat.le_of_ble_eq_true rfl) ?_
  intro X C hr hn
  have hF : zFr [] f f := zFr.rf _ _
  have ct1_0_8 : zB (f 1 0 8) 0 8 := hI 1 0 8
  have J : ∀ t : Nat, (∀ a4_2 : Int32, zB a4_2 0 8 → ∀ a4_3 : Int32, zB a4_3 0 8 → ∀ g : zM, zInv g → zFr [] f g → zB (g 1 0 8) 0 8 → (g = f) → (a4_2.toInt = (zct (fun i => ¬ f 12 i 3 = 0 ∧ zah (fun k => f 12 k 4) (fun k => ¬ f 12 k 5 = 0) (fun k => f 12 k 2) i a1.toInt.toNat) a4_3.toInt.toNat : Int)) → (a4_2.toInt ≤ a4_3.toInt) → (a4_3.toInt ≤ (f 1 0 8).toInt) → ((g 1 0 8).toInt = (f 1 0 8).toInt) → (0 + 3 * (8 - a4_3.toInt) : Int) < t → Z X 4 [some (zr 1 0), some (zi a1), some (zi a4_2), some (zi a4_3), none] [] g) := by
    intro t
    induction t with
    | zero =>
      intros; exfalso; omega
    | succ t ih =>
      have ih0 := ih
      intro a4_2 b4_2 a4_3 b4_3 g4_ hI4_ hF4_ f4_1_0_8 hR4_0 hR4_1 hR4_2 hR4_3 hR4_4 hM4_
      refine z_iload_n (pc := 4) C dX8_placeOf_4 rfl ?_
      refine z_aload_n (pc := 5) C dX8_placeOf_5 rfl ?_
      refine z_getI (pc := 6) C zf_X8_70 rfl rfl (by decide) dX8_placeOf_6 ?_
      refine w_gp (fun v => v = g4_ 1 0 8) rfl (fun v1 q1 => ?_)
      have e1 : v1.toInt = (g4_ 1 0 8).toInt := by rw [q1]
      have b1x : zB v1 0 8 := by first | exact zB.eqv e1 f4_1_0_8 | (have q9 := f4_1_0_8; constructor <;> omega)
      refine z_icmp_ge (pc := 9) 70 C dX8_placeOf_9 (by decide) (fun h9_1 => ?_) (fun h9_1 => ?_)
      · skip
        have rr3 : a4_3.toInt ≥ v1.toInt := by simp only [z32lt, z32le, z32eq] at h9_1; omega
        refine z_iload_n (pc := 70) C dX8_placeOf_70 rfl ?_
        exact z_iret (pc := 71) C hr dX8_placeOf_71 ⟨⟨_, rfl, b4_2⟩, hI4_, hF4_, (by
                                                                                          intro v hv; cases hv
                                                                                          have hn : (f 1 0 8).toInt.toNat = a4_3.toInt.toNat := by omega
                                                                                          rw [hn]; exact hR4_1)⟩
      · skip
        have rr4 : a4_3.toInt < v1.toInt := by simp only [z32lt, z32le, z32eq] at h9_1; omega
        have b5x : zB a4_3 0 7 := by have q1 := b4_3; have q2 := b1x; simp only [z32lt, z32le, z32eq, Int32.reduceToInt, Int32.toInt_zero] at h9_1; constructor <;> omega
        have b6x : zB v1 1 8 := by have q1 := b4_3; have q2 := b1x; simp only [z32lt, z32le, z32eq, Int32.reduceToInt, Int32.toInt_zero] at h9_1; constructor <;> omega
        have c7x : zB (g4_ 1 0 8) 1 8 := by first | assumption | (constructor <;> omega)
        refine z_aload_n (pc := 12) C dX8_placeOf_12 rfl ?_
        refine z_getR (pc := 13) C zf_X8_31 rfl rfl (by decide) dX8_placeOf_13 ?_
        refine z_iload_n (pc := 16) C dX8_placeOf_16 rfl ?_
        refine z_aald (pc := 17) C rfl ⟨rfl, by decide⟩ (by decide) (zIx b5x (by decide) (by decide)) dX8_placeOf_17 ?_
        refine w_grx (by have hq := zN b5x (by decide); show 8 * 0 + a4_3.toNatClampNeg < 16; omega) (fun m8 q8r h8x => ?_)
        have q8r : m8 = 8 * 0 + a4_3.toNatClampNeg := q8r
        have k8r : a4_3.toNatClampNeg = a4_3.toInt.toNat := rfl
        refine z_aload_n (pc := 18) C dX8_placeOf_18 rfl ?_
        refine z_getR (pc := 19) C zf_X8_31 rfl rfl (by decide) dX8_placeOf_19 ?_
        refine z_iload_n (pc := 22) C dX8_placeOf_22 rfl ?_
        refine z_aald (pc := 23) C rfl ⟨rfl, by decide⟩ (by decide) (zIx b1 (by decide) (by decide)) dX8_placeOf_23 ?_
        refine w_grx (by have hq := zN b1 (by decide); show 8 * 0 + a1.toNatClampNeg < 16; omega) (fun m9 q9r h9x => ?_)
        have q9r : m9 = 8 * 0 + a1.toNatClampNeg := q9r
        have k9r : a1.toNatClampNeg = a1.toInt.toNat := rfl
        refine z_callV (pc := 24) C zk_X8_184 (x_X2_order _ _ m8 h8x m9 h9x hI4_) rfl rfl h8x rfl rfl (Nat.le_of_ble_eq_true rfl) dX8_placeOf_24 (fun r10 g10 q10 => ?_)
        obtain ⟨⟨v10, rfl, b10x⟩, hI10, hF10q, hp10_0⟩ := q10
        have hp10_0 := hp10_0 _ rfl
        obtain rfl := zFr_nil hF10q
        simp only [Option.toList, List.cons_append, List.nil_append]
        refine z_istore (pc := 27) C dX8_placeOf_27 (by rw [hn]; decide) rfl ?_
        refine z_iload_n (pc := 29) C dX8_placeOf_29 rfl ?_
        refine z_aload_n (pc := 30) C dX8_placeOf_30 rfl ?_
        refine z_getR (pc := 31) C zf_X8_31 rfl rfl (by decide) dX8_placeOf_31 ?_
        refine z_iload_n (pc := 34) C dX8_placeOf_34 rfl ?_
        refine z_aald (pc := 35) C rfl ⟨rfl, by decide⟩ (by decide) (zIx b5x (by decide) (by decide)) dX8_placeOf_35 ?_
        refine w_grx (by have hq := zN b5x (by decide); show 8 * 0 + a4_3.toNatClampNeg < 16; omega) (fun m11 q11r h11x => ?_)
        have q11r : m11 = 8 * 0 + a4_3.toNatClampNeg := q11r
        have k11r : a4_3.toNatClampNeg = a4_3.toInt.toNat := rfl
        refine z_getI (pc := 36) C zf_X8_161 rfl rfl h11x dX8_placeOf_36 ?_
        refine w_gp (fun v => v = g4_ 12 m11 3) rfl (fun v13 q13 => ?_)
        have b13x : zB v13 0 255 := by rw [q13]; exact (hI4_ 12 m11 3)
        refine z_if_eq (pc := 39) 61 C dX8_placeOf_39 (by decide) (fun h39_13 => ?_) (fun h39_13 => ?_)
        · skip
          have b15x : zB v13 0 0 := by have q1 := b13x; have q2 := (zB.of (x := 0) 0 (by decide)); simp only [z32lt, z32le, z32eq, Int32.reduceToInt, Int32.toInt_zero] at h39_13; constructor <;> omega
          refine z_iconst (pc := 61) (v := 0) C dX8_placeOf_61 (by decide) ?_
          refine z_iadd (pc := 62) C dX8_placeOf_62 ?_
          refine w_gp (fun v => v = a4_2 + (0 : Int32)) rfl (fun v16 q16 => ?_)
          have e16 : v16.toInt = a4_2.toInt + 0 := by rw [q16]; exact (zadd_eb b4_2 (zB.of (x := 0) 0 (by decide)) (by decide) (by decide))
          have b16x : zB v16 0 8 := by have q1 := b4_2; have q2 := (zB.of (x := 0) 0 (by decide)); constructor <;> omega
          refine z_istore_n (pc := 63) C dX8_placeOf_63 (by rw [hn]; decide) rfl ?_
          refine z_iinc (pc := 64) (v := 1) C dX8_placeOf_64 rfl (by decide) (by rw [hn]; decide) rfl ?_
          obtain ⟨v17, hv17, e17⟩ : ∃ v : Int32, v = a4_3 + 1 ∧ v.toInt = a4_3.toInt + 1 := ⟨_, rfl, zadd_eb b5x (zB.of (x := 1) 1 (by decide)) (by decide) (by decide)⟩
          rw [← hv17]
          have b17x : zB v17 1 8 := by first | exact zB.eqv e17 b5x | (have q9 := b5x; constructor <;> omega)
          refine z_goto (pc := 67) 4 C dX8_placeOf_67 (by decide) ?_
          refine w_mask [4] ?_
          exact ih0 v16 b16x v17 (zB.wk (a' := 0) (b' := 8) b17x (by decide) (by decide)) g4_ hI4_ hF4_ (zB.wk c7x (by decide) (by decide)) (by exact hR4_0) (by
                                                                                          have hn : (v17).toInt.toNat = a4_3.toInt.toNat + 1 := by omega
                                                                                          have x17 : m8 = a4_3.toInt.toNat := by omega
                                                                                          have x23 : m9 = a1.toInt.toNat := by omega
                                                                                          have x35 : m11 = a4_3.toInt.toNat := by omega
                                                                                          have ho := hp10_0
                                                                                          rw [x17, x23, hR4_0] at ho
                                                                                          have hz := zord hI ho
                                                                                          have r36 := q13
                                                                                          rw [x35, hR4_0] at r36
                                                                                          rw [hn]
                                                                                          rw [zct_n (fun h => by
                                                                                            first
                                                                                              | exact h.1 (by rw [← r36]; assumption)
                                                                                              | (have h2 := hz.mpr h.2; omega))]
                                                                                          omega) (by omega) (by omega) (by omega) (by omega)
        · skip
          have b18x : zB v13 1 255 := by have q1 := b13x; have q2 := (zB.of (x := 0) 0 (by decide)); simp only [z32lt, z32le, z32eq, Int32.reduceToInt, Int32.toInt_zero] at h39_13; constructor <;> omega
          refine z_iload (pc := 42) C dX8_placeOf_42 rfl ?_
          refine z_if_lt (pc := 44) 57 C dX8_placeOf_44 (by decide) (fun h44_18 => ?_) (fun h44_18 => ?_)
          · skip
            have b20x : zB v10 (-99) (-1) := by have q1 := b10x; have q2 := (zB.of (x := 0) 0 (by decide)); simp only [z32lt, z32le, z32eq, Int32.reduceToInt, Int32.toInt_zero] at h44_18; constructor <;> omega
            refine z_iconst (pc := 57) (v := 1) C dX8_placeOf_57 (by decide) ?_
            refine z_goto (pc := 58) 62 C dX8_placeOf_58 (by decide) ?_
            refine z_iadd (pc := 62) C dX8_placeOf_62 ?_
            refine w_gp (fun v => v = a4_2 + (1 : Int32)) rfl (fun v21 q21 => ?_)
            have e21 : v21.toInt = a4_2.toInt + 1 := by rw [q21]; exact (zadd_eb b4_2 (zB.of (x := 1) 1 (by decide)) (by decide) (by decide))
            have b21x : zB v21 1 9 := by have q1 := b4_2; have q2 := (zB.of (x := 1) 1 (by decide)); constructor <;> omega
            refine z_istore_n (pc := 63) C dX8_placeOf_63 (by rw [hn]; decide) rfl ?_
            refine z_iinc (pc := 64) (v := 1) C dX8_placeOf_64 rfl (by decide) (by rw [hn]; decide) rfl ?_
            obtain ⟨v22, hv22, e22⟩ : ∃ v : Int32, v = a4_3 + 1 ∧ v.toInt = a4_3.toInt + 1 := ⟨_, rfl, zadd_eb b5x (zB.of (x := 1) 1 (by decide)) (by decide) (by decide)⟩
            rw [← hv22]
            have b22x : zB v22 1 8 := by have q9 := b5x; constructor <;> omega
            refine z_goto (pc := 67) 4 C dX8_placeOf_67 (by decide) ?_
            refine w_mask [4] ?_
            exact ih0 v21 (by constructor <;> omega) v22 (zB.wk (a' := 0) (b' := 8) b22x (by decide) (by decide)) g4_ hI4_ hF4_ (zB.wk c7x (by decide) (by decide)) (by exact hR4_0) (by
                                                                                          have hn : (v22).toInt.toNat = a4_3.toInt.toNat + 1 := by omega
                                                                                          have x17 : m8 = a4_3.toInt.toNat := by omega
                                                                                          have x23 : m9 = a1.toInt.toNat := by omega
                                                                                          have x35 : m11 = a4_3.toInt.toNat := by omega
                                                                                          have ho := hp10_0
                                                                                          rw [x17, x23, hR4_0] at ho
                                                                                          have hz := zord hI ho
                                                                                          have r36 := q13
                                                                                          rw [x35, hR4_0] at r36
                                                                                          rw [hn]
                                                                                          rw [zct_y ⟨by rw [← r36]; assumption, hz.mp (by omega)⟩]
                                                                                          omega) (by omega) (by omega) (by omega) (by omega)
          · skip
            have b23x : zB v10 0 99 := by have q1 := b10x; have q2 := (zB.of (x := 0) 0 (by decide)); simp only [z32lt, z32le, z32eq, Int32.reduceToInt, Int32.toInt_zero] at h44_18; constructor <;> omega
            refine z_iload (pc := 47) C dX8_placeOf_47 rfl ?_
            refine z_if_ne (pc := 49) 61 C dX8_placeOf_49 (by decide) (fun h49_23 => ?_) (fun h49_23 => ?_)
            · skip
              have b25x : zB v10 1 99 := by have q1 := b23x; have q2 := (zB.of (x := 0) 0 (by decide)); simp only [z32lt, z32le, z32eq, Int32.reduceToInt, Int32.toInt_zero] at h49_23; constructor <;> omega
              refine z_iconst (pc := 61) (v := 0) C dX8_placeOf_61 (by decide) ?_
              refine z_iadd (pc := 62) C dX8_placeOf_62 ?_
              refine w_gp (fun v => v = a4_2 + (0 : Int32)) rfl (fun v26 q26 => ?_)
              have e26 : v26.toInt = a4_2.toInt + 0 := by rw [q26]; exact (zadd_eb b4_2 (zB.of (x := 0) 0 (by decide)) (by decide) (by decide))
              have b26x : zB v26 0 8 := by have q1 := b4_2; have q2 := (zB.of (x := 0) 0 (by decide)); constructor <;> omega
              refine z_istore_n (pc := 63) C dX8_placeOf_63 (by rw [hn]; decide) rfl ?_
              refine z_iinc (pc := 64) (v := 1) C dX8_placeOf_64 rfl (by decide) (by rw [hn]; decide) rfl ?_
              obtain ⟨v27, hv27, e27⟩ : ∃ v : Int32, v = a4_3 + 1 ∧ v.toInt = a4_3.toInt + 1 := ⟨_, rfl, zadd_eb b5x (zB.of (x := 1) 1 (by decide)) (by decide) (by decide)⟩
              rw [← hv27]
              have b27x : zB v27 1 8 := by first | exact zB.eqv e27 b5x | (have q9 := b5x; constructor <;> omega)
              refine z_goto (pc := 67) 4 C dX8_placeOf_67 (by decide) ?_
              refine w_mask [4] ?_
              exact ih0 v26 b26x v27 (zB.wk (a' := 0) (b' := 8) b27x (by decide) (by decide)) g4_ hI4_ hF4_ (zB.wk c7x (by decide) (by decide)) (by exact hR4_0) (by
                                                                                          have hn : (v27).toInt.toNat = a4_3.toInt.toNat + 1 := by omega
                                                                                          have x17 : m8 = a4_3.toInt.toNat := by omega
                                                                                          have x23 : m9 = a1.toInt.toNat := by omega
                                                                                          have x35 : m11 = a4_3.toInt.toNat := by omega
                                                                                          have ho := hp10_0
                                                                                          rw [x17, x23, hR4_0] at ho
                                                                                          have hz := zord hI ho
                                                                                          have r36 := q13
                                                                                          rw [x35, hR4_0] at r36
                                                                                          rw [hn]
                                                                                          rw [zct_n (fun h => by
                                                                                            first
                                                                                              | exact h.1 (by rw [← r36]; assumption)
                                                                                              | (have h2 := hz.mpr h.2; omega))]
                                                                                          omega) (by omega) (by omega) (by omega) (by omega)
            · skip
              have b28x : zB v10 0 0 := by have q1 := b23x; have q2 := (zB.of (x := 0) 0 (by decide)); simp only [z32lt, z32le, z32eq, Int32.reduceToInt, Int32.toInt_zero] at h49_23; constructor <;> omega
              refine z_iload_n (pc := 52) C dX8_placeOf_52 rfl ?_
              refine z_iload_n (pc := 53) C dX8_placeOf_53 rfl ?_
              refine z_icmp_ge (pc := 54) 61 C dX8_placeOf_54 (by decide) (fun h54_28 => ?_) (fun h54_28 => ?_)
              · skip
                have rr30 : a4_3.toInt ≥ a1.toInt := by simp only [z32lt, z32le, z32eq] at h54_28; omega
                refine z_iconst (pc := 61) (v := 0) C dX8_placeOf_61 (by decide) ?_
                refine z_iadd (pc := 62) C dX8_placeOf_62 ?_
                refine w_gp (fun v => v = a4_2 + (0 : Int32)) rfl (fun v31 q31 => ?_)
                have e31 : v31.toInt = a4_2.toInt + 0 := by rw [q31]; exact (zadd_eb b4_2 (zB.of (x := 0) 0 (by decide)) (by decide) (by decide))
                have b31x : zB v31 0 8 := by have q1 := b4_2; have q2 := (zB.of (x := 0) 0 (by decide)); constructor <;> omega
                refine z_istore_n (pc := 63) C dX8_placeOf_63 (by rw [hn]; decide) rfl ?_
                refine z_iinc (pc := 64) (v := 1) C dX8_placeOf_64 rfl (by decide) (by rw [hn]; decide) rfl ?_
                obtain ⟨v32, hv32, e32⟩ : ∃ v : Int32, v = a4_3 + 1 ∧ v.toInt = a4_3.toInt + 1 := ⟨_, rfl, zadd_eb b5x (zB.of (x := 1) 1 (by decide)) (by decide) (by decide)⟩
                rw [← hv32]
                have b32x : zB v32 1 8 := by have q9 := b5x; constructor <;> omega
                refine z_goto (pc := 67) 4 C dX8_placeOf_67 (by decide) ?_
                refine w_mask [4] ?_
                exact ih0 v31 b31x v32 (zB.wk (a' := 0) (b' := 8) b32x (by decide) (by decide)) g4_ hI4_ hF4_ (zB.wk c7x (by decide) (by decide)) (by exact hR4_0) (by
                                                                                          have hn : (v32).toInt.toNat = a4_3.toInt.toNat + 1 := by omega
                                                                                          have x17 : m8 = a4_3.toInt.toNat := by omega
                                                                                          have x23 : m9 = a1.toInt.toNat := by omega
                                                                                          have x35 : m11 = a4_3.toInt.toNat := by omega
                                                                                          have ho := hp10_0
                                                                                          rw [x17, x23, hR4_0] at ho
                                                                                          have hz := zord hI ho
                                                                                          have r36 := q13
                                                                                          rw [x35, hR4_0] at r36
                                                                                          rw [hn]
                                                                                          rw [zct_n (fun h => by
                                                                                            first
                                                                                              | exact h.1 (by rw [← r36]; assumption)
                                                                                              | (have h2 := hz.mpr h.2; omega))]
                                                                                          omega) (by omega) (by omega) (by omega) (by omega)
              · skip
                have rr33 : a4_3.toInt < a1.toInt := by simp only [z32lt, z32le, z32eq] at h54_28; omega
                have b34x : zB a4_3 0 6 := by have q1 := b5x; have q2 := b1; simp only [z32lt, z32le, z32eq, Int32.reduceToInt, Int32.toInt_zero] at h54_28; constructor <;> omega
                have b35x : zB a1 1 7 := by have q1 := b5x; have q2 := b1; simp only [z32lt, z32le, z32eq, Int32.reduceToInt, Int32.toInt_zero] at h54_28; constructor <;> omega
                refine z_iconst (pc := 57) (v := 1) C dX8_placeOf_57 (by decide) ?_
                refine z_goto (pc := 58) 62 C dX8_placeOf_58 (by decide) ?_
                refine z_iadd (pc := 62) C dX8_placeOf_62 ?_
                refine w_gp (fun v => v = a4_2 + (1 : Int32)) rfl (fun v36 q36 => ?_)
                have e36 : v36.toInt = a4_2.toInt + 1 := by rw [q36]; exact (zadd_eb b4_2 (zB.of (x := 1) 1 (by decide)) (by decide) (by decide))
                have b36x : zB v36 1 9 := by have q1 := b4_2; have q2 := (zB.of (x := 1) 1 (by decide)); constructor <;> omega
                refine z_istore_n (pc := 63) C dX8_placeOf_63 (by rw [hn]; decide) rfl ?_
                refine z_iinc (pc := 64) (v := 1) C dX8_placeOf_64 rfl (by decide) (by rw [hn]; decide) rfl ?_
                obtain ⟨v37, hv37, e37⟩ : ∃ v : Int32, v = a4_3 + 1 ∧ v.toInt = a4_3.toInt + 1 := ⟨_, rfl, zadd_eb b34x (zB.of (x := 1) 1 (by decide)) (by decide) (by decide)⟩
                rw [← hv37]
                have b37x : zB v37 1 7 := by have q9 := b34x; constructor <;> omega
                refine z_goto (pc := 67) 4 C dX8_placeOf_67 (by decide) ?_
                refine w_mask [4] ?_
                exact ih0 v36 (by constructor <;> omega) v37 (zB.wk (a' := 0) (b' := 8) b37x (by decide) (by decide)) g4_ hI4_ hF4_ (zB.wk c7x (by decide) (by decide)) (by exact hR4_0) (by
                                                                                          have hn : (v37).toInt.toNat = a4_3.toInt.toNat + 1 := by omega
                                                                                          have x17 : m8 = a4_3.toInt.toNat := by omega
                                                                                          have x23 : m9 = a1.toInt.toNat := by omega
                                                                                          have x35 : m11 = a4_3.toInt.toNat := by omega
                                                                                          have ho := hp10_0
                                                                                          rw [x17, x23, hR4_0] at ho
                                                                                          have hz := zord hI ho
                                                                                          have r36 := q13
                                                                                          rw [x35, hR4_0] at r36
                                                                                          rw [hn]
                                                                                          rw [zct_y ⟨by rw [← r36]; assumption, hz.mp (by omega)⟩]
                                                                                          omega) (by omega) (by omega) (by omega) (by omega)
  have J0 := J 39
  show Z X 0 [some (zr 1 0), some (zi a1), none, none, none] [] f
  refine z_iconst (pc := 0) (v := 0) C dX8_placeOf_0 (by decide) ?_
  refine z_istore_n (pc := 1) C dX8_placeOf_1 (by rw [hn]; decide) rfl ?_
  refine z_iconst (pc := 2) (v := 0) C dX8_placeOf_2 (by decide) ?_
  refine z_istore_n (pc := 3) C dX8_placeOf_3 (by rw [hn]; decide) rfl ?_
  exact J0 0 (zB.wk (a' := 0) (b' := 8) (zB.of (x := 0) 0 (by decide)) (by decide) (by decide)) 0 (zB.wk (a' := 0) (b' := 8) (zB.of (x := 0) 0 (by decide)) (by decide) (by decide)) f hI hF ct1_0_8 (by rfl) (by rfl) (by have qc0 : (0 : Int32).toInt = 0 := (by decide); omega) (by have qc0 : (0 : Int32).toInt = 0 := (by decide); omega) (by have qc0 : (0 : Int32).toInt = 0 := (by decide); omega) (by have qc0 : (0 : Int32).toInt = 0 := (by decide); omega)

set_option maxRecDepth 100000 in
set_option maxHeartbeats 4000000 in
theorem y_X9_ahead (d : Nat) (f : zM) (a1 : Int32) (b1 : zB a1 (-2147483648) 2147483647) (hI : zInv f) : ZM (d + 4) yX9_ahead cX9_ahead 3 (some .int) [zr 0 0, zi a1] f (fun r g => (∃ v, r = some (zi v) ∧ zB v (-4) 7) ∧ zInv g ∧ zFr [(11, some 8), (11, some 9), (12, some 3), (12, some 4), (12, some 5)] f g ∧ (∀ v : Int32, r = some (zi v) → (a1.toInt < 0 ∧ v = -1) ∨ (0 ≤ a1.toInt ∧ zfst (fun k => ¬ zDS f k = 0 ∧ (zct (fun i => ¬ zDS f i = 0 ∧ zah (zDY f) (zDH f) (fun k => f 12 k 2) i k) (f 1 0 8).toInt.toNat : Int) = a1.toInt) (f 1 0 8).toInt.toNat v))) := by
  refine ZM.intro (by decide +kernel) (Nat.le_of_ble_eq_true rfl) ?_
  intro X C hr hn
  have hF : zFr [(11, some 8), (11, some 9), (12, some 3), (12, some 4), (12, some 5)] f f := zFr.rf _ _
  have ct1_0_8 : zB (f 1 0 8) 0 8 := hI 1 0 8
  have J : ∀ t : Nat, (zB a1 0 2147483647 → ∀ a22_2 : Int32, zB a22_2 0 8 → ∀ g : zM, zInv g → zFr [(11, some 8), (11, some 9), (12, some 3), (12, some 4), (12, some 5)] f g → zB (g 1 0 8) 0 8 → ((∀ k, k < (f 1 0 8).toInt.toNat → g 12 k 3 = zDS f k ∧ g 12 k 4 = zDY f k ∧ zbo (g 12 k 5) (zDH f k))) → ((∀ j, j < a22_2.toInt.toNat → ¬ (fun k => ¬ zDS f k = 0 ∧ (zct (fun i => ¬ zDS f i = 0 ∧ zah (zDY f) (zDH f) (fun k => f 12 k 2) i k) (f 1 0 8).toInt.toNat : Int) = a1.toInt) j)) → (0 ≤ a1.toInt) → (a22_2.toInt ≤ (f 1 0 8).toInt) → ((g 1 0 8).toInt = (f 1 0 8).toInt) → (0 + 3 * (8 - a22_2.toInt) : Int) < t → Z X 22 [some (zr 0 0), some (zi a1), some (zi a22_2)] [] g) := by
    intro t
    induction t with
    | zero =>
      intros; exfalso; omega
    | succ t ih =>
      have ih0 := ih
      intro b22_1 a22_2 b22_2 g22_ hI22_ hF22_ f22_1_0_8 hR22_0 hR22_1 hR22_2 hR22_3 hR22_4 hM22_
      refine z_iload_n (pc := 22) C dX9_ahead_22 rfl ?_
      refine z_aload_n (pc := 23) C dX9_ahead_23 rfl ?_
      refine z_getR (pc := 24) C zf_X9_10 rfl rfl (by decide) dX9_ahead_24 ?_
      refine z_getI (pc := 27) C zf_X9_217 rfl rfl (by decide) dX9_ahead_27 ?_
      refine w_gp (fun v => v = g22_ 1 0 8) rfl (fun v1 q1 => ?_)
      have e1 : v1.toInt = (g22_ 1 0 8).toInt := by rw [q1]
      have b1x : zB v1 0 8 := by first | exact zB.eqv e1 f22_1_0_8 | (have q9 := f22_1_0_8; constructor <;> omega)
      refine z_icmp_ge (pc := 30) 68 C dX9_ahead_30 (by decide) (fun h30_1 => ?_) (fun h30_1 => ?_)
      · skip
        have rr3 : a22_2.toInt ≥ v1.toInt := by simp only [z32lt, z32le, z32eq] at h30_1; omega
        refine z_bipush (pc := 68) (v := -4) C dX9_ahead_68 (by decide) ?_
        exact z_iret (pc := 70) C hr dX9_ahead_70 ⟨⟨_, rfl, (zB.wk (a' := (-4)) (b' := 7) (zB.of (x := (-4)) (-4) (by decide)) (by decide) (by decide))⟩, hI22_, hF22_, (by
                                                                                          intro v hv; cases hv
                                                                                          have hn : (f 1 0 8).toInt.toNat = a22_2.toInt.toNat := by omega
                                                                                          exact Or.inr ⟨by omega, Or.inr ⟨rfl, fun j hj => hR22_1 j (by omega)⟩⟩)⟩
      · skip
        have rr4 : a22_2.toInt < v1.toInt := by simp only [z32lt, z32le, z32eq] at h30_1; omega
        have b5x : zB a22_2 0 7 := by have q1 := b22_2; have q2 := b1x; simp only [z32lt, z32le, z32eq, Int32.reduceToInt, Int32.toInt_zero] at h30_1; constructor <;> omega
        have b6x : zB v1 1 8 := by have q1 := b22_2; have q2 := b1x; simp only [z32lt, z32le, z32eq, Int32.reduceToInt, Int32.toInt_zero] at h30_1; constructor <;> omega
        have c7x : zB (g22_ 1 0 8) 1 8 := by first | assumption | (constructor <;> omega)
        refine z_aload_n (pc := 33) C dX9_ahead_33 rfl ?_
        refine z_getR (pc := 34) C zf_X9_10 rfl rfl (by decide) dX9_ahead_34 ?_
        refine z_getR (pc := 37) C zf_X9_300 rfl rfl (by decide) dX9_ahead_37 ?_
        refine z_iload_n (pc := 40) C dX9_ahead_40 rfl ?_
        refine z_aald (pc := 41) C rfl ⟨rfl, by decide⟩ (by decide) (zIx b5x (by decide) (by decide)) dX9_ahead_41 ?_
        refine w_grx (by have hq := zN b5x (by decide); show 8 * 0 + a22_2.toNatClampNeg < 16; omega) (fun m8 q8r h8x => ?_)
        have q8r : m8 = 8 * 0 + a22_2.toNatClampNeg := q8r
        have k8r : a22_2.toNatClampNeg = a22_2.toInt.toNat := rfl
        refine z_getI (pc := 42) C zf_X9_311 rfl rfl h8x dX9_ahead_42 ?_
        refine w_gp (fun v => v = g22_ 12 m8 3) rfl (fun v10 q10 => ?_)
        have b10x : zB v10 0 255 := by rw [q10]; exact (hI22_ 12 m8 3)
        refine z_if_eq (pc := 45) 62 C dX9_ahead_45 (by decide) (fun h45_10 => ?_) (fun h45_10 => ?_)
        · skip
          have b12x : zB v10 0 0 := by have q1 := b10x; have q2 := (zB.of (x := 0) 0 (by decide)); simp only [z32lt, z32le, z32eq, Int32.reduceToInt, Int32.toInt_zero] at h45_10; constructor <;> omega
          refine z_iinc (pc := 62) (v := 1) C dX9_ahead_62 rfl (by decide) (by rw [hn]; decide) rfl ?_
          obtain ⟨v13, hv13, e13⟩ : ∃ v : Int32, v = a22_2 + 1 ∧ v.toInt = a22_2.toInt + 1 := ⟨_, rfl, zadd_eb b5x (zB.of (x := 1) 1 (by decide)) (by decide) (by decide)⟩
          rw [← hv13]
          have b13x : zB v13 1 8 := by have q9 := b5x; constructor <;> omega
          refine z_goto (pc := 65) 22 C dX9_ahead_65 (by decide) ?_
          exact ih0 b22_1 v13 (zB.wk (a' := 0) (b' := 8) b13x (by decide) (by decide)) g22_ hI22_ hF22_ (zB.wk c7x (by decide) (by decide)) (by exact hR22_0) (by
                                                                                          have hn : (v13).toInt.toNat = a22_2.toInt.toNat + 1 := by omega
                                                                                          have hx : m8 = a22_2.toInt.toNat := by omega
                                                                                          have r42 := q10
                                                                                          rw [hx, (hR22_0 _ (by omega)).1] at r42
                                                                                          intro j hj
                                                                                          rw [hn] at hj
                                                                                          by_cases e : j = a22_2.toInt.toNat
                                                                                          · rw [e]
                                                                                            exact fun h => h.1 (by rw [← r42]; assumption)
                                                                                          · exact hR22_1 j (by omega)) (by omega) (by omega) (by omega) (by omega)
        · skip
          have b14x : zB v10 1 255 := by have q1 := b10x; have q2 := (zB.of (x := 0) 0 (by decide)); simp only [z32lt, z32le, z32eq, Int32.reduceToInt, Int32.toInt_zero] at h45_10; constructor <;> omega
          refine z_aload_n (pc := 48) C dX9_ahead_48 rfl ?_
          refine z_getR (pc := 49) C zf_X9_10 rfl rfl (by decide) dX9_ahead_49 ?_
          refine z_iload_n (pc := 52) C dX9_ahead_52 rfl ?_
          refine z_callV (pc := 53) C zk_X9_314 (x_X8_placeOf _ _ a22_2 b5x hI22_) rfl rfl (by decide) rfl rfl (Nat.le_of_ble_eq_true rfl) dX9_ahead_53 (fun r15 g15 q15 => ?_)
          obtain ⟨⟨v15, rfl, b15x⟩, hI15, hF15q, hp15_0⟩ := q15
          have hp15_0 := hp15_0 _ rfl
          obtain rfl := zFr_nil hF15q
          simp only [Option.toList, List.cons_append, List.nil_append]
          refine z_iload_n (pc := 56) C dX9_ahead_56 rfl ?_
          refine z_icmp_ne (pc := 57) 62 C dX9_ahead_57 (by decide) (fun h57_15 => ?_) (fun h57_15 => ?_)
          · skip
            refine z_iinc (pc := 62) (v := 1) C dX9_ahead_62 rfl (by decide) (by rw [hn]; decide) rfl ?_
            obtain ⟨v17, hv17, e17⟩ : ∃ v : Int32, v = a22_2 + 1 ∧ v.toInt = a22_2.toInt + 1 := ⟨_, rfl, zadd_eb b5x (zB.of (x := 1) 1 (by decide)) (by decide) (by decide)⟩
            rw [← hv17]
            have b17x : zB v17 1 8 := by first | exact zB.eqv e17 b5x | (have q9 := b5x; constructor <;> omega)
            refine z_goto (pc := 65) 22 C dX9_ahead_65 (by decide) ?_
            exact ih0 b22_1 v17 (zB.wk (a' := 0) (b' := 8) b17x (by decide) (by decide)) g22_ hI22_ hF22_ (zB.wk c7x (by decide) (by decide)) (by exact hR22_0) (by
                                                                                          have hn : (v17).toInt.toNat = a22_2.toInt.toNat + 1 := by omega
                                                                                          have hx : m8 = a22_2.toInt.toNat := by omega
                                                                                          have r42 := q10
                                                                                          rw [hx, (hR22_0 _ (by omega)).1] at r42
                                                                                          intro j hj
                                                                                          rw [hn] at hj
                                                                                          by_cases e : j = a22_2.toInt.toNat
                                                                                          · rw [e]
                                                                                            have hw : ∀ i, i < (f 1 0 8).toInt.toNat → (¬ g22_ 12 i 3 = 0 ↔ ¬ zDS f i = 0) := fun i hi => by rw [(hR22_0 i hi).1]
                                                                                            have hc : zct (fun i => ¬ g22_ 12 i 3 = 0 ∧ zah (fun k => g22_ 12 k 4) (fun k => ¬ g22_ 12 k 5 = 0) (fun k => g22_ 12 k 2) i a22_2.toInt.toNat) (g22_ 1 0 8).toInt.toNat = zct (fun i => ¬ zDS f i = 0 ∧ zah (zDY f) (zDH f) (fun k => f 12 k 2) i a22_2.toInt.toNat) (f 1 0 8).toInt.toNat := by
                                                                                              rw [hF22_ 1 0 8 rfl]
                                                                                              refine zct_congr _ (fun i hi => ?_)
                                                                                              have hz : ∀ i, i < (f 1 0 8).toInt.toNat → (¬ g22_ 12 i 5 = 0 ↔ zDH f i) := fun i hi => by
                                                                                                rcases (hR22_0 i hi).2.2 with ⟨y1, y2⟩ | ⟨y1, y2⟩
                                                                                                · exact ⟨fun _ => y2, fun _ => by rw [y1]; decide⟩
                                                                                                · exact ⟨fun h => absurd y1 h, fun h => absurd h y2⟩
                                                                                              exact and_congr (hw i hi) (zah_congr (Y := fun k => g22_ 12 k 4) (Z := zDY f) (H := fun k => ¬ g22_ 12 k 5 = 0) (K := zDH f) (D := fun k => g22_ 12 k 2) (E := fun k => f 12 k 2) (a := i) (b := a22_2.toInt.toNat) (hR22_0 i hi).2.1 (hR22_0 _ (by omega)).2.1 (hz i hi) (hz _ (by omega)) (hF22_ 12 i 2 rfl) (hF22_ 12 _ 2 rfl))
                                                                                            have hp := hp15_0
                                                                                            rw [hc] at hp
                                                                                            exact fun h => absurd ((z32eq _ _).mpr (hp.trans h.2)) (by assumption)
                                                                                          · exact hR22_1 j (by omega)) (by omega) (by omega) (by omega) (by omega)
          · skip
            have rr18 : v15.toInt = a1.toInt := by simp only [z32lt, z32le, z32eq] at h57_15; omega
            have b19x : zB a1 0 8 := by have q1 := b15x; have q2 := b22_1; simp only [z32lt, z32le, z32eq, Int32.reduceToInt, Int32.toInt_zero] at h57_15; constructor <;> omega
            refine z_iload_n (pc := 60) C dX9_ahead_60 rfl ?_
            exact z_iret (pc := 61) C hr dX9_ahead_61 ⟨⟨_, rfl, (zB.wk (a' := (-4)) (b' := 7) b5x (by decide) (by decide))⟩, hI22_, hF22_, (by
                                                                                          intro v hv; cases hv
                                                                                          have hx : m8 = a22_2.toInt.toNat := by omega
                                                                                          have r42 := q10
                                                                                          rw [hx, (hR22_0 _ (by omega)).1] at r42
                                                                                          have hw : ∀ i, i < (f 1 0 8).toInt.toNat → (¬ g22_ 12 i 3 = 0 ↔ ¬ zDS f i = 0) := fun i hi => by rw [(hR22_0 i hi).1]
                                                                                          have hc : zct (fun i => ¬ g22_ 12 i 3 = 0 ∧ zah (fun k => g22_ 12 k 4) (fun k => ¬ g22_ 12 k 5 = 0) (fun k => g22_ 12 k 2) i a22_2.toInt.toNat) (g22_ 1 0 8).toInt.toNat = zct (fun i => ¬ zDS f i = 0 ∧ zah (zDY f) (zDH f) (fun k => f 12 k 2) i a22_2.toInt.toNat) (f 1 0 8).toInt.toNat := by
                                                                                            rw [hF22_ 1 0 8 rfl]
                                                                                            refine zct_congr _ (fun i hi => ?_)
                                                                                            have hz : ∀ i, i < (f 1 0 8).toInt.toNat → (¬ g22_ 12 i 5 = 0 ↔ zDH f i) := fun i hi => by
                                                                                              rcases (hR22_0 i hi).2.2 with ⟨y1, y2⟩ | ⟨y1, y2⟩
                                                                                              · exact ⟨fun _ => y2, fun _ => by rw [y1]; decide⟩
                                                                                              · exact ⟨fun h => absurd y1 h, fun h => absurd h y2⟩
                                                                                            exact and_congr (hw i hi) (zah_congr (Y := fun k => g22_ 12 k 4) (Z := zDY f) (H := fun k => ¬ g22_ 12 k 5 = 0) (K := zDH f) (D := fun k => g22_ 12 k 2) (E := fun k => f 12 k 2) (a := i) (b := a22_2.toInt.toNat) (hR22_0 i hi).2.1 (hR22_0 _ (by omega)).2.1 (hz i hi) (hz _ (by omega)) (hF22_ 12 i 2 rfl) (hF22_ 12 _ 2 rfl))
                                                                                          have hp := hp15_0
                                                                                          rw [hc] at hp
                                                                                          refine Or.inr ⟨by omega, Or.inl ⟨a22_2.toInt.toNat, by omega, (nI_ofI (by omega)).1, ⟨by rw [← r42]; assumption, ?_⟩, hR22_1⟩⟩
                                                                                          rw [← hp]; omega)⟩
  have J0 := J 39
  show Z X 0 [some (zr 0 0), some (zi a1), none] [] f
  refine z_iload_n (pc := 0) C dX9_ahead_0 rfl ?_
  refine z_if_ge (pc := 1) 6 C dX9_ahead_1 (by decide) (fun h1_19 => ?_) (fun h1_19 => ?_)
  · skip
    have b21x : zB a1 0 2147483647 := by have q1 := b1; have q2 := (zB.of (x := 0) 0 (by decide)); simp only [z32lt, z32le, z32eq, Int32.reduceToInt, Int32.toInt_zero] at h1_19; constructor <;> omega
    refine z_aload_n (pc := 6) C dX9_ahead_6 rfl ?_
    refine z_getR (pc := 7) C zf_X9_10 rfl rfl (by decide) dX9_ahead_7 ?_
    refine z_callV (pc := 10) C zk_X9_280 (x_X8_weighAll _ _  hI) rfl rfl (by decide) rfl rfl (Nat.le_of_ble_eq_true rfl) dX9_ahead_10 (fun r22 g22 q22 => ?_)
    obtain ⟨rfl, hI22, hF22q, hp22_0⟩ := q22
    have hF22 := zFr.tr hF hF22q (by decide)
    simp only [Option.toList, List.cons_append, List.nil_append]
    have ek22_1_0_8 : (g22 1 0 8).toInt = (f 1 0 8).toInt := by rw [hF22q 1 0 8 rfl]
    have c22_1_0_8x : zB (g22 1 0 8) 0 8 := by rw [hF22q 1 0 8 rfl]; exact ct1_0_8
    refine z_aload_n (pc := 13) C dX9_ahead_13 rfl ?_
    refine z_getR (pc := 14) C zf_X9_10 rfl rfl (by decide) dX9_ahead_14 ?_
    refine z_callV (pc := 17) C zk_X9_308 (x_X8_weighDemands _ _ (by assumption) hI22) rfl rfl (by decide) rfl rfl (Nat.le_of_ble_eq_true rfl) dX9_ahead_17 (fun r23 g23 q23 => ?_)
    obtain ⟨rfl, hI23, hF23q, hp23_0⟩ := q23
    have hF23 := zFr.tr hF22 hF23q (by decide)
    simp only [Option.toList, List.cons_append, List.nil_append]
    have ek23_1_0_8 : (g23 1 0 8).toInt = (g22 1 0 8).toInt := by rw [hF23q 1 0 8 rfl]
    have c23_1_0_8x : zB (g23 1 0 8) 0 8 := by rw [hF23q 1 0 8 rfl]; exact c22_1_0_8x
    refine z_iconst (pc := 20) (v := 0) C dX9_ahead_20 (by decide) ?_
    refine z_istore_n (pc := 21) C dX9_ahead_21 (by rw [hn]; decide) rfl ?_
    exact J0 b21x 0 (zB.wk (a' := 0) (b' := 8) (zB.of (x := 0) 0 (by decide)) (by decide) (by decide)) g23 hI23 hF23 c23_1_0_8x (by
                                                                                          have k11 : ∀ q j, j < 8 → g22 11 q j = f 11 q j := fun q j hj => by rcases (show j = 0 ∨ j = 1 ∨ j = 2 ∨ j = 3 ∨ j = 4 ∨ j = 5 ∨ j = 6 ∨ j = 7 by omega) with rfl | rfl | rfl | rfl | rfl | rfl | rfl | rfl <;> exact hF22q 11 q _ rfl
                                                                                          have k8 : ∀ n j, g22 8 n j = f 8 n j := fun n j => hF22q 8 n j rfl
                                                                                          have k9 : ∀ n j, g22 9 n j = f 9 n j := fun n j => hF22q 9 n j rfl
                                                                                          have k10 : ∀ n j, g22 10 n j = f 10 n j := fun n j => hF22q 10 n j rfl
                                                                                          have k6 : ∀ n j, g22 6 n j = f 6 n j := fun n j => hF22q 6 n j rfl
                                                                                          have k12 : ∀ n j, g22 12 n j = f 12 n j := fun n j => hF22q 12 n j rfl
                                                                                          have k1 : ∀ j, g22 1 0 j = f 1 0 j := fun j => hF22q 1 0 j rfl
                                                                                          have hd : ∀ k i, zdx g22 k i ↔ zdx f k i := fun k i => by unfold zdx; rw [k12, k12, k1, zlx_k k11 k8 k9 k10 k6]
                                                                                          intro k hk
                                                                                          have hp := hp23_0 k (by rw [k1]; exact hk)
                                                                                          unfold zDS zDY zDH zHx at hp ⊢
                                                                                          simp only [k1, k8, k9, k12] at hp
                                                                                          rw [zbf_congr _ (fun i _ => hd k i), zyg_congr _ (fun i _ => ⟨hd k i, rfl⟩)] at hp
                                                                                          simp only [hd] at hp
                                                                                          exact hp) (by intro j hj; exact absurd hj (Nat.not_lt_zero j)) (by have qc0 : (0 : Int32).toInt = 0 := (by decide); omega) (by have qc0 : (0 : Int32).toInt = 0 := (by decide); omega) (by have qc0 : (0 : Int32).toInt = 0 := (by decide); omega) (by have qc0 : (0 : Int32).toInt = 0 := (by decide); omega)
  · skip
    have b24x : zB a1 (-2147483648) (-1) := by have q1 := b1; have q2 := (zB.of (x := 0) 0 (by decide)); simp only [z32lt, z32le, z32eq, Int32.reduceToInt, Int32.toInt_zero] at h1_19; constructor <;> omega
    refine z_iconst (pc := 4) (v := -1) C dX9_ahead_4 (by decide) ?_
    exact z_iret (pc := 5) C hr dX9_ahead_5 ⟨⟨_, rfl, (zB.wk (a' := (-4)) (b' := 7) (zB.of (x := (-1)) (-1) (by decide)) (by decide) (by decide))⟩, hI, hF, (by intro v hv; cases hv; exact Or.inl ⟨by omega, rfl⟩)⟩

set_option maxRecDepth 100000 in
set_option maxHeartbeats 4000000 in
theorem x_X10_standsFor (d : Nat) (f : zM) (a1 : Int32) (b1 : zB a1 0 7) (hp0 : zOp f) (hI : zInv f) : ZM (d + 6) yX10_standsFor cX10_standsFor 4 (some .int) [zr 25 0, zi a1] f (fun r g => (∃ v, r = some (zi v) ∧ zB v 0 255) ∧ zInv g ∧ zFr [] f g ∧ (∀ v : Int32, r = some (zi v) → v = zMS f a1.toInt.toNat)) := by
  refine ZM.intro (by decide +kernel) (Nat.le_of_ble_eq_true rfl) ?_
  intro X C hr hn
  have hF : zFr [] f f := zFr.rf _ _
  have ct25_0_4 : zB (f 25 0 4) 0 12 := hI 25 0 4
  have J : ∀ t : Nat, (∀ a4_2 : Int32, zB a4_2 0 255 → ∀ a4_3 : Int32, zB a4_3 0 12 → ∀ g : zM, zInv g → zFr [] f g → zB (g 25 0 4) 0 12 → (g = f) → (a4_2 = zbf (fun i => bt (f 29 0 (3 * a1.toInt.toNat + 1)) i = true ∧ zlm f (f 29 0 (3 * a1.toInt.toNat + 0)) a4_3.toInt.toNat i) (f 25 0 2).toInt.toNat) → (a4_3.toInt ≤ (f 25 0 4).toInt) → ((g 25 0 4).toInt = (f 25 0 4).toInt) → (0 + 3 * (12 - a4_3.toInt) : Int) < t → Z X 4 [some (zr 25 0), some (zi a1), some (zi a4_2), some (zi a4_3)] [] g) := by
    intro t
    induction t with
    | zero =>
      intros; exfalso; omega
    | succ t ih =>
      have ih0 := ih
      intro a4_2 b4_2 a4_3 b4_3 g4_ hI4_ hF4_ f4_25_0_4 hR4_0 hR4_1 hR4_2 hR4_3 hM4_
      refine z_iload_n (pc := 4) C dX10_standsFor_4 rfl ?_
      refine z_aload_n (pc := 5) C dX10_standsFor_5 rfl ?_
      refine z_getI (pc := 6) C zf_X10_77 rfl rfl (by decide) dX10_standsFor_6 ?_
      refine w_gp (fun v => v = g4_ 25 0 4) rfl (fun v1 q1 => ?_)
      have e1 : v1.toInt = (g4_ 25 0 4).toInt := by rw [q1]
      have b1x : zB v1 0 12 := by first | exact zB.eqv e1 f4_25_0_4 | (have q9 := f4_25_0_4; constructor <;> omega)
      refine z_icmp_ge (pc := 9) 63 C dX10_standsFor_9 (by decide) (fun h9_1 => ?_) (fun h9_1 => ?_)
      · skip
        have rr3 : a4_3.toInt ≥ v1.toInt := by simp only [z32lt, z32le, z32eq] at h9_1; omega
        refine z_iload_n (pc := 63) C dX10_standsFor_63 rfl ?_
        exact z_iret (pc := 64) C hr dX10_standsFor_64 ⟨⟨_, rfl, b4_2⟩, hI4_, hF4_, (by
                                                                                          intro v hv; cases hv
                                                                                          have hn : (f 25 0 4).toInt.toNat = a4_3.toInt.toNat := by omega
                                                                                          unfold zMS
                                                                                          rw [show zdm f a1.toInt.toNat = (fun i => bt (f 29 0 (3 * a1.toInt.toNat + 1)) i = true ∧ zlm f (f 29 0 (3 * a1.toInt.toNat + 0)) (f 25 0 4).toInt.toNat i) from rfl, hn]
                                                                                          exact hR4_1)⟩
      · skip
        have rr4 : a4_3.toInt < v1.toInt := by simp only [z32lt, z32le, z32eq] at h9_1; omega
        have b5x : zB a4_3 0 11 := by have q1 := b4_3; have q2 := b1x; simp only [z32lt, z32le, z32eq, Int32.reduceToInt, Int32.toInt_zero] at h9_1; constructor <;> omega
        have b6x : zB v1 1 12 := by have q1 := b4_3; have q2 := b1x; simp only [z32lt, z32le, z32eq, Int32.reduceToInt, Int32.toInt_zero] at h9_1; constructor <;> omega
        have c7x : zB (g4_ 25 0 4) 1 12 := by first | assumption | (constructor <;> omega)
        refine z_iload_n (pc := 12) C dX10_standsFor_12 rfl ?_
        refine z_aload_n (pc := 13) C dX10_standsFor_13 rfl ?_
        refine z_getR (pc := 14) C zf_X10_16 rfl rfl (by decide) dX10_standsFor_14 ?_
        refine z_bipush (pc := 17) (v := 8) C dX10_standsFor_17 (by decide) ?_
        refine z_iload_n (pc := 19) C dX10_standsFor_19 rfl ?_
        refine z_imul (pc := 20) C dX10_standsFor_20 ?_
        refine w_gp (fun v => v = (8 : Int32) * a4_3) rfl (fun v8 q8 => ?_)
        have e8 : v8.toInt = 8 * a4_3.toInt := by rw [q8]; exact (zmul_kb 8 (by decide) (by decide) b5x (by decide) (by decide))
        have b8x : zB v8 0 88 := zmul_bb e8 (by decide) b5x
        refine z_iconst (pc := 21) (v := 2) C dX10_standsFor_21 (by decide) ?_
        refine z_iadd (pc := 22) C dX10_standsFor_22 ?_
        refine w_gp (fun v => v = v8 + (2 : Int32)) rfl (fun v9 q9 => ?_)
        have e9 : v9.toInt = v8.toInt + 2 := by rw [q9]; exact (zadd_eb b8x (zB.of (x := 2) 2 (by decide)) (by decide) (by decide))
        have b9x : zB v9 2 90 := by have q1 := b8x; have q2 := (zB.of (x := 2) 2 (by decide)); constructor <;> omega
        refine z_iald (pc := 23) C rfl (by decide) (zIx b9x (by decide) (by decide)) dX10_standsFor_23 ?_
        have kq23_9 : v9.toNatClampNeg = v9.toInt.toNat := rfl
        refine w_gp (fun v => v = g4_ 28 0 v9.toNatClampNeg) rfl (fun v10 q10 => ?_)
        have b10x : zB v10 0 5 := by rw [q10]; exact (by have hq9 := hI4_ 28 0 v9.toNatClampNeg; rw [zrg28 (r := 2) (by have hq : v9.toNatClampNeg = v9.toInt.toNat := rfl; have hq2 := b9x; omega)] at hq9; exact hq9)
        refine z_aload_n (pc := 24) C dX10_standsFor_24 rfl ?_
        refine z_getR (pc := 25) C zf_X10_19 rfl rfl (by decide) dX10_standsFor_25 ?_
        refine z_iconst (pc := 28) (v := 3) C dX10_standsFor_28 (by decide) ?_
        refine z_iload_n (pc := 29) C dX10_standsFor_29 rfl ?_
        refine z_imul (pc := 30) C dX10_standsFor_30 ?_
        refine w_gp (fun v => v = (3 : Int32) * a1) rfl (fun v11 q11 => ?_)
        have e11 : v11.toInt = 3 * a1.toInt := by rw [q11]; exact (zmul_kb 3 (by decide) (by decide) b1 (by decide) (by decide))
        have b11x : zB v11 0 21 := zmul_bb e11 (by decide) b1
        refine z_iald (pc := 31) C rfl (by decide) (zIx b11x (by decide) (by decide)) dX10_standsFor_31 ?_
        have kq31_11 : v11.toNatClampNeg = v11.toInt.toNat := rfl
        refine w_gp (fun v => v = g4_ 29 0 v11.toNatClampNeg) rfl (fun v12 q12 => ?_)
        have b12x : zB v12 0 5 := by rw [q12]; exact (by have hq9 := hI4_ 29 0 v11.toNatClampNeg; rw [zrg29 (r := 0) (by have hq : v11.toNatClampNeg = v11.toInt.toNat := rfl; have hq2 := b11x; omega)] at hq9; exact hq9)
        refine z_icmp_ne (pc := 32) 54 C dX10_standsFor_32 (by decide) (fun h32_12 => ?_) (fun h32_12 => ?_)
        · skip
          refine z_iconst (pc := 54) (v := 0) C dX10_standsFor_54 (by decide) ?_
          refine z_ior (pc := 55) C dX10_standsFor_55 ?_
          refine w_gp (fun v => v = a4_2 ||| (0 : Int32)) rfl (fun v14 q14 => ?_)
          have b14x : zB v14 0 255 := by rw [q14]; exact (zor_b 8 b4_2 (zB.of (x := 0) 0 (by decide)) (by decide) (by decide) (by decide) (by decide) (by decide))
          refine z_istore_n (pc := 56) C dX10_standsFor_56 (by rw [hn]; decide) rfl ?_
          refine z_iinc (pc := 57) (v := 1) C dX10_standsFor_57 rfl (by decide) (by rw [hn]; decide) rfl ?_
          obtain ⟨v15, hv15, e15⟩ : ∃ v : Int32, v = a4_3 + 1 ∧ v.toInt = a4_3.toInt + 1 := ⟨_, rfl, zadd_eb b5x (zB.of (x := 1) 1 (by decide)) (by decide) (by decide)⟩
          rw [← hv15]
          have b15x : zB v15 1 12 := by have q9 := b5x; constructor <;> omega
          refine z_goto (pc := 60) 4 C dX10_standsFor_60 (by decide) ?_
          exact ih0 v14 b14x v15 (zB.wk (a' := 0) (b' := 12) b15x (by decide) (by decide)) g4_ hI4_ hF4_ (zB.wk c7x (by decide) (by decide)) (by exact hR4_0) (by
                                                                                          have hn : (v15).toInt.toNat = a4_3.toInt.toNat + 1 := by omega
                                                                                          have b8 : (f 25 0 2).toInt ≤ 8 := (hI 25 0 2).2
                                                                                          have x23 : (v9).toNatClampNeg = 8 * a4_3.toInt.toNat + 2 := by omega
                                                                                          have r23 := q10
                                                                                          rw [x23, hR4_0] at r23
                                                                                          have x31 : (v11).toNatClampNeg = 3 * a1.toInt.toNat + 0 := by omega
                                                                                          have r31 := q12
                                                                                          rw [x31, hR4_0] at r31
                                                                                          rw [hn, q14, hR4_1]
                                                                                          rw [Int32.or_zero]
                                                                                          refine zbf_congr _ (fun i _ => ?_)
                                                                                          rw [zlm_s]
                                                                                          exact ⟨fun h => ⟨h.1, Or.inl h.2⟩, fun h => ⟨h.1, h.2.resolve_right (fun q => absurd (r23.trans (q.1.trans r31.symm)) (by assumption))⟩⟩) (by omega) (by omega) (by omega)
        · skip
          have rr16 : v10.toInt = v12.toInt := by simp only [z32lt, z32le, z32eq] at h32_12; omega
          refine z_aload_n (pc := 35) C dX10_standsFor_35 rfl ?_
          refine z_iload_n (pc := 36) C dX10_standsFor_36 rfl ?_
          refine z_callV (pc := 37) C zk_X10_154 (x_X10_goesNow _ _ a4_3 b5x hI4_) rfl rfl (by decide) rfl rfl (Nat.le_of_ble_eq_true rfl) dX10_standsFor_37 (fun r17 g17 q17 => ?_)
          obtain ⟨⟨v17, rfl, b17x⟩, hI17, hF17q, hp17_0⟩ := q17
          have hp17_0 := hp17_0 _ rfl
          obtain rfl := zFr_nil hF17q
          simp only [Option.toList, List.cons_append, List.nil_append]
          refine z_aload_n (pc := 40) C dX10_standsFor_40 rfl ?_
          refine z_getR (pc := 41) C zf_X10_19 rfl rfl (by decide) dX10_standsFor_41 ?_
          refine z_iconst (pc := 44) (v := 3) C dX10_standsFor_44 (by decide) ?_
          refine z_iload_n (pc := 45) C dX10_standsFor_45 rfl ?_
          refine z_imul (pc := 46) C dX10_standsFor_46 ?_
          refine w_gp (fun v => v = (3 : Int32) * a1) rfl (fun v18 q18 => ?_)
          have e18 : v18.toInt = 3 * a1.toInt := by rw [q18]; exact (zmul_kb 3 (by decide) (by decide) b1 (by decide) (by decide))
          have b18x : zB v18 0 21 := zmul_bb e18 (by decide) b1
          refine z_iconst (pc := 47) (v := 1) C dX10_standsFor_47 (by decide) ?_
          refine z_iadd (pc := 48) C dX10_standsFor_48 ?_
          refine w_gp (fun v => v = v18 + (1 : Int32)) rfl (fun v19 q19 => ?_)
          have e19 : v19.toInt = v18.toInt + 1 := by rw [q19]; exact (zadd_eb b18x (zB.of (x := 1) 1 (by decide)) (by decide) (by decide))
          have b19x : zB v19 1 22 := by have q1 := b18x; have q2 := (zB.of (x := 1) 1 (by decide)); constructor <;> omega
          refine z_iald (pc := 49) C rfl (by decide) (zIx b19x (by decide) (by decide)) dX10_standsFor_49 ?_
          have kq49_19 : v19.toNatClampNeg = v19.toInt.toNat := rfl
          refine w_gp (fun v => v = g4_ 29 0 v19.toNatClampNeg) rfl (fun v20 q20 => ?_)
          have b20x : zB v20 0 255 := by rw [q20]; exact (by have hq9 := hI4_ 29 0 v19.toNatClampNeg; rw [zrg29 (r := 1) (by have hq : v19.toNatClampNeg = v19.toInt.toNat := rfl; have hq2 := b19x; omega)] at hq9; exact hq9)
          refine z_iand (pc := 50) C dX10_standsFor_50 ?_
          refine w_gp (fun v => v = v17 &&& v20) rfl (fun v21 q21 => ?_)
          have b21x : zB v21 0 255 := by rw [q21]; exact (zand_b b17x b20x (by decide))
          refine z_goto (pc := 51) 55 C dX10_standsFor_51 (by decide) ?_
          refine z_ior (pc := 55) C dX10_standsFor_55 ?_
          refine w_gp (fun v => v = a4_2 ||| v21) rfl (fun v22 q22 => ?_)
          have b22x : zB v22 0 255 := by rw [q22]; exact (zor_b 8 b4_2 b21x (by decide) (by decide) (by decide) (by decide) (by decide))
          refine z_istore_n (pc := 56) C dX10_standsFor_56 (by rw [hn]; decide) rfl ?_
          refine z_iinc (pc := 57) (v := 1) C dX10_standsFor_57 rfl (by decide) (by rw [hn]; decide) rfl ?_
          obtain ⟨v23, hv23, e23⟩ : ∃ v : Int32, v = a4_3 + 1 ∧ v.toInt = a4_3.toInt + 1 := ⟨_, rfl, zadd_eb b5x (zB.of (x := 1) 1 (by decide)) (by decide) (by decide)⟩
          rw [← hv23]
          have b23x : zB v23 1 12 := by have q9 := b5x; constructor <;> omega
          refine z_goto (pc := 60) 4 C dX10_standsFor_60 (by decide) ?_
          exact ih0 v22 b22x v23 (zB.wk (a' := 0) (b' := 12) b23x (by decide) (by decide)) g4_ hI4_ hF4_ (zB.wk c7x (by decide) (by decide)) (by exact hR4_0) (by
                                                                                          have hn : (v23).toInt.toNat = a4_3.toInt.toNat + 1 := by omega
                                                                                          have b8 : (f 25 0 2).toInt ≤ 8 := (hI 25 0 2).2
                                                                                          have x23 : (v9).toNatClampNeg = 8 * a4_3.toInt.toNat + 2 := by omega
                                                                                          have r23 := q10
                                                                                          rw [x23, hR4_0] at r23
                                                                                          have x31 : (v11).toNatClampNeg = 3 * a1.toInt.toNat + 0 := by omega
                                                                                          have r31 := q12
                                                                                          rw [x31, hR4_0] at r31
                                                                                          rw [hn, q22, hR4_1]
                                                                                          have hl : f 28 0 (8 * a4_3.toInt.toNat + 2) = f 29 0 (3 * a1.toInt.toNat + 0) := r23.symm.trans ((show v10 = v12 by assumption).trans r31)
                                                                                          have hg := hp17_0
                                                                                          rw [hR4_0] at hg
                                                                                          have hv := zgs (f := f) (m := f) hI rfl rfl rfl rfl (hp0 a4_3.toInt.toNat (by omega)) hg
                                                                                          have x49 : (v19).toNatClampNeg = 3 * a1.toInt.toNat + 1 := by omega
                                                                                          have r49 := q20
                                                                                          rw [x49, hR4_0] at r49
                                                                                          rw [q21, hv, r49, zbf_and (by omega), zbf_or (by omega)]
                                                                                          refine zbf_congr _ (fun i _ => ?_)
                                                                                          rw [zlm_s]
                                                                                          constructor
                                                                                          · rintro (⟨q1, q2⟩ | ⟨q1, q2⟩)
                                                                                            · exact ⟨q1, Or.inl q2⟩
                                                                                            · exact ⟨q2, Or.inr ⟨hl, q1⟩⟩
                                                                                          · rintro ⟨q1, q2 | q2⟩
                                                                                            · exact Or.inl ⟨q1, q2⟩
                                                                                            · exact Or.inr ⟨q2.2, q1⟩) (by omega) (by omega) (by omega)
  have J0 := J 51
  show Z X 0 [some (zr 25 0), some (zi a1), none, none] [] f
  refine z_iconst (pc := 0) (v := 0) C dX10_standsFor_0 (by decide) ?_
  refine z_istore_n (pc := 1) C dX10_standsFor_1 (by rw [hn]; decide) rfl ?_
  refine z_iconst (pc := 2) (v := 0) C dX10_standsFor_2 (by decide) ?_
  refine z_istore_n (pc := 3) C dX10_standsFor_3 (by rw [hn]; decide) rfl ?_
  exact J0 0 (zB.wk (a' := 0) (b' := 255) (zB.of (x := 0) 0 (by decide)) (by decide) (by decide)) 0 (zB.wk (a' := 0) (b' := 12) (zB.of (x := 0) 0 (by decide)) (by decide) (by decide)) f hI hF ct25_0_4 (by rfl) (by exact (zbf_0 _ (fun k _ h => zlm_0 h.2)).symm) (by have qc0 : (0 : Int32).toInt = 0 := (by decide); omega) (by have qc0 : (0 : Int32).toInt = 0 := (by decide); omega) (by have qc0 : (0 : Int32).toInt = 0 := (by decide); omega)

theorem zbo_1 {v : Int32} {P : Prop} (h : zbo v P) (p : P) : v.toInt = 1 := by
  rcases h with ⟨e, _⟩ | ⟨_, n⟩
  · rw [e]; decide
  · exact absurd p n
theorem zbo_z {v : Int32} {P : Prop} (h : zbo v P) (p : ¬ P) : v.toInt = 0 := by
  rcases h with ⟨_, n⟩ | ⟨e, _⟩
  · exact absurd n p
  · rw [e]; decide
theorem zbo_i {v w : Int32} {P Q : Prop} (h : zbo v P) (h2 : zbo w Q) (e : v.toInt = w.toInt) : P ↔ Q :=
  ⟨fun p => Classical.byContradiction (fun n => by have := zbo_1 h p; have := zbo_z h2 n; omega), fun q => Classical.byContradiction (fun n => by have := zbo_z h n; have := zbo_1 h2 q; omega)⟩
theorem zah_d {Y : Nat → Int32} {H : Nat → Prop} {D : Nat → Int32} {a b : Nat} (hy : (Y a).toInt = (Y b).toInt) (hh : H a ↔ H b) : zah Y H D a b ↔ ((D a).toInt < (D b).toInt ∨ ((D a).toInt = (D b).toInt ∧ a < b)) := by
  unfold zah
  constructor
  · rintro (h | ⟨_, h | ⟨_, h⟩⟩)
    · omega
    · exact absurd (hh.mp h.1) h.2
    · exact h
  · intro h; exact Or.inr ⟨hy, Or.inr ⟨hh, h⟩⟩
theorem zah_h {Y : Nat → Int32} {H : Nat → Prop} {D : Nat → Int32} {a b : Nat} (hy : (Y a).toInt = (Y b).toInt) (hh : ¬ (H a ↔ H b)) : zah Y H D a b ↔ (H a ∧ ¬ H b) := by
  unfold zah
  constructor
  · rintro (h | ⟨_, h | ⟨h, _⟩⟩)
    · omega
    · exact h
    · exact absurd h hh
  · intro h; exact Or.inr ⟨hy, Or.inl h⟩
theorem zah_y {Y : Nat → Int32} {H : Nat → Prop} {D : Nat → Int32} {a b : Nat} (hy : ¬ (Y a).toInt = (Y b).toInt) : zah Y H D a b ↔ (Y b).toInt < (Y a).toInt := by
  unfold zah
  constructor
  · rintro (h | ⟨h, _⟩)
    · exact h
    · exact absurd h hy
  · exact Or.inl

set_option maxRecDepth 100000 in
set_option maxHeartbeats 4000000 in
theorem x_X10_greatestYears (d : Nat) (f : zM) (a1 : Int32) (b1 : zB a1 0 7) (hp0 : zOp f) (hI : zInv f) : ZM (d + 7) yX10_greatestYears cX10_greatestYears 6 (some .int) [zr 25 0, zi a1] f (fun r g => (∃ v, r = some (zi v) ∧ zB v 0 40) ∧ zInv g ∧ zFr [] f g ∧ (∀ v : Int32, r = some (zi v) → v = zMY f a1.toInt.toNat)) := by
  refine ZM.intro (by decide +kernel) (Nat.le_of_ble_eq_true rfl) ?_
  intro X C hr hn
  have hF : zFr [] f f := zFr.rf _ _
  have ct25_0_2 : zB (f 25 0 2) 0 8 := hI 25 0 2
  have J : ∀ t : Nat, (∀ a11_2 : Int32, zB a11_2 0 255 → ∀ a11_3 : Int32, zB a11_3 0 40 → ∀ a11_4 : Int32, zB a11_4 0 8 → ∀ g : zM, zInv g → zFr [] f g → zB (g 25 0 2) 0 8 → (g = f) → (a11_2 = zMS f a1.toInt.toNat) → (a11_3 = zyg (zdm f a1.toInt.toNat) (fun d => zly (fun k j => f 26 0 (6 * k + j)) (f 27 0 (5 * d + 0)) (f 29 0 (3 * a1.toInt.toNat + 0)).toInt.toNat (f 25 0 0).toInt.toNat) a11_4.toInt.toNat) → (a11_4.toInt ≤ (f 25 0 2).toInt) → ((g 25 0 2).toInt = (f 25 0 2).toInt) → (0 + 3 * (8 - a11_4.toInt) : Int) < t → Z X 11 [some (zr 25 0), some (zi a1), some (zi a11_2), some (zi a11_3), some (zi a11_4), none] [] g) := by
    intro t
    induction t with
    | zero =>
      intros; exfalso; omega
    | succ t ih =>
      have ih0 := ih
      intro a11_2 b11_2 a11_3 b11_3 a11_4 b11_4 g11_ hI11_ hF11_ f11_25_0_2 hR11_0 hR11_1 hR11_2 hR11_3 hR11_4 hM11_
      refine z_iload (pc := 11) C dX10_greatestYears_11 rfl ?_
      refine z_aload_n (pc := 13) C dX10_greatestYears_13 rfl ?_
      refine z_getI (pc := 14) C zf_X10_73 rfl rfl (by decide) dX10_greatestYears_14 ?_
      refine w_gp (fun v => v = g11_ 25 0 2) rfl (fun v1 q1 => ?_)
      have e1 : v1.toInt = (g11_ 25 0 2).toInt := by rw [q1]
      have b1x : zB v1 0 8 := by first | exact zB.eqv e1 f11_25_0_2 | (have q9 := f11_25_0_2; constructor <;> omega)
      refine z_icmp_ge (pc := 17) 72 C dX10_greatestYears_17 (by decide) (fun h17_1 => ?_) (fun h17_1 => ?_)
      · skip
        have rr3 : a11_4.toInt ≥ v1.toInt := by simp only [z32lt, z32le, z32eq] at h17_1; omega
        refine z_iload_n (pc := 72) C dX10_greatestYears_72 rfl ?_
        exact z_iret (pc := 73) C hr dX10_greatestYears_73 ⟨⟨_, rfl, b11_3⟩, hI11_, hF11_, (by
                                                                                          intro v hv; cases hv
                                                                                          have hn : (f 25 0 2).toInt.toNat = a11_4.toInt.toNat := by omega
                                                                                          unfold zMY
                                                                                          rw [hn]; exact hR11_2)⟩
      · skip
        have rr4 : a11_4.toInt < v1.toInt := by simp only [z32lt, z32le, z32eq] at h17_1; omega
        have b5x : zB a11_4 0 7 := by have q1 := b11_4; have q2 := b1x; simp only [z32lt, z32le, z32eq, Int32.reduceToInt, Int32.toInt_zero] at h17_1; constructor <;> omega
        have b6x : zB v1 1 8 := by have q1 := b11_4; have q2 := b1x; simp only [z32lt, z32le, z32eq, Int32.reduceToInt, Int32.toInt_zero] at h17_1; constructor <;> omega
        have c7x : zB (g11_ 25 0 2) 1 8 := by first | assumption | (constructor <;> omega)
        refine z_aload_n (pc := 20) C dX10_greatestYears_20 rfl ?_
        refine z_aload_n (pc := 21) C dX10_greatestYears_21 rfl ?_
        refine z_getR (pc := 22) C zf_X10_13 rfl rfl (by decide) dX10_greatestYears_22 ?_
        refine z_iconst (pc := 25) (v := 5) C dX10_greatestYears_25 (by decide) ?_
        refine z_iload (pc := 26) C dX10_greatestYears_26 rfl ?_
        refine z_imul (pc := 28) C dX10_greatestYears_28 ?_
        refine w_gp (fun v => v = (5 : Int32) * a11_4) rfl (fun v8 q8 => ?_)
        have e8 : v8.toInt = 5 * a11_4.toInt := by rw [q8]; exact (zmul_kb 5 (by decide) (by decide) b5x (by decide) (by decide))
        have b8x : zB v8 0 35 := zmul_bb e8 (by decide) b5x
        refine z_iald (pc := 29) C rfl (by decide) (zIx b8x (by decide) (by decide)) dX10_greatestYears_29 ?_
        have kq29_8 : v8.toNatClampNeg = v8.toInt.toNat := rfl
        refine w_gp (fun v => v = g11_ 27 0 v8.toNatClampNeg) rfl (fun v9 q9 => ?_)
        have b9x : zB v9 0 63 := by rw [q9]; exact (by have hq9 := hI11_ 27 0 v8.toNatClampNeg; rw [zrg27 (r := 0) (by have hq : v8.toNatClampNeg = v8.toInt.toNat := rfl; have hq2 := b8x; omega)] at hq9; exact hq9)
        refine z_aload_n (pc := 30) C dX10_greatestYears_30 rfl ?_
        refine z_getR (pc := 31) C zf_X10_19 rfl rfl (by decide) dX10_greatestYears_31 ?_
        refine z_iconst (pc := 34) (v := 3) C dX10_greatestYears_34 (by decide) ?_
        refine z_iload_n (pc := 35) C dX10_greatestYears_35 rfl ?_
        refine z_imul (pc := 36) C dX10_greatestYears_36 ?_
        refine w_gp (fun v => v = (3 : Int32) * a1) rfl (fun v10 q10 => ?_)
        have e10 : v10.toInt = 3 * a1.toInt := by rw [q10]; exact (zmul_kb 3 (by decide) (by decide) b1 (by decide) (by decide))
        have b10x : zB v10 0 21 := zmul_bb e10 (by decide) b1
        refine z_iald (pc := 37) C rfl (by decide) (zIx b10x (by decide) (by decide)) dX10_greatestYears_37 ?_
        have kq37_10 : v10.toNatClampNeg = v10.toInt.toNat := rfl
        refine w_gp (fun v => v = g11_ 29 0 v10.toNatClampNeg) rfl (fun v11 q11 => ?_)
        have b11x : zB v11 0 5 := by rw [q11]; exact (by have hq9 := hI11_ 29 0 v10.toNatClampNeg; rw [zrg29 (r := 0) (by have hq : v10.toNatClampNeg = v10.toInt.toNat := rfl; have hq2 := b10x; omega)] at hq9; exact hq9)
        refine z_callV (pc := 38) C zk_X10_123 (x_X10_yearsFor _ _ v9 b9x v11 b11x hI11_) rfl rfl (by decide) rfl rfl (Nat.le_of_ble_eq_true rfl) dX10_greatestYears_38 (fun r12 g12 q12 => ?_)
        obtain ⟨⟨v12, rfl, b12x⟩, hI12, hF12q, hp12_0⟩ := q12
        have hp12_0 := hp12_0 _ rfl
        obtain rfl := zFr_nil hF12q
        simp only [Option.toList, List.cons_append, List.nil_append]
        refine z_istore (pc := 41) C dX10_greatestYears_41 (by rw [hn]; decide) rfl ?_
        refine z_iload_n (pc := 43) C dX10_greatestYears_43 rfl ?_
        refine z_iload (pc := 44) C dX10_greatestYears_44 rfl ?_
        refine z_ishr (pc := 46) C dX10_greatestYears_46 ?_
        refine w_gp (fun v => v = a11_2 >>> (a11_4 &&& 31)) rfl (fun v13 q13 => ?_)
        refine z_iconst (pc := 47) (v := 1) C dX10_greatestYears_47 (by decide) ?_
        refine z_iand (pc := 48) C dX10_greatestYears_48 ?_
        refine w_gp (fun v => v = v13 &&& (1 : Int32)) rfl (fun v14 q14 => ?_)
        have b14x : zB v14 0 1 := by rw [q14]; exact (zand_b (zB_any v13) (zB.of (x := 1) 1 (by decide)) (by decide))
        refine z_iconst (pc := 49) (v := 1) C dX10_greatestYears_49 (by decide) ?_
        refine z_icmp_ne (pc := 50) 64 C dX10_greatestYears_50 (by decide) (fun h50_14 => ?_) (fun h50_14 => ?_)
        · skip
          have b16x : zB v14 0 0 := by have q1 := b14x; have q2 := (zB.of (x := 1) 1 (by decide)); simp only [z32lt, z32le, z32eq, Int32.reduceToInt, Int32.toInt_zero] at h50_14; constructor <;> omega
          refine z_iload_n (pc := 64) C dX10_greatestYears_64 rfl ?_
          refine z_istore_n (pc := 65) C dX10_greatestYears_65 (by rw [hn]; decide) rfl ?_
          refine z_iinc (pc := 66) (v := 1) C dX10_greatestYears_66 rfl (by decide) (by rw [hn]; decide) rfl ?_
          obtain ⟨v17, hv17, e17⟩ : ∃ v : Int32, v = a11_4 + 1 ∧ v.toInt = a11_4.toInt + 1 := ⟨_, rfl, zadd_eb b5x (zB.of (x := 1) 1 (by decide)) (by decide) (by decide)⟩
          rw [← hv17]
          have b17x : zB v17 1 8 := by first | exact zB.eqv e17 b5x | (have q9 := b5x; constructor <;> omega)
          refine z_goto (pc := 69) 11 C dX10_greatestYears_69 (by decide) ?_
          refine w_mask [5] ?_
          exact ih0 a11_2 b11_2 a11_3 b11_3 v17 (zB.wk (a' := 0) (b' := 8) b17x (by decide) (by decide)) g11_ hI11_ hF11_ (zB.wk c7x (by decide) (by decide)) (by exact hR11_0) (by exact hR11_1) (by
                                                                                          have hn : (v17).toInt.toNat = a11_4.toInt.toNat + 1 := by omega
                                                                                          have hi : a11_4 = nI a11_4.toInt.toNat := (nI_ofI (by omega)).1
                                                                                          have b8 : (f 25 0 2).toInt ≤ 8 := (hI 25 0 2).2
                                                                                          have x29 : (v8).toNatClampNeg = 5 * a11_4.toInt.toNat + 0 := by omega
                                                                                          have r29 := q9
                                                                                          rw [x29, hR11_0] at r29
                                                                                          have x37 : (v10).toNatClampNeg = 3 * a1.toInt.toNat + 0 := by omega
                                                                                          have r37 := q11
                                                                                          rw [x37, hR11_0] at r37
                                                                                          have hy := hp12_0
                                                                                          rw [hR11_0, r29, r37] at hy
                                                                                          have hb := zbt_bit (P := zdm f a1.toInt.toNat) (i := a11_4.toInt.toNat) hR11_1 (by omega) (by omega)
                                                                                          have z := z01b (x := a11_2) (a := a11_4.toInt.toNat) (by omega)
                                                                                          rw [← hi, ← q13, ← q14] at z
                                                                                          have hno : ¬ zdm f a1.toInt.toNat a11_4.toInt.toNat := fun h => by
                                                                                            rw [if_pos (hb.mpr h)] at z
                                                                                            exact absurd z (by assumption)
                                                                                          rw [hn, zyg, if_neg hno]; exact hR11_2) (by omega) (by omega) (by omega)
        · skip
          have b18x : zB v14 1 1 := by have q1 := b14x; have q2 := (zB.of (x := 1) 1 (by decide)); simp only [z32lt, z32le, z32eq, Int32.reduceToInt, Int32.toInt_zero] at h50_14; constructor <;> omega
          refine z_iload (pc := 53) C dX10_greatestYears_53 rfl ?_
          refine z_iload_n (pc := 55) C dX10_greatestYears_55 rfl ?_
          refine z_icmp_le (pc := 56) 64 C dX10_greatestYears_56 (by decide) (fun h56_18 => ?_) (fun h56_18 => ?_)
          · skip
            have rr20 : v12.toInt ≤ a11_3.toInt := by simp only [z32lt, z32le, z32eq] at h56_18; omega
            refine z_iload_n (pc := 64) C dX10_greatestYears_64 rfl ?_
            refine z_istore_n (pc := 65) C dX10_greatestYears_65 (by rw [hn]; decide) rfl ?_
            refine z_iinc (pc := 66) (v := 1) C dX10_greatestYears_66 rfl (by decide) (by rw [hn]; decide) rfl ?_
            obtain ⟨v21, hv21, e21⟩ : ∃ v : Int32, v = a11_4 + 1 ∧ v.toInt = a11_4.toInt + 1 := ⟨_, rfl, zadd_eb b5x (zB.of (x := 1) 1 (by decide)) (by decide) (by decide)⟩
            rw [← hv21]
            have b21x : zB v21 1 8 := by have q9 := b5x; constructor <;> omega
            refine z_goto (pc := 69) 11 C dX10_greatestYears_69 (by decide) ?_
            refine w_mask [5] ?_
            exact ih0 a11_2 b11_2 a11_3 b11_3 v21 (zB.wk (a' := 0) (b' := 8) b21x (by decide) (by decide)) g11_ hI11_ hF11_ (zB.wk c7x (by decide) (by decide)) (by exact hR11_0) (by exact hR11_1) (by
                                                                                          have hn : (v21).toInt.toNat = a11_4.toInt.toNat + 1 := by omega
                                                                                          have hi : a11_4 = nI a11_4.toInt.toNat := (nI_ofI (by omega)).1
                                                                                          have b8 : (f 25 0 2).toInt ≤ 8 := (hI 25 0 2).2
                                                                                          have x29 : (v8).toNatClampNeg = 5 * a11_4.toInt.toNat + 0 := by omega
                                                                                          have r29 := q9
                                                                                          rw [x29, hR11_0] at r29
                                                                                          have x37 : (v10).toNatClampNeg = 3 * a1.toInt.toNat + 0 := by omega
                                                                                          have r37 := q11
                                                                                          rw [x37, hR11_0] at r37
                                                                                          have hy := hp12_0
                                                                                          rw [hR11_0, r29, r37] at hy
                                                                                          have hb := zbt_bit (P := zdm f a1.toInt.toNat) (i := a11_4.toInt.toNat) hR11_1 (by omega) (by omega)
                                                                                          have z := z01b (x := a11_2) (a := a11_4.toInt.toNat) (by omega)
                                                                                          rw [← hi, ← q13, ← q14] at z
                                                                                          have hyes : zdm f a1.toInt.toNat a11_4.toInt.toNat := by
                                                                                            refine hb.mp ?_
                                                                                            cases q : bt a11_2 a11_4.toInt.toNat
                                                                                            · rw [q, if_neg (by decide)] at z
                                                                                              exact absurd (show v14 = 1 by assumption) (by rw [z]; decide)
                                                                                            · rfl
                                                                                          rw [hn, zyg, if_pos hyes, ← hR11_2]
                                                                                          show a11_3 = imax a11_3 (zly (fun k j => f 26 0 (6 * k + j)) (f 27 0 (5 * a11_4.toInt.toNat + 0)) (f 29 0 (3 * a1.toInt.toNat + 0)).toInt.toNat (f 25 0 0).toInt.toNat)
                                                                                          rw [← hy, z32eq, imax_e]
                                                                                          omega) (by omega) (by omega) (by omega)
          · skip
            have rr22 : v12.toInt > a11_3.toInt := by simp only [z32lt, z32le, z32eq] at h56_18; omega
            have b23x : zB v12 1 40 := by have q1 := b12x; have q2 := b11_3; simp only [z32lt, z32le, z32eq, Int32.reduceToInt, Int32.toInt_zero] at h56_18; constructor <;> omega
            have b24x : zB a11_3 0 39 := by have q1 := b12x; have q2 := b11_3; simp only [z32lt, z32le, z32eq, Int32.reduceToInt, Int32.toInt_zero] at h56_18; constructor <;> omega
            refine z_iload (pc := 59) C dX10_greatestYears_59 rfl ?_
            refine z_goto (pc := 61) 65 C dX10_greatestYears_61 (by decide) ?_
            refine z_istore_n (pc := 65) C dX10_greatestYears_65 (by rw [hn]; decide) rfl ?_
            refine z_iinc (pc := 66) (v := 1) C dX10_greatestYears_66 rfl (by decide) (by rw [hn]; decide) rfl ?_
            obtain ⟨v25, hv25, e25⟩ : ∃ v : Int32, v = a11_4 + 1 ∧ v.toInt = a11_4.toInt + 1 := ⟨_, rfl, zadd_eb b5x (zB.of (x := 1) 1 (by decide)) (by decide) (by decide)⟩
            rw [← hv25]
            have b25x : zB v25 1 8 := by have q9 := b5x; constructor <;> omega
            refine z_goto (pc := 69) 11 C dX10_greatestYears_69 (by decide) ?_
            refine w_mask [5] ?_
            exact ih0 a11_2 b11_2 v12 (zB.wk (a' := 0) (b' := 40) b23x (by decide) (by decide)) v25 (zB.wk (a' := 0) (b' := 8) b25x (by decide) (by decide)) g11_ hI11_ hF11_ (zB.wk c7x (by decide) (by decide)) (by exact hR11_0) (by exact hR11_1) (by
                                                                                          have hn : (v25).toInt.toNat = a11_4.toInt.toNat + 1 := by omega
                                                                                          have hi : a11_4 = nI a11_4.toInt.toNat := (nI_ofI (by omega)).1
                                                                                          have b8 : (f 25 0 2).toInt ≤ 8 := (hI 25 0 2).2
                                                                                          have x29 : (v8).toNatClampNeg = 5 * a11_4.toInt.toNat + 0 := by omega
                                                                                          have r29 := q9
                                                                                          rw [x29, hR11_0] at r29
                                                                                          have x37 : (v10).toNatClampNeg = 3 * a1.toInt.toNat + 0 := by omega
                                                                                          have r37 := q11
                                                                                          rw [x37, hR11_0] at r37
                                                                                          have hy := hp12_0
                                                                                          rw [hR11_0, r29, r37] at hy
                                                                                          have hb := zbt_bit (P := zdm f a1.toInt.toNat) (i := a11_4.toInt.toNat) hR11_1 (by omega) (by omega)
                                                                                          have z := z01b (x := a11_2) (a := a11_4.toInt.toNat) (by omega)
                                                                                          rw [← hi, ← q13, ← q14] at z
                                                                                          have hyes : zdm f a1.toInt.toNat a11_4.toInt.toNat := by
                                                                                            refine hb.mp ?_
                                                                                            cases q : bt a11_2 a11_4.toInt.toNat
                                                                                            · rw [q, if_neg (by decide)] at z
                                                                                              exact absurd (show v14 = 1 by assumption) (by rw [z]; decide)
                                                                                            · rfl
                                                                                          rw [hn, zyg, if_pos hyes, ← hR11_2]
                                                                                          show v12 = imax a11_3 (zly (fun k j => f 26 0 (6 * k + j)) (f 27 0 (5 * a11_4.toInt.toNat + 0)) (f 29 0 (3 * a1.toInt.toNat + 0)).toInt.toNat (f 25 0 0).toInt.toNat)
                                                                                          rw [← hy, z32eq, imax_e]
                                                                                          omega) (by omega) (by omega) (by omega)
  have J0 := J 39
  show Z X 0 [some (zr 25 0), some (zi a1), none, none, none, none] [] f
  refine z_aload_n (pc := 0) C dX10_greatestYears_0 rfl ?_
  refine z_iload_n (pc := 1) C dX10_greatestYears_1 rfl ?_
  refine z_callV (pc := 2) C zk_X10_182 (x_X10_standsFor _ _ a1 b1 (by exact hp0) hI) rfl rfl (by decide) rfl rfl (Nat.le_of_ble_eq_true rfl) dX10_greatestYears_2 (fun r26 g26 q26 => ?_)
  obtain ⟨⟨v26, rfl, b26x⟩, hI26, hF26q, hp26_0⟩ := q26
  have hp26_0 := hp26_0 _ rfl
  obtain rfl := zFr_nil hF26q
  simp only [Option.toList, List.cons_append, List.nil_append]
  refine z_istore_n (pc := 5) C dX10_greatestYears_5 (by rw [hn]; decide) rfl ?_
  refine z_iconst (pc := 6) (v := 0) C dX10_greatestYears_6 (by decide) ?_
  refine z_istore_n (pc := 7) C dX10_greatestYears_7 (by rw [hn]; decide) rfl ?_
  refine z_iconst (pc := 8) (v := 0) C dX10_greatestYears_8 (by decide) ?_
  refine z_istore (pc := 9) C dX10_greatestYears_9 (by rw [hn]; decide) rfl ?_
  exact J0 v26 b26x 0 (zB.wk (a' := 0) (b' := 40) (zB.of (x := 0) 0 (by decide)) (by decide) (by decide)) 0 (zB.wk (a' := 0) (b' := 8) (zB.of (x := 0) 0 (by decide)) (by decide) (by decide)) f hI hF ct25_0_2 (by rfl) (by exact hp26_0) (by rfl) (by have qc0 : (0 : Int32).toInt = 0 := (by decide); omega) (by have qc0 : (0 : Int32).toInt = 0 := (by decide); omega) (by have qc0 : (0 : Int32).toInt = 0 := (by decide); omega)

set_option maxRecDepth 100000 in
set_option maxHeartbeats 4000000 in
theorem x_X10_wasThere (d : Nat) (f : zM) (a1 : Int32) (b1 : zB a1 0 7) (hp0 : zOp f) (hI : zInv f) : ZM (d + 7) yX10_wasThere cX10_wasThere 5 (some .int) [zr 25 0, zi a1] f (fun r g => (∃ v, r = some (zi v) ∧ zB v 0 1) ∧ zInv g ∧ zFr [] f g ∧ (∀ v : Int32, r = some (zi v) → zbo v (zMH f a1.toInt.toNat))) := by
  refine ZM.intro (by decide +kernel) (Nat.le_of_ble_eq_true rfl) ?_
  intro X C hr hn
  have hF : zFr [] f f := zFr.rf _ _
  have ct25_0_2 : zB (f 25 0 2) 0 8 := hI 25 0 2
  have J : ∀ t : Nat, (∀ a11_2 : Int32, zB a11_2 0 255 → ∀ a11_3 : Int32, zB a11_3 0 1 → ∀ a11_4 : Int32, zB a11_4 0 8 → ∀ g : zM, zInv g → zFr [] f g → zB (g 25 0 2) 0 8 → (g = f) → (a11_2 = zMS f a1.toInt.toNat) → (zbo a11_3 (zHm f a1.toInt.toNat a11_4.toInt.toNat)) → (a11_4.toInt ≤ (f 25 0 2).toInt) → ((g 25 0 2).toInt = (f 25 0 2).toInt) → (0 + 3 * (8 - a11_4.toInt) : Int) < t → Z X 11 [some (zr 25 0), some (zi a1), some (zi a11_2), some (zi a11_3), some (zi a11_4)] [] g) := by
    intro t
    induction t with
    | zero =>
      intros; exfalso; omega
    | succ t ih =>
      have ih0 := ih
      intro a11_2 b11_2 a11_3 b11_3 a11_4 b11_4 g11_ hI11_ hF11_ f11_25_0_2 hR11_0 hR11_1 hR11_2 hR11_3 hR11_4 hM11_
      refine z_iload (pc := 11) C dX10_wasThere_11 rfl ?_
      refine z_aload_n (pc := 13) C dX10_wasThere_13 rfl ?_
      refine z_getI (pc := 14) C zf_X10_73 rfl rfl (by decide) dX10_wasThere_14 ?_
      refine w_gp (fun v => v = g11_ 25 0 2) rfl (fun v1 q1 => ?_)
      have e1 : v1.toInt = (g11_ 25 0 2).toInt := by rw [q1]
      have b1x : zB v1 0 8 := by first | exact zB.eqv e1 f11_25_0_2 | (have q9 := f11_25_0_2; constructor <;> omega)
      refine z_icmp_ge (pc := 17) 64 C dX10_wasThere_17 (by decide) (fun h17_1 => ?_) (fun h17_1 => ?_)
      · skip
        have rr3 : a11_4.toInt ≥ v1.toInt := by simp only [z32lt, z32le, z32eq] at h17_1; omega
        refine z_iload_n (pc := 64) C dX10_wasThere_64 rfl ?_
        exact z_iret (pc := 65) C hr dX10_wasThere_65 ⟨⟨_, rfl, b11_3⟩, hI11_, hF11_, (by
                                                                                          intro v hv; cases hv
                                                                                          have hn : (f 25 0 2).toInt.toNat = a11_4.toInt.toNat := by omega
                                                                                          unfold zMH
                                                                                          rw [hn]; exact hR11_2)⟩
      · skip
        have rr4 : a11_4.toInt < v1.toInt := by simp only [z32lt, z32le, z32eq] at h17_1; omega
        have b5x : zB a11_4 0 7 := by have q1 := b11_4; have q2 := b1x; simp only [z32lt, z32le, z32eq, Int32.reduceToInt, Int32.toInt_zero] at h17_1; constructor <;> omega
        have b6x : zB v1 1 8 := by have q1 := b11_4; have q2 := b1x; simp only [z32lt, z32le, z32eq, Int32.reduceToInt, Int32.toInt_zero] at h17_1; constructor <;> omega
        have c7x : zB (g11_ 25 0 2) 1 8 := by first | assumption | (constructor <;> omega)
        refine z_iload_n (pc := 20) C dX10_wasThere_20 rfl ?_
        refine z_iload (pc := 21) C dX10_wasThere_21 rfl ?_
        refine z_ishr (pc := 23) C dX10_wasThere_23 ?_
        refine w_gp (fun v => v = a11_2 >>> (a11_4 &&& 31)) rfl (fun v8 q8 => ?_)
        refine z_iconst (pc := 24) (v := 1) C dX10_wasThere_24 (by decide) ?_
        refine z_iand (pc := 25) C dX10_wasThere_25 ?_
        refine w_gp (fun v => v = v8 &&& (1 : Int32)) rfl (fun v9 q9 => ?_)
        have b9x : zB v9 0 1 := by rw [q9]; exact (zand_b (zB_any v8) (zB.of (x := 1) 1 (by decide)) (by decide))
        refine z_iconst (pc := 26) (v := 1) C dX10_wasThere_26 (by decide) ?_
        refine z_icmp_ne (pc := 27) 56 C dX10_wasThere_27 (by decide) (fun h27_9 => ?_) (fun h27_9 => ?_)
        · skip
          have b11x : zB v9 0 0 := by have q1 := b9x; have q2 := (zB.of (x := 1) 1 (by decide)); simp only [z32lt, z32le, z32eq, Int32.reduceToInt, Int32.toInt_zero] at h27_9; constructor <;> omega
          refine z_iload_n (pc := 56) C dX10_wasThere_56 rfl ?_
          refine z_istore_n (pc := 57) C dX10_wasThere_57 (by rw [hn]; decide) rfl ?_
          refine z_iinc (pc := 58) (v := 1) C dX10_wasThere_58 rfl (by decide) (by rw [hn]; decide) rfl ?_
          obtain ⟨v12, hv12, e12⟩ : ∃ v : Int32, v = a11_4 + 1 ∧ v.toInt = a11_4.toInt + 1 := ⟨_, rfl, zadd_eb b5x (zB.of (x := 1) 1 (by decide)) (by decide) (by decide)⟩
          rw [← hv12]
          have b12x : zB v12 1 8 := by have q9 := b5x; constructor <;> omega
          refine z_goto (pc := 61) 11 C dX10_wasThere_61 (by decide) ?_
          exact ih0 a11_2 b11_2 a11_3 b11_3 v12 (zB.wk (a' := 0) (b' := 8) b12x (by decide) (by decide)) g11_ hI11_ hF11_ (zB.wk c7x (by decide) (by decide)) (by exact hR11_0) (by exact hR11_1) (by
                                                                                          have hn : (v12).toInt.toNat = a11_4.toInt.toNat + 1 := by omega
                                                                                          have hi : a11_4 = nI a11_4.toInt.toNat := (nI_ofI (by omega)).1
                                                                                          have b8 : (f 25 0 2).toInt ≤ 8 := (hI 25 0 2).2
                                                                                          have hb := zbt_bit (P := zdm f a1.toInt.toNat) (i := a11_4.toInt.toNat) hR11_1 (by omega) (by omega)
                                                                                          have z := z01b (x := a11_2) (a := a11_4.toInt.toNat) (by omega)
                                                                                          rw [← hi, ← q8, ← q9] at z
                                                                                          rw [hn]
                                                                                          have hno : ¬ zdm f a1.toInt.toNat a11_4.toInt.toNat := fun h => by
                                                                                            rw [if_pos (hb.mpr h)] at z
                                                                                            exact absurd z (by assumption)
                                                                                          rcases hR11_2 with ⟨y1, y2⟩ | ⟨y1, y2⟩
                                                                                          · exact Or.inl ⟨y1, zHm_s.mpr (Or.inl y2)⟩
                                                                                          · exact Or.inr ⟨y1, fun h => (zHm_s.mp h).elim y2 (fun h2 => hno h2.1)⟩) (by omega) (by omega) (by omega)
        · skip
          have b13x : zB v9 1 1 := by have q1 := b9x; have q2 := (zB.of (x := 1) 1 (by decide)); simp only [z32lt, z32le, z32eq, Int32.reduceToInt, Int32.toInt_zero] at h27_9; constructor <;> omega
          refine z_aload_n (pc := 30) C dX10_wasThere_30 rfl ?_
          refine z_getR (pc := 31) C zf_X10_13 rfl rfl (by decide) dX10_wasThere_31 ?_
          refine z_iconst (pc := 34) (v := 5) C dX10_wasThere_34 (by decide) ?_
          refine z_iload (pc := 35) C dX10_wasThere_35 rfl ?_
          refine z_imul (pc := 37) C dX10_wasThere_37 ?_
          refine w_gp (fun v => v = (5 : Int32) * a11_4) rfl (fun v14 q14 => ?_)
          have e14 : v14.toInt = 5 * a11_4.toInt := by rw [q14]; exact (zmul_kb 5 (by decide) (by decide) b5x (by decide) (by decide))
          have b14x : zB v14 0 35 := zmul_bb e14 (by decide) b5x
          refine z_iconst (pc := 38) (v := 2) C dX10_wasThere_38 (by decide) ?_
          refine z_iadd (pc := 39) C dX10_wasThere_39 ?_
          refine w_gp (fun v => v = v14 + (2 : Int32)) rfl (fun v15 q15 => ?_)
          have e15 : v15.toInt = v14.toInt + 2 := by rw [q15]; exact (zadd_eb b14x (zB.of (x := 2) 2 (by decide)) (by decide) (by decide))
          have b15x : zB v15 2 37 := by have q1 := b14x; have q2 := (zB.of (x := 2) 2 (by decide)); constructor <;> omega
          refine z_iald (pc := 40) C rfl (by decide) (zIx b15x (by decide) (by decide)) dX10_wasThere_40 ?_
          have kq40_15 : v15.toNatClampNeg = v15.toInt.toNat := rfl
          refine w_gp (fun v => v = g11_ 27 0 v15.toNatClampNeg) rfl (fun v16 q16 => ?_)
          have b16x : zB v16 0 5 := by rw [q16]; exact (by have hq9 := hI11_ 27 0 v15.toNatClampNeg; rw [zrg27 (r := 2) (by have hq : v15.toNatClampNeg = v15.toInt.toNat := rfl; have hq2 := b15x; omega)] at hq9; exact hq9)
          refine z_aload_n (pc := 41) C dX10_wasThere_41 rfl ?_
          refine z_getR (pc := 42) C zf_X10_19 rfl rfl (by decide) dX10_wasThere_42 ?_
          refine z_iconst (pc := 45) (v := 3) C dX10_wasThere_45 (by decide) ?_
          refine z_iload_n (pc := 46) C dX10_wasThere_46 rfl ?_
          refine z_imul (pc := 47) C dX10_wasThere_47 ?_
          refine w_gp (fun v => v = (3 : Int32) * a1) rfl (fun v17 q17 => ?_)
          have e17 : v17.toInt = 3 * a1.toInt := by rw [q17]; exact (zmul_kb 3 (by decide) (by decide) b1 (by decide) (by decide))
          have b17x : zB v17 0 21 := zmul_bb e17 (by decide) b1
          refine z_iald (pc := 48) C rfl (by decide) (zIx b17x (by decide) (by decide)) dX10_wasThere_48 ?_
          have kq48_17 : v17.toNatClampNeg = v17.toInt.toNat := rfl
          refine w_gp (fun v => v = g11_ 29 0 v17.toNatClampNeg) rfl (fun v18 q18 => ?_)
          have b18x : zB v18 0 5 := by rw [q18]; exact (by have hq9 := hI11_ 29 0 v17.toNatClampNeg; rw [zrg29 (r := 0) (by have hq : v17.toNatClampNeg = v17.toInt.toNat := rfl; have hq2 := b17x; omega)] at hq9; exact hq9)
          refine z_icmp_ne (pc := 49) 56 C dX10_wasThere_49 (by decide) (fun h49_18 => ?_) (fun h49_18 => ?_)
          · skip
            refine z_iload_n (pc := 56) C dX10_wasThere_56 rfl ?_
            refine z_istore_n (pc := 57) C dX10_wasThere_57 (by rw [hn]; decide) rfl ?_
            refine z_iinc (pc := 58) (v := 1) C dX10_wasThere_58 rfl (by decide) (by rw [hn]; decide) rfl ?_
            obtain ⟨v20, hv20, e20⟩ : ∃ v : Int32, v = a11_4 + 1 ∧ v.toInt = a11_4.toInt + 1 := ⟨_, rfl, zadd_eb b5x (zB.of (x := 1) 1 (by decide)) (by decide) (by decide)⟩
            rw [← hv20]
            have b20x : zB v20 1 8 := by have q9 := b5x; constructor <;> omega
            refine z_goto (pc := 61) 11 C dX10_wasThere_61 (by decide) ?_
            exact ih0 a11_2 b11_2 a11_3 b11_3 v20 (zB.wk (a' := 0) (b' := 8) b20x (by decide) (by decide)) g11_ hI11_ hF11_ (zB.wk c7x (by decide) (by decide)) (by exact hR11_0) (by exact hR11_1) (by
                                                                                          have hn : (v20).toInt.toNat = a11_4.toInt.toNat + 1 := by omega
                                                                                          have hi : a11_4 = nI a11_4.toInt.toNat := (nI_ofI (by omega)).1
                                                                                          have b8 : (f 25 0 2).toInt ≤ 8 := (hI 25 0 2).2
                                                                                          have hb := zbt_bit (P := zdm f a1.toInt.toNat) (i := a11_4.toInt.toNat) hR11_1 (by omega) (by omega)
                                                                                          have z := z01b (x := a11_2) (a := a11_4.toInt.toNat) (by omega)
                                                                                          rw [← hi, ← q8, ← q9] at z
                                                                                          rw [hn]
                                                                                          have hyes : zdm f a1.toInt.toNat a11_4.toInt.toNat := by
                                                                                            refine hb.mp ?_
                                                                                            cases q : bt a11_2 a11_4.toInt.toNat
                                                                                            · rw [q, if_neg (by decide)] at z
                                                                                              exact absurd (show v9 = 1 by assumption) (by rw [z]; decide)
                                                                                            · rfl
                                                                                          have x40 : (v15).toNatClampNeg = 5 * a11_4.toInt.toNat + 2 := by omega
                                                                                          have r40 := q16
                                                                                          rw [x40, hR11_0] at r40
                                                                                          have x48 : (v17).toNatClampNeg = 3 * a1.toInt.toNat + 0 := by omega
                                                                                          have r48 := q18
                                                                                          rw [x48, hR11_0] at r48
                                                                                          rcases hR11_2 with ⟨y1, y2⟩ | ⟨y1, y2⟩
                                                                                          · exact Or.inl ⟨y1, zHm_s.mpr (Or.inl y2)⟩
                                                                                          · exact Or.inr ⟨y1, fun h => (zHm_s.mp h).elim y2 (fun h2 => absurd (r40.trans (h2.2.trans r48.symm)) (by assumption))⟩) (by omega) (by omega) (by omega)
          · skip
            have rr21 : v16.toInt = v18.toInt := by simp only [z32lt, z32le, z32eq] at h49_18; omega
            refine z_iconst (pc := 52) (v := 1) C dX10_wasThere_52 (by decide) ?_
            refine z_goto (pc := 53) 57 C dX10_wasThere_53 (by decide) ?_
            refine z_istore_n (pc := 57) C dX10_wasThere_57 (by rw [hn]; decide) rfl ?_
            refine z_iinc (pc := 58) (v := 1) C dX10_wasThere_58 rfl (by decide) (by rw [hn]; decide) rfl ?_
            obtain ⟨v22, hv22, e22⟩ : ∃ v : Int32, v = a11_4 + 1 ∧ v.toInt = a11_4.toInt + 1 := ⟨_, rfl, zadd_eb b5x (zB.of (x := 1) 1 (by decide)) (by decide) (by decide)⟩
            rw [← hv22]
            have b22x : zB v22 1 8 := by have q9 := b5x; constructor <;> omega
            refine z_goto (pc := 61) 11 C dX10_wasThere_61 (by decide) ?_
            exact ih0 a11_2 b11_2 1 (zB.wk (a' := 0) (b' := 1) (zB.of (x := 1) 1 (by decide)) (by decide) (by decide)) v22 (zB.wk (a' := 0) (b' := 8) b22x (by decide) (by decide)) g11_ hI11_ hF11_ (zB.wk c7x (by decide) (by decide)) (by exact hR11_0) (by exact hR11_1) (by
                                                                                          have hn : (v22).toInt.toNat = a11_4.toInt.toNat + 1 := by omega
                                                                                          have hi : a11_4 = nI a11_4.toInt.toNat := (nI_ofI (by omega)).1
                                                                                          have b8 : (f 25 0 2).toInt ≤ 8 := (hI 25 0 2).2
                                                                                          have hb := zbt_bit (P := zdm f a1.toInt.toNat) (i := a11_4.toInt.toNat) hR11_1 (by omega) (by omega)
                                                                                          have z := z01b (x := a11_2) (a := a11_4.toInt.toNat) (by omega)
                                                                                          rw [← hi, ← q8, ← q9] at z
                                                                                          rw [hn]
                                                                                          have hyes : zdm f a1.toInt.toNat a11_4.toInt.toNat := by
                                                                                            refine hb.mp ?_
                                                                                            cases q : bt a11_2 a11_4.toInt.toNat
                                                                                            · rw [q, if_neg (by decide)] at z
                                                                                              exact absurd (show v9 = 1 by assumption) (by rw [z]; decide)
                                                                                            · rfl
                                                                                          have x40 : (v15).toNatClampNeg = 5 * a11_4.toInt.toNat + 2 := by omega
                                                                                          have r40 := q16
                                                                                          rw [x40, hR11_0] at r40
                                                                                          have x48 : (v17).toNatClampNeg = 3 * a1.toInt.toNat + 0 := by omega
                                                                                          have r48 := q18
                                                                                          rw [x48, hR11_0] at r48
                                                                                          exact Or.inl ⟨rfl, zHm_s.mpr (Or.inr ⟨hyes, r40.symm.trans ((show v16 = v18 by assumption).trans r48)⟩)⟩) (by have qc0 : (1 : Int32).toInt = 1 := (by decide); omega) (by have qc0 : (1 : Int32).toInt = 1 := (by decide); omega) (by have qc0 : (1 : Int32).toInt = 1 := (by decide); omega)
  have J0 := J 39
  show Z X 0 [some (zr 25 0), some (zi a1), none, none, none] [] f
  refine z_aload_n (pc := 0) C dX10_wasThere_0 rfl ?_
  refine z_iload_n (pc := 1) C dX10_wasThere_1 rfl ?_
  refine z_callV (pc := 2) C zk_X10_182 (x_X10_standsFor _ _ a1 b1 (by exact hp0) hI) rfl rfl (by decide) rfl rfl (Nat.le_of_ble_eq_true rfl) dX10_wasThere_2 (fun r23 g23 q23 => ?_)
  obtain ⟨⟨v23, rfl, b23x⟩, hI23, hF23q, hp23_0⟩ := q23
  have hp23_0 := hp23_0 _ rfl
  obtain rfl := zFr_nil hF23q
  simp only [Option.toList, List.cons_append, List.nil_append]
  refine z_istore_n (pc := 5) C dX10_wasThere_5 (by rw [hn]; decide) rfl ?_
  refine z_iconst (pc := 6) (v := 0) C dX10_wasThere_6 (by decide) ?_
  refine z_istore_n (pc := 7) C dX10_wasThere_7 (by rw [hn]; decide) rfl ?_
  refine z_iconst (pc := 8) (v := 0) C dX10_wasThere_8 (by decide) ?_
  refine z_istore (pc := 9) C dX10_wasThere_9 (by rw [hn]; decide) rfl ?_
  exact J0 v23 b23x 0 (zB.wk (a' := 0) (b' := 1) (zB.of (x := 0) 0 (by decide)) (by decide) (by decide)) 0 (zB.wk (a' := 0) (b' := 8) (zB.of (x := 0) 0 (by decide)) (by decide) (by decide)) f hI hF ct25_0_2 (by rfl) (by exact hp23_0) (by exact Or.inr ⟨rfl, fun ⟨d, h, _⟩ => absurd h (Nat.not_lt_zero d)⟩) (by have qc0 : (0 : Int32).toInt = 0 := (by decide); omega) (by have qc0 : (0 : Int32).toInt = 0 := (by decide); omega) (by have qc0 : (0 : Int32).toInt = 0 := (by decide); omega)

set_option maxRecDepth 100000 in
set_option maxHeartbeats 4000000 in
theorem x_X10_isAhead (d : Nat) (f : zM) (a1 : Int32) (b1 : zB a1 0 7) (a2 : Int32) (b2 : zB a2 0 7) (hp0 : zOp f) (hI : zInv f) : ZM (d + 8) yX10_isAhead cX10_isAhead 5 (some .boolean) [zr 25 0, zi a1, zi a2] f (fun r g => (∃ v, r = some (zi v) ∧ zB v 0 1) ∧ zInv g ∧ zFr [] f g ∧ (∀ v : Int32, r = some (zi v) → zbo v (zah (zMY f) (zMH f) (fun k => f 29 0 (3 * k + 2)) a1.toInt.toNat a2.toInt.toNat))) := by
  refine ZM.intro (by decide +kernel) (Nat.le_of_ble_eq_true rfl) ?_
  intro X C hr hn
  have hF : zFr [] f f := zFr.rf _ _
  show Z X 0 [some (zr 25 0), some (zi a1), some (zi a2), none, none] [] f
  refine z_aload_n (pc := 0) C dX10_isAhead_0 rfl ?_
  refine z_iload_n (pc := 1) C dX10_isAhead_1 rfl ?_
  refine z_callV (pc := 2) C zk_X10_185 (x_X10_greatestYears _ _ a1 b1 (by exact hp0) hI) rfl rfl (by decide) rfl rfl (Nat.le_of_ble_eq_true rfl) dX10_isAhead_2 (fun r1 g1 q1 => ?_)
  obtain ⟨⟨v1, rfl, b1x⟩, hI1, hF1q, hp1_0⟩ := q1
  have hp1_0 := hp1_0 _ rfl
  obtain rfl := zFr_nil hF1q
  simp only [Option.toList, List.cons_append, List.nil_append]
  refine z_istore_n (pc := 5) C dX10_isAhead_5 (by rw [hn]; decide) rfl ?_
  refine z_aload_n (pc := 6) C dX10_isAhead_6 rfl ?_
  refine z_iload_n (pc := 7) C dX10_isAhead_7 rfl ?_
  refine z_callV (pc := 8) C zk_X10_185 (x_X10_greatestYears _ _ a2 b2 (by exact hp0) hI) rfl rfl (by decide) rfl rfl (Nat.le_of_ble_eq_true rfl) dX10_isAhead_8 (fun r2 g2 q2 => ?_)
  obtain ⟨⟨v2, rfl, b2x⟩, hI2, hF2q, hp2_0⟩ := q2
  have hp2_0 := hp2_0 _ rfl
  obtain rfl := zFr_nil hF2q
  simp only [Option.toList, List.cons_append, List.nil_append]
  refine z_istore (pc := 11) C dX10_isAhead_11 (by rw [hn]; decide) rfl ?_
  refine z_iload_n (pc := 13) C dX10_isAhead_13 rfl ?_
  refine z_iload (pc := 14) C dX10_isAhead_14 rfl ?_
  refine z_icmp_eq (pc := 16) 31 C dX10_isAhead_16 (by decide) (fun h16_2 => ?_) (fun h16_2 => ?_)
  · skip
    have rr4 : v1.toInt = v2.toInt := by simp only [z32lt, z32le, z32eq] at h16_2; omega
    refine z_aload_n (pc := 31) C dX10_isAhead_31 rfl ?_
    refine z_iload_n (pc := 32) C dX10_isAhead_32 rfl ?_
    refine z_callV (pc := 33) C zk_X10_188 (x_X10_wasThere _ _ a1 b1 (by exact hp0) hI) rfl rfl (by decide) rfl rfl (Nat.le_of_ble_eq_true rfl) dX10_isAhead_33 (fun r5 g5 q5 => ?_)
    obtain ⟨⟨v5, rfl, b5x⟩, hI5, hF5q, hp5_0⟩ := q5
    have hp5_0 := hp5_0 _ rfl
    obtain rfl := zFr_nil hF5q
    simp only [Option.toList, List.cons_append, List.nil_append]
    refine z_aload_n (pc := 36) C dX10_isAhead_36 rfl ?_
    refine z_iload_n (pc := 37) C dX10_isAhead_37 rfl ?_
    refine z_callV (pc := 38) C zk_X10_188 (x_X10_wasThere _ _ a2 b2 (by exact hp0) hI) rfl rfl (by decide) rfl rfl (Nat.le_of_ble_eq_true rfl) dX10_isAhead_38 (fun r6 g6 q6 => ?_)
    obtain ⟨⟨v6, rfl, b6x⟩, hI6, hF6q, hp6_0⟩ := q6
    have hp6_0 := hp6_0 _ rfl
    obtain rfl := zFr_nil hF6q
    simp only [Option.toList, List.cons_append, List.nil_append]
    refine z_icmp_eq (pc := 41) 63 C dX10_isAhead_41 (by decide) (fun h41_6 => ?_) (fun h41_6 => ?_)
    · skip
      have rr8 : v5.toInt = v6.toInt := by simp only [z32lt, z32le, z32eq] at h41_6; omega
      refine z_aload_n (pc := 63) C dX10_isAhead_63 rfl ?_
      refine z_getR (pc := 64) C zf_X10_19 rfl rfl (by decide) dX10_isAhead_64 ?_
      refine z_iconst (pc := 67) (v := 3) C dX10_isAhead_67 (by decide) ?_
      refine z_iload_n (pc := 68) C dX10_isAhead_68 rfl ?_
      refine z_imul (pc := 69) C dX10_isAhead_69 ?_
      refine w_gp (fun v => v = (3 : Int32) * a1) rfl (fun v9 q9 => ?_)
      have e9 : v9.toInt = 3 * a1.toInt := by rw [q9]; exact (zmul_kb 3 (by decide) (by decide) b1 (by decide) (by decide))
      have b9x : zB v9 0 21 := zmul_bb e9 (by decide) b1
      refine z_iconst (pc := 70) (v := 2) C dX10_isAhead_70 (by decide) ?_
      refine z_iadd (pc := 71) C dX10_isAhead_71 ?_
      refine w_gp (fun v => v = v9 + (2 : Int32)) rfl (fun v10 q10 => ?_)
      have e10 : v10.toInt = v9.toInt + 2 := by rw [q10]; exact (zadd_eb b9x (zB.of (x := 2) 2 (by decide)) (by decide) (by decide))
      have b10x : zB v10 2 23 := by have q1 := b9x; have q2 := (zB.of (x := 2) 2 (by decide)); constructor <;> omega
      refine z_iald (pc := 72) C rfl (by decide) (zIx b10x (by decide) (by decide)) dX10_isAhead_72 ?_
      have kq72_10 : v10.toNatClampNeg = v10.toInt.toNat := rfl
      refine w_gp (fun v => v = f 29 0 v10.toNatClampNeg) rfl (fun v11 q11 => ?_)
      have b11x : zB v11 0 99 := by rw [q11]; exact (by have hq9 := hI 29 0 v10.toNatClampNeg; rw [zrg29 (r := 2) (by have hq : v10.toNatClampNeg = v10.toInt.toNat := rfl; have hq2 := b10x; omega)] at hq9; exact hq9)
      refine z_aload_n (pc := 73) C dX10_isAhead_73 rfl ?_
      refine z_getR (pc := 74) C zf_X10_19 rfl rfl (by decide) dX10_isAhead_74 ?_
      refine z_iconst (pc := 77) (v := 3) C dX10_isAhead_77 (by decide) ?_
      refine z_iload_n (pc := 78) C dX10_isAhead_78 rfl ?_
      refine z_imul (pc := 79) C dX10_isAhead_79 ?_
      refine w_gp (fun v => v = (3 : Int32) * a2) rfl (fun v12 q12 => ?_)
      have e12 : v12.toInt = 3 * a2.toInt := by rw [q12]; exact (zmul_kb 3 (by decide) (by decide) b2 (by decide) (by decide))
      have b12x : zB v12 0 21 := zmul_bb e12 (by decide) b2
      refine z_iconst (pc := 80) (v := 2) C dX10_isAhead_80 (by decide) ?_
      refine z_iadd (pc := 81) C dX10_isAhead_81 ?_
      refine w_gp (fun v => v = v12 + (2 : Int32)) rfl (fun v13 q13 => ?_)
      have e13 : v13.toInt = v12.toInt + 2 := by rw [q13]; exact (zadd_eb b12x (zB.of (x := 2) 2 (by decide)) (by decide) (by decide))
      have b13x : zB v13 2 23 := by have q1 := b12x; have q2 := (zB.of (x := 2) 2 (by decide)); constructor <;> omega
      refine z_iald (pc := 82) C rfl (by decide) (zIx b13x (by decide) (by decide)) dX10_isAhead_82 ?_
      have kq82_13 : v13.toNatClampNeg = v13.toInt.toNat := rfl
      refine w_gp (fun v => v = f 29 0 v13.toNatClampNeg) rfl (fun v14 q14 => ?_)
      have b14x : zB v14 0 99 := by rw [q14]; exact (by have hq9 := hI 29 0 v13.toNatClampNeg; rw [zrg29 (r := 2) (by have hq : v13.toNatClampNeg = v13.toInt.toNat := rfl; have hq2 := b13x; omega)] at hq9; exact hq9)
      refine z_icmp_eq (pc := 83) 117 C dX10_isAhead_83 (by decide) (fun h83_14 => ?_) (fun h83_14 => ?_)
      · skip
        have rr16 : v11.toInt = v14.toInt := by simp only [z32lt, z32le, z32eq] at h83_14; omega
        refine z_iload_n (pc := 117) C dX10_isAhead_117 rfl ?_
        refine z_iload_n (pc := 118) C dX10_isAhead_118 rfl ?_
        refine z_icmp_ge (pc := 119) 126 C dX10_isAhead_119 (by decide) (fun h119_16 => ?_) (fun h119_16 => ?_)
        · skip
          have rr18 : a1.toInt ≥ a2.toInt := by simp only [z32lt, z32le, z32eq] at h119_16; omega
          refine z_iconst (pc := 126) (v := 0) C dX10_isAhead_126 (by decide) ?_
          exact z_zret (pc := 127) C hr (z01 (zB.wk (a' := 0) (b' := 1) (zB.of (x := 0) 0 (by decide)) (by decide) (by decide))) dX10_isAhead_127 ⟨⟨_, rfl, (zB.wk (a' := 0) (b' := 1) (zB.of (x := 0) 0 (by decide)) (by decide) (by decide))⟩, hI, hF, (by
                                                                                          intro v hv; cases hv
                                                                                          have y1 := hp1_0
                                                                                          have y2 := hp2_0
                                                                                          have hy : (zMY f a1.toInt.toNat).toInt = (zMY f a2.toInt.toNat).toInt := by rw [← y1, ← y2]; exact (z32eq _ _).mp (by assumption)
                                                                                          have w1 := hp5_0
                                                                                          have w2 := hp6_0
                                                                                          have x72 : (v10).toNatClampNeg = 3 * a1.toInt.toNat + 2 := by omega
                                                                                          have r72 := q11
                                                                                          rw [x72] at r72
                                                                                          have x82 : (v13).toNatClampNeg = 3 * a2.toInt.toNat + 2 := by omega
                                                                                          have r82 := q14
                                                                                          rw [x82] at r82
                                                                                          have hz : zah (zMY f) (zMH f) (fun k => f 29 0 (3 * k + 2)) a1.toInt.toNat a2.toInt.toNat ↔ _ := zah_d hy (zbo_i w1 w2 ((z32eq _ _).mp (by assumption)))
                                                                                          rw [← r72, ← r82] at hz
                                                                                          first
                                                                                            | exact Or.inl ⟨rfl, hz.mpr (by omega)⟩
                                                                                            | exact Or.inr ⟨rfl, fun h => by have h2 := hz.mp h; omega⟩)⟩
        · skip
          have rr19 : a1.toInt < a2.toInt := by simp only [z32lt, z32le, z32eq] at h119_16; omega
          have b20x : zB a1 0 6 := by have q1 := b1; have q2 := b2; simp only [z32lt, z32le, z32eq, Int32.reduceToInt, Int32.toInt_zero] at h119_16; constructor <;> omega
          have b21x : zB a2 1 7 := by have q1 := b1; have q2 := b2; simp only [z32lt, z32le, z32eq, Int32.reduceToInt, Int32.toInt_zero] at h119_16; constructor <;> omega
          refine z_iconst (pc := 122) (v := 1) C dX10_isAhead_122 (by decide) ?_
          refine z_goto (pc := 123) 127 C dX10_isAhead_123 (by decide) ?_
          exact z_zret (pc := 127) C hr (z01 (zB.wk (a' := 0) (b' := 1) (zB.of (x := 1) 1 (by decide)) (by decide) (by decide))) dX10_isAhead_127 ⟨⟨_, rfl, (zB.wk (a' := 0) (b' := 1) (zB.of (x := 1) 1 (by decide)) (by decide) (by decide))⟩, hI, hF, (by
                                                                                          intro v hv; cases hv
                                                                                          have y1 := hp1_0
                                                                                          have y2 := hp2_0
                                                                                          have hy : (zMY f a1.toInt.toNat).toInt = (zMY f a2.toInt.toNat).toInt := by rw [← y1, ← y2]; exact (z32eq _ _).mp (by assumption)
                                                                                          have w1 := hp5_0
                                                                                          have w2 := hp6_0
                                                                                          have x72 : (v10).toNatClampNeg = 3 * a1.toInt.toNat + 2 := by omega
                                                                                          have r72 := q11
                                                                                          rw [x72] at r72
                                                                                          have x82 : (v13).toNatClampNeg = 3 * a2.toInt.toNat + 2 := by omega
                                                                                          have r82 := q14
                                                                                          rw [x82] at r82
                                                                                          have hz : zah (zMY f) (zMH f) (fun k => f 29 0 (3 * k + 2)) a1.toInt.toNat a2.toInt.toNat ↔ _ := zah_d hy (zbo_i w1 w2 ((z32eq _ _).mp (by assumption)))
                                                                                          rw [← r72, ← r82] at hz
                                                                                          first
                                                                                            | exact Or.inl ⟨rfl, hz.mpr (by omega)⟩
                                                                                            | exact Or.inr ⟨rfl, fun h => by have h2 := hz.mp h; omega⟩)⟩
      · skip
        refine z_aload_n (pc := 86) C dX10_isAhead_86 rfl ?_
        refine z_getR (pc := 87) C zf_X10_19 rfl rfl (by decide) dX10_isAhead_87 ?_
        refine z_iconst (pc := 90) (v := 3) C dX10_isAhead_90 (by decide) ?_
        refine z_iload_n (pc := 91) C dX10_isAhead_91 rfl ?_
        refine z_imul (pc := 92) C dX10_isAhead_92 ?_
        refine w_gp (fun v => v = (3 : Int32) * a1) rfl (fun v22 q22 => ?_)
        have e22 : v22.toInt = 3 * a1.toInt := by rw [q22]; exact (zmul_kb 3 (by decide) (by decide) b1 (by decide) (by decide))
        have b22x : zB v22 0 21 := zmul_bb e22 (by decide) b1
        refine z_iconst (pc := 93) (v := 2) C dX10_isAhead_93 (by decide) ?_
        refine z_iadd (pc := 94) C dX10_isAhead_94 ?_
        refine w_gp (fun v => v = v22 + (2 : Int32)) rfl (fun v23 q23 => ?_)
        have e23 : v23.toInt = v22.toInt + 2 := by rw [q23]; exact (zadd_eb b22x (zB.of (x := 2) 2 (by decide)) (by decide) (by decide))
        have b23x : zB v23 2 23 := by have q1 := b22x; have q2 := (zB.of (x := 2) 2 (by decide)); constructor <;> omega
        refine z_iald (pc := 95) C rfl (by decide) (zIx b23x (by decide) (by decide)) dX10_isAhead_95 ?_
        have kq95_23 : v23.toNatClampNeg = v23.toInt.toNat := rfl
        refine w_gp (fun v => v = f 29 0 v23.toNatClampNeg) rfl (fun v24 q24 => ?_)
        have b24x : zB v24 0 99 := by rw [q24]; exact (by have hq9 := hI 29 0 v23.toNatClampNeg; rw [zrg29 (r := 2) (by have hq : v23.toNatClampNeg = v23.toInt.toNat := rfl; have hq2 := b23x; omega)] at hq9; exact hq9)
        refine z_aload_n (pc := 96) C dX10_isAhead_96 rfl ?_
        refine z_getR (pc := 97) C zf_X10_19 rfl rfl (by decide) dX10_isAhead_97 ?_
        refine z_iconst (pc := 100) (v := 3) C dX10_isAhead_100 (by decide) ?_
        refine z_iload_n (pc := 101) C dX10_isAhead_101 rfl ?_
        refine z_imul (pc := 102) C dX10_isAhead_102 ?_
        refine w_gp (fun v => v = (3 : Int32) * a2) rfl (fun v25 q25 => ?_)
        have e25 : v25.toInt = 3 * a2.toInt := by rw [q25]; exact (zmul_kb 3 (by decide) (by decide) b2 (by decide) (by decide))
        have b25x : zB v25 0 21 := zmul_bb e25 (by decide) b2
        refine z_iconst (pc := 103) (v := 2) C dX10_isAhead_103 (by decide) ?_
        refine z_iadd (pc := 104) C dX10_isAhead_104 ?_
        refine w_gp (fun v => v = v25 + (2 : Int32)) rfl (fun v26 q26 => ?_)
        have e26 : v26.toInt = v25.toInt + 2 := by rw [q26]; exact (zadd_eb b25x (zB.of (x := 2) 2 (by decide)) (by decide) (by decide))
        have b26x : zB v26 2 23 := by have q1 := b25x; have q2 := (zB.of (x := 2) 2 (by decide)); constructor <;> omega
        refine z_iald (pc := 105) C rfl (by decide) (zIx b26x (by decide) (by decide)) dX10_isAhead_105 ?_
        have kq105_26 : v26.toNatClampNeg = v26.toInt.toNat := rfl
        refine w_gp (fun v => v = f 29 0 v26.toNatClampNeg) rfl (fun v27 q27 => ?_)
        have b27x : zB v27 0 99 := by rw [q27]; exact (by have hq9 := hI 29 0 v26.toNatClampNeg; rw [zrg29 (r := 2) (by have hq : v26.toNatClampNeg = v26.toInt.toNat := rfl; have hq2 := b26x; omega)] at hq9; exact hq9)
        refine z_icmp_ge (pc := 106) 113 C dX10_isAhead_106 (by decide) (fun h106_27 => ?_) (fun h106_27 => ?_)
        · skip
          have rr29 : v24.toInt ≥ v27.toInt := by simp only [z32lt, z32le, z32eq] at h106_27; omega
          refine z_iconst (pc := 113) (v := 0) C dX10_isAhead_113 (by decide) ?_
          refine z_goto (pc := 114) 127 C dX10_isAhead_114 (by decide) ?_
          exact z_zret (pc := 127) C hr (z01 (zB.wk (a' := 0) (b' := 1) (zB.of (x := 0) 0 (by decide)) (by decide) (by decide))) dX10_isAhead_127 ⟨⟨_, rfl, (zB.wk (a' := 0) (b' := 1) (zB.of (x := 0) 0 (by decide)) (by decide) (by decide))⟩, hI, hF, (by
                                                                                          intro v hv; cases hv
                                                                                          have y1 := hp1_0
                                                                                          have y2 := hp2_0
                                                                                          have hy : (zMY f a1.toInt.toNat).toInt = (zMY f a2.toInt.toNat).toInt := by rw [← y1, ← y2]; exact (z32eq _ _).mp (by assumption)
                                                                                          have w1 := hp5_0
                                                                                          have w2 := hp6_0
                                                                                          have x72 : (v10).toNatClampNeg = 3 * a1.toInt.toNat + 2 := by omega
                                                                                          have r72 := q11
                                                                                          rw [x72] at r72
                                                                                          have x82 : (v13).toNatClampNeg = 3 * a2.toInt.toNat + 2 := by omega
                                                                                          have r82 := q14
                                                                                          rw [x82] at r82
                                                                                          have hz : zah (zMY f) (zMH f) (fun k => f 29 0 (3 * k + 2)) a1.toInt.toNat a2.toInt.toNat ↔ _ := zah_d hy (zbo_i w1 w2 ((z32eq _ _).mp (by assumption)))
                                                                                          rw [← r72, ← r82] at hz
                                                                                          have x95 : (v23).toNatClampNeg = 3 * a1.toInt.toNat + 2 := by omega
                                                                                          have r95 := q24
                                                                                          rw [x95] at r95
                                                                                          have x105 : (v26).toNatClampNeg = 3 * a2.toInt.toNat + 2 := by omega
                                                                                          have r105 := q27
                                                                                          rw [x105] at r105
                                                                                          have e1 : v24 = v11 := r95.trans r72.symm
                                                                                          have e2 : v27 = v14 := r105.trans r82.symm
                                                                                          have f1 : (v24).toInt = (v11).toInt := by rw [e1]
                                                                                          have f2 : (v27).toInt = (v14).toInt := by rw [e2]
                                                                                          have hne : ¬ (v11).toInt = (v14).toInt := fun q => absurd ((z32eq _ _).mpr q) (by assumption)
                                                                                          first
                                                                                            | exact Or.inl ⟨rfl, hz.mpr (by omega)⟩
                                                                                            | exact Or.inr ⟨rfl, fun h => by have h2 := hz.mp h; omega⟩)⟩
        · skip
          have rr30 : v24.toInt < v27.toInt := by simp only [z32lt, z32le, z32eq] at h106_27; omega
          have b31x : zB v24 0 98 := by have q1 := b24x; have q2 := b27x; simp only [z32lt, z32le, z32eq, Int32.reduceToInt, Int32.toInt_zero] at h106_27; constructor <;> omega
          have b32x : zB v27 1 99 := by have q1 := b24x; have q2 := b27x; simp only [z32lt, z32le, z32eq, Int32.reduceToInt, Int32.toInt_zero] at h106_27; constructor <;> omega
          refine z_iconst (pc := 109) (v := 1) C dX10_isAhead_109 (by decide) ?_
          refine z_goto (pc := 110) 127 C dX10_isAhead_110 (by decide) ?_
          exact z_zret (pc := 127) C hr (z01 (zB.wk (a' := 0) (b' := 1) (zB.of (x := 1) 1 (by decide)) (by decide) (by decide))) dX10_isAhead_127 ⟨⟨_, rfl, (zB.wk (a' := 0) (b' := 1) (zB.of (x := 1) 1 (by decide)) (by decide) (by decide))⟩, hI, hF, (by
                                                                                          intro v hv; cases hv
                                                                                          have y1 := hp1_0
                                                                                          have y2 := hp2_0
                                                                                          have hy : (zMY f a1.toInt.toNat).toInt = (zMY f a2.toInt.toNat).toInt := by rw [← y1, ← y2]; exact (z32eq _ _).mp (by assumption)
                                                                                          have w1 := hp5_0
                                                                                          have w2 := hp6_0
                                                                                          have x72 : (v10).toNatClampNeg = 3 * a1.toInt.toNat + 2 := by omega
                                                                                          have r72 := q11
                                                                                          rw [x72] at r72
                                                                                          have x82 : (v13).toNatClampNeg = 3 * a2.toInt.toNat + 2 := by omega
                                                                                          have r82 := q14
                                                                                          rw [x82] at r82
                                                                                          have hz : zah (zMY f) (zMH f) (fun k => f 29 0 (3 * k + 2)) a1.toInt.toNat a2.toInt.toNat ↔ _ := zah_d hy (zbo_i w1 w2 ((z32eq _ _).mp (by assumption)))
                                                                                          rw [← r72, ← r82] at hz
                                                                                          have x95 : (v23).toNatClampNeg = 3 * a1.toInt.toNat + 2 := by omega
                                                                                          have r95 := q24
                                                                                          rw [x95] at r95
                                                                                          have x105 : (v26).toNatClampNeg = 3 * a2.toInt.toNat + 2 := by omega
                                                                                          have r105 := q27
                                                                                          rw [x105] at r105
                                                                                          have e1 : v24 = v11 := r95.trans r72.symm
                                                                                          have e2 : v27 = v14 := r105.trans r82.symm
                                                                                          have f1 : (v24).toInt = (v11).toInt := by rw [e1]
                                                                                          have f2 : (v27).toInt = (v14).toInt := by rw [e2]
                                                                                          have hne : ¬ (v11).toInt = (v14).toInt := fun q => absurd ((z32eq _ _).mpr q) (by assumption)
                                                                                          first
                                                                                            | exact Or.inl ⟨rfl, hz.mpr (by omega)⟩
                                                                                            | exact Or.inr ⟨rfl, fun h => by have h2 := hz.mp h; omega⟩)⟩
    · skip
      refine z_aload_n (pc := 44) C dX10_isAhead_44 rfl ?_
      refine z_iload_n (pc := 45) C dX10_isAhead_45 rfl ?_
      refine z_callV (pc := 46) C zk_X10_188 (x_X10_wasThere _ _ a1 b1 (by exact hp0) hI) rfl rfl (by decide) rfl rfl (Nat.le_of_ble_eq_true rfl) dX10_isAhead_46 (fun r33 g33 q33 => ?_)
      obtain ⟨⟨v33, rfl, b33x⟩, hI33, hF33q, hp33_0⟩ := q33
      have hp33_0 := hp33_0 _ rfl
      obtain rfl := zFr_nil hF33q
      simp only [Option.toList, List.cons_append, List.nil_append]
      refine z_aload_n (pc := 49) C dX10_isAhead_49 rfl ?_
      refine z_iload_n (pc := 50) C dX10_isAhead_50 rfl ?_
      refine z_callV (pc := 51) C zk_X10_188 (x_X10_wasThere _ _ a2 b2 (by exact hp0) hI) rfl rfl (by decide) rfl rfl (Nat.le_of_ble_eq_true rfl) dX10_isAhead_51 (fun r34 g34 q34 => ?_)
      obtain ⟨⟨v34, rfl, b34x⟩, hI34, hF34q, hp34_0⟩ := q34
      have hp34_0 := hp34_0 _ rfl
      obtain rfl := zFr_nil hF34q
      simp only [Option.toList, List.cons_append, List.nil_append]
      refine z_icmp_le (pc := 54) 61 C dX10_isAhead_54 (by decide) (fun h54_34 => ?_) (fun h54_34 => ?_)
      · skip
        have rr36 : v33.toInt ≤ v34.toInt := by simp only [z32lt, z32le, z32eq] at h54_34; omega
        refine z_iconst (pc := 61) (v := 0) C dX10_isAhead_61 (by decide) ?_
        exact z_zret (pc := 62) C hr (z01 (zB.wk (a' := 0) (b' := 1) (zB.of (x := 0) 0 (by decide)) (by decide) (by decide))) dX10_isAhead_62 ⟨⟨_, rfl, (zB.wk (a' := 0) (b' := 1) (zB.of (x := 0) 0 (by decide)) (by decide) (by decide))⟩, hI, hF, (by
                                                                                          intro v hv; cases hv
                                                                                          have y1 := hp1_0
                                                                                          have y2 := hp2_0
                                                                                          have hy : (zMY f a1.toInt.toNat).toInt = (zMY f a2.toInt.toNat).toInt := by rw [← y1, ← y2]; exact (z32eq _ _).mp (by assumption)
                                                                                          have w1 := hp5_0
                                                                                          have w2 := hp6_0
                                                                                          have w3 := hp33_0
                                                                                          have w4 := hp34_0
                                                                                          have hz : zah (zMY f) (zMH f) (fun k => f 29 0 (3 * k + 2)) a1.toInt.toNat a2.toInt.toNat ↔ _ := zah_h hy (fun q => by
                                                                                            rcases w1 with ⟨e1, p1⟩ | ⟨e1, p1⟩ <;> rcases w2 with ⟨e2, p2⟩ | ⟨e2, p2⟩
                                                                                            · exact absurd (e1.trans e2.symm) (by assumption)
                                                                                            · exact p2 (q.mp p1)
                                                                                            · exact p1 (q.mpr p2)
                                                                                            · exact absurd (e1.trans e2.symm) (by assumption))
                                                                                          first
                                                                                            | exact Or.inl ⟨rfl, hz.mpr ⟨zbo_y w3 (by omega), zbo_n w4 (by omega)⟩⟩
                                                                                            | exact Or.inr ⟨rfl, fun h => by have h2 := hz.mp h; have e3 := zbo_1 w3 h2.1; have e4 := zbo_z w4 h2.2; omega⟩)⟩
      · skip
        have rr37 : v33.toInt > v34.toInt := by simp only [z32lt, z32le, z32eq] at h54_34; omega
        have b38x : zB v33 1 1 := by have q1 := b33x; have q2 := b34x; simp only [z32lt, z32le, z32eq, Int32.reduceToInt, Int32.toInt_zero] at h54_34; constructor <;> omega
        have b39x : zB v34 0 0 := by have q1 := b33x; have q2 := b34x; simp only [z32lt, z32le, z32eq, Int32.reduceToInt, Int32.toInt_zero] at h54_34; constructor <;> omega
        refine z_iconst (pc := 57) (v := 1) C dX10_isAhead_57 (by decide) ?_
        refine z_goto (pc := 58) 62 C dX10_isAhead_58 (by decide) ?_
        exact z_zret (pc := 62) C hr (z01 (zB.wk (a' := 0) (b' := 1) (zB.of (x := 1) 1 (by decide)) (by decide) (by decide))) dX10_isAhead_62 ⟨⟨_, rfl, (zB.wk (a' := 0) (b' := 1) (zB.of (x := 1) 1 (by decide)) (by decide) (by decide))⟩, hI, hF, (by
                                                                                          intro v hv; cases hv
                                                                                          have y1 := hp1_0
                                                                                          have y2 := hp2_0
                                                                                          have hy : (zMY f a1.toInt.toNat).toInt = (zMY f a2.toInt.toNat).toInt := by rw [← y1, ← y2]; exact (z32eq _ _).mp (by assumption)
                                                                                          have w1 := hp5_0
                                                                                          have w2 := hp6_0
                                                                                          have w3 := hp33_0
                                                                                          have w4 := hp34_0
                                                                                          have hz : zah (zMY f) (zMH f) (fun k => f 29 0 (3 * k + 2)) a1.toInt.toNat a2.toInt.toNat ↔ _ := zah_h hy (fun q => by
                                                                                            rcases w1 with ⟨e1, p1⟩ | ⟨e1, p1⟩ <;> rcases w2 with ⟨e2, p2⟩ | ⟨e2, p2⟩
                                                                                            · exact absurd (e1.trans e2.symm) (by assumption)
                                                                                            · exact p2 (q.mp p1)
                                                                                            · exact p1 (q.mpr p2)
                                                                                            · exact absurd (e1.trans e2.symm) (by assumption))
                                                                                          first
                                                                                            | exact Or.inl ⟨rfl, hz.mpr ⟨zbo_y w3 (by omega), zbo_n w4 (by omega)⟩⟩
                                                                                            | exact Or.inr ⟨rfl, fun h => by have h2 := hz.mp h; have e3 := zbo_1 w3 h2.1; have e4 := zbo_z w4 h2.2; omega⟩)⟩
  · skip
    refine z_iload_n (pc := 19) C dX10_isAhead_19 rfl ?_
    refine z_iload (pc := 20) C dX10_isAhead_20 rfl ?_
    refine z_icmp_le (pc := 22) 29 C dX10_isAhead_22 (by decide) (fun h22_39 => ?_) (fun h22_39 => ?_)
    · skip
      have rr41 : v1.toInt ≤ v2.toInt := by simp only [z32lt, z32le, z32eq] at h22_39; omega
      refine z_iconst (pc := 29) (v := 0) C dX10_isAhead_29 (by decide) ?_
      exact z_zret (pc := 30) C hr (z01 (zB.wk (a' := 0) (b' := 1) (zB.of (x := 0) 0 (by decide)) (by decide) (by decide))) dX10_isAhead_30 ⟨⟨_, rfl, (zB.wk (a' := 0) (b' := 1) (zB.of (x := 0) 0 (by decide)) (by decide) (by decide))⟩, hI, hF, (by
                                                                                          intro v hv; cases hv
                                                                                          have y1 := hp1_0
                                                                                          have y2 := hp2_0
                                                                                          have hz : zah (zMY f) (zMH f) (fun k => f 29 0 (3 * k + 2)) a1.toInt.toNat a2.toInt.toNat ↔ _ := zah_y (fun q => by rw [← y1, ← y2] at q; exact absurd ((z32eq _ _).mpr q) (by assumption))
                                                                                          rw [← y1, ← y2] at hz
                                                                                          first
                                                                                            | exact Or.inl ⟨rfl, hz.mpr (by omega)⟩
                                                                                            | exact Or.inr ⟨rfl, fun h => by have h2 := hz.mp h; omega⟩)⟩
    · skip
      have rr42 : v1.toInt > v2.toInt := by simp only [z32lt, z32le, z32eq] at h22_39; omega
      have b43x : zB v1 1 40 := by have q1 := b1x; have q2 := b2x; simp only [z32lt, z32le, z32eq, Int32.reduceToInt, Int32.toInt_zero] at h22_39; constructor <;> omega
      have b44x : zB v2 0 39 := by have q1 := b1x; have q2 := b2x; simp only [z32lt, z32le, z32eq, Int32.reduceToInt, Int32.toInt_zero] at h22_39; constructor <;> omega
      refine z_iconst (pc := 25) (v := 1) C dX10_isAhead_25 (by decide) ?_
      refine z_goto (pc := 26) 30 C dX10_isAhead_26 (by decide) ?_
      exact z_zret (pc := 30) C hr (z01 (zB.wk (a' := 0) (b' := 1) (zB.of (x := 1) 1 (by decide)) (by decide) (by decide))) dX10_isAhead_30 ⟨⟨_, rfl, (zB.wk (a' := 0) (b' := 1) (zB.of (x := 1) 1 (by decide)) (by decide) (by decide))⟩, hI, hF, (by
                                                                                          intro v hv; cases hv
                                                                                          have y1 := hp1_0
                                                                                          have y2 := hp2_0
                                                                                          have hz : zah (zMY f) (zMH f) (fun k => f 29 0 (3 * k + 2)) a1.toInt.toNat a2.toInt.toNat ↔ _ := zah_y (fun q => by rw [← y1, ← y2] at q; exact absurd ((z32eq _ _).mpr q) (by assumption))
                                                                                          rw [← y1, ← y2] at hz
                                                                                          first
                                                                                            | exact Or.inl ⟨rfl, hz.mpr (by omega)⟩
                                                                                            | exact Or.inr ⟨rfl, fun h => by have h2 := hz.mp h; omega⟩)⟩

set_option maxRecDepth 100000 in
set_option maxHeartbeats 4000000 in
theorem y_X10_ahead (d : Nat) (f : zM) (a1 : Int32) (b1 : zB a1 (-2147483648) 2147483647) (hI : zInv f) : ZM (d + 9) yX10_ahead cX10_ahead 5 (some .int) [zr 25 0, zi a1] f (fun r g => (∃ v, r = some (zi v) ∧ zB v (-4) 7) ∧ zInv g ∧ zFr [(31, none)] f g ∧ (∀ v : Int32, r = some (zi v) → (a1.toInt < 0 ∧ v = -1) ∨ (0 ≤ a1.toInt ∧ zfst (fun k => ¬ zMS f k = 0 ∧ (zct (fun i => ¬ zMS f i = 0 ∧ zah (zMY f) (zMH f) (fun k => f 29 0 (3 * k + 2)) i k) (f 25 0 6).toInt.toNat : Int) = a1.toInt) (f 25 0 6).toInt.toNat v))) := by
  refine ZM.intro (by decide +kernel) (Nat.le_of_ble_eq_true rfl) ?_
  intro X C hr hn
  have hF : zFr [(31, none)] f f := zFr.rf _ _
  have ct25_0_6 : zB (f 25 0 6) 0 8 := hI 25 0 6
  have J : ∀ t : Nat, (zB a1 0 2147483647 → ∀ a12_2 : Int32, zB a12_2 0 8 → ∀ g : zM, zInv g → zFr [(31, none)] f g → zB (g 25 0 6) 0 8 → (zOp g) → ((∀ j, j < a12_2.toInt.toNat → ¬ (fun k => ¬ zMS f k = 0 ∧ (zct (fun i => ¬ zMS f i = 0 ∧ zah (zMY f) (zMH f) (fun k => f 29 0 (3 * k + 2)) i k) (f 25 0 6).toInt.toNat : Int) = a1.toInt) j)) → (0 ≤ a1.toInt) → (a12_2.toInt ≤ (f 25 0 6).toInt) → ((g 25 0 6).toInt = (f 25 0 6).toInt) → (37 + 40 * (8 - a12_2.toInt) : Int) < t → Z X 12 [some (zr 25 0), some (zi a1), some (zi a12_2), none, none] [] g) ∧ (zB a1 0 2147483647 → ∀ a25_2 : Int32, zB a25_2 0 7 → ∀ a25_3 : Int32, zB a25_3 0 8 → ∀ a25_4 : Int32, zB a25_4 0 8 → ∀ g : zM, zInv g → zFr [(31, none)] f g → zB (g 25 0 6) 1 8 → (zOp g) → ((∀ j, j < a25_2.toInt.toNat → ¬ (fun k => ¬ zMS f k = 0 ∧ (zct (fun i => ¬ zMS f i = 0 ∧ zah (zMY f) (zMH f) (fun k => f 29 0 (3 * k + 2)) i k) (f 25 0 6).toInt.toNat : Int) = a1.toInt) j)) → (a25_3.toInt = (zct (fun i => ¬ zMS f i = 0 ∧ zah (zMY f) (zMH f) (fun k => f 29 0 (3 * k + 2)) i a25_2.toInt.toNat) a25_4.toInt.toNat : Int)) → (a25_3.toInt ≤ a25_4.toInt) → (0 ≤ a1.toInt) → (a25_2.toInt < (f 25 0 6).toInt) → (a25_4.toInt ≤ (f 25 0 6).toInt) → ((g 25 0 6).toInt = (f 25 0 6).toInt) → (0 + 4 * (8 - a25_4.toInt) + 40 * (8 - a25_2.toInt) : Int) < t → Z X 25 [some (zr 25 0), some (zi a1), some (zi a25_2), some (zi a25_3), some (zi a25_4)] [] g) := by
    intro t
    induction t with
    | zero =>
      refine ⟨?_, ?_⟩ <;> (intros; exfalso; omega)
    | succ t ih =>
      obtain ⟨ih0, ih1⟩ := ih
      refine ⟨?_, ?_⟩
      · skip
        intro b12_1 a12_2 b12_2 g12_ hI12_ hF12_ f12_25_0_6 hR12_0 hR12_1 hR12_2 hR12_3 hR12_4 hM12_
        refine z_iload_n (pc := 12) C dX10_ahead_12 rfl ?_
        refine z_aload_n (pc := 13) C dX10_ahead_13 rfl ?_
        refine z_getI (pc := 14) C zf_X10_126 rfl rfl (by decide) dX10_ahead_14 ?_
        refine w_gp (fun v => v = g12_ 25 0 6) rfl (fun v1 q1 => ?_)
        have e1 : v1.toInt = (g12_ 25 0 6).toInt := by rw [q1]
        have b1x : zB v1 0 8 := by first | exact zB.eqv e1 f12_25_0_6 | (have q9 := f12_25_0_6; constructor <;> omega)
        refine z_icmp_ge (pc := 17) 94 C dX10_ahead_17 (by decide) (fun h17_1 => ?_) (fun h17_1 => ?_)
        · skip
          have rr3 : a12_2.toInt ≥ v1.toInt := by simp only [z32lt, z32le, z32eq] at h17_1; omega
          refine z_bipush (pc := 94) (v := -4) C dX10_ahead_94 (by decide) ?_
          exact z_iret (pc := 96) C hr dX10_ahead_96 ⟨⟨_, rfl, (zB.wk (a' := (-4)) (b' := 7) (zB.of (x := (-4)) (-4) (by decide)) (by decide) (by decide))⟩, hI12_, hF12_, (by
                                                                                          intro v hv; cases hv
                                                                                          have hn : (f 25 0 6).toInt.toNat = a12_2.toInt.toNat := by omega
                                                                                          exact Or.inr ⟨by omega, Or.inr ⟨rfl, fun j hj => hR12_1 j (by omega)⟩⟩)⟩
        · skip
          have rr4 : a12_2.toInt < v1.toInt := by simp only [z32lt, z32le, z32eq] at h17_1; omega
          have b5x : zB a12_2 0 7 := by have q1 := b12_2; have q2 := b1x; simp only [z32lt, z32le, z32eq, Int32.reduceToInt, Int32.toInt_zero] at h17_1; constructor <;> omega
          have b6x : zB v1 1 8 := by have q1 := b12_2; have q2 := b1x; simp only [z32lt, z32le, z32eq, Int32.reduceToInt, Int32.toInt_zero] at h17_1; constructor <;> omega
          have c7x : zB (g12_ 25 0 6) 1 8 := by first | assumption | (constructor <;> omega)
          refine z_iconst (pc := 20) (v := 0) C dX10_ahead_20 (by decide) ?_
          refine z_istore_n (pc := 21) C dX10_ahead_21 (by rw [hn]; decide) rfl ?_
          refine z_iconst (pc := 22) (v := 0) C dX10_ahead_22 (by decide) ?_
          refine z_istore (pc := 23) C dX10_ahead_23 (by rw [hn]; decide) rfl ?_
          exact ih1 b12_1 a12_2 b5x 0 (zB.wk (a' := 0) (b' := 8) (zB.of (x := 0) 0 (by decide)) (by decide) (by decide)) 0 (zB.wk (a' := 0) (b' := 8) (zB.of (x := 0) 0 (by decide)) (by decide) (by decide)) g12_ hI12_ hF12_ c7x (by exact hR12_0) (by exact hR12_1) (by rfl) (by have qc0 : (0 : Int32).toInt = 0 := (by decide); omega) (by have qc0 : (0 : Int32).toInt = 0 := (by decide); omega) (by have qc0 : (0 : Int32).toInt = 0 := (by decide); omega) (by have qc0 : (0 : Int32).toInt = 0 := (by decide); omega) (by have qc0 : (0 : Int32).toInt = 0 := (by decide); omega) (by have qc0 : (0 : Int32).toInt = 0 := (by decide); omega)
      · skip
        intro b25_1 a25_2 b25_2 a25_3 b25_3 a25_4 b25_4 g25_ hI25_ hF25_ f25_25_0_6 hR25_0 hR25_1 hR25_2 hR25_3 hR25_4 hR25_5 hR25_6 hR25_7 hM25_
        refine z_iload (pc := 25) C dX10_ahead_25 rfl ?_
        refine z_aload_n (pc := 27) C dX10_ahead_27 rfl ?_
        refine z_getI (pc := 28) C zf_X10_126 rfl rfl (by decide) dX10_ahead_28 ?_
        refine w_gp (fun v => v = g25_ 25 0 6) rfl (fun v8 q8 => ?_)
        have e8 : v8.toInt = (g25_ 25 0 6).toInt := by rw [q8]
        have b8x : zB v8 1 8 := by first | exact zB.eqv e8 f25_25_0_6 | (have q9 := f25_25_0_6; constructor <;> omega)
        refine z_icmp_ge (pc := 31) 73 C dX10_ahead_31 (by decide) (fun h31_8 => ?_) (fun h31_8 => ?_)
        · skip
          have rr10 : a25_4.toInt ≥ v8.toInt := by simp only [z32lt, z32le, z32eq] at h31_8; omega
          have b11x : zB a25_4 1 8 := by have q1 := b25_4; have q2 := b8x; simp only [z32lt, z32le, z32eq, Int32.reduceToInt, Int32.toInt_zero] at h31_8; constructor <;> omega
          refine z_aload_n (pc := 73) C dX10_ahead_73 rfl ?_
          refine z_iload_n (pc := 74) C dX10_ahead_74 rfl ?_
          refine z_callV (pc := 75) C zk_X10_182 (x_X10_standsFor _ _ a25_2 b25_2 (by exact hR25_0) hI25_) rfl rfl (by decide) rfl rfl (Nat.le_of_ble_eq_true rfl) dX10_ahead_75 (fun r12 g12 q12 => ?_)
          obtain ⟨⟨v12, rfl, b12x⟩, hI12, hF12q, hp12_0⟩ := q12
          have hp12_0 := hp12_0 _ rfl
          obtain rfl := zFr_nil hF12q
          simp only [Option.toList, List.cons_append, List.nil_append]
          refine z_if_eq (pc := 78) 88 C dX10_ahead_78 (by decide) (fun h78_12 => ?_) (fun h78_12 => ?_)
          · skip
            have b14x : zB v12 0 0 := by have q1 := b12x; have q2 := (zB.of (x := 0) 0 (by decide)); simp only [z32lt, z32le, z32eq, Int32.reduceToInt, Int32.toInt_zero] at h78_12; constructor <;> omega
            refine z_iinc (pc := 88) (v := 1) C dX10_ahead_88 rfl (by decide) (by rw [hn]; decide) rfl ?_
            obtain ⟨v15, hv15, e15⟩ : ∃ v : Int32, v = a25_2 + 1 ∧ v.toInt = a25_2.toInt + 1 := ⟨_, rfl, zadd_eb b25_2 (zB.of (x := 1) 1 (by decide)) (by decide) (by decide)⟩
            rw [← hv15]
            have b15x : zB v15 1 8 := by have q9 := b25_2; constructor <;> omega
            refine z_goto (pc := 91) 12 C dX10_ahead_91 (by decide) ?_
            refine w_mask [3, 4] ?_
            exact ih0 b25_1 v15 (zB.wk (a' := 0) (b' := 8) b15x (by decide) (by decide)) g25_ hI25_ hF25_ (zB.wk f25_25_0_6 (by decide) (by decide)) (by exact hR25_0) (by
                                                                                          have hn : (v15).toInt.toNat = a25_2.toInt.toNat + 1 := by omega
                                                                                          have hk : (f 25 0 6).toInt.toNat = a25_4.toInt.toNat := by omega
                                                                                          have k25 : g25_ 25 0 = f 25 0 := funext (fun j => hF25_ 25 0 j rfl)
                                                                                          have k26 : g25_ 26 0 = f 26 0 := funext (fun j => hF25_ 26 0 j rfl)
                                                                                          have k27 : g25_ 27 0 = f 27 0 := funext (fun j => hF25_ 27 0 j rfl)
                                                                                          have k28 : g25_ 28 0 = f 28 0 := funext (fun j => hF25_ 28 0 j rfl)
                                                                                          have k30 : g25_ 30 0 = f 30 0 := funext (fun j => hF25_ 30 0 j rfl)
                                                                                          have k29 : g25_ 29 0 = f 29 0 := funext (fun j => hF25_ 29 0 j rfl)
                                                                                          have hs := hp12_0
                                                                                          rw [(zM_k k25 k26 k27 k28 k29 k30).1] at hs
                                                                                          intro j hj
                                                                                          rw [hn] at hj
                                                                                          by_cases e : j = a25_2.toInt.toNat
                                                                                          · rw [e]
                                                                                            intro h
                                                                                            first
                                                                                              | exact absurd h.1 (fun q => q (by rw [← hs]; assumption))
                                                                                              | (have h2 := h.2
                                                                                                 rw [hk, ← hR25_2] at h2
                                                                                                 exact absurd ((z32eq _ _).mpr h2) (by assumption))
                                                                                          · exact hR25_1 j (by omega)) (by omega) (by omega) (by omega) (by omega)
          · skip
            have b16x : zB v12 1 255 := by have q1 := b12x; have q2 := (zB.of (x := 0) 0 (by decide)); simp only [z32lt, z32le, z32eq, Int32.reduceToInt, Int32.toInt_zero] at h78_12; constructor <;> omega
            refine z_iload_n (pc := 81) C dX10_ahead_81 rfl ?_
            refine z_iload_n (pc := 82) C dX10_ahead_82 rfl ?_
            refine z_icmp_ne (pc := 83) 88 C dX10_ahead_83 (by decide) (fun h83_16 => ?_) (fun h83_16 => ?_)
            · skip
              refine z_iinc (pc := 88) (v := 1) C dX10_ahead_88 rfl (by decide) (by rw [hn]; decide) rfl ?_
              obtain ⟨v18, hv18, e18⟩ : ∃ v : Int32, v = a25_2 + 1 ∧ v.toInt = a25_2.toInt + 1 := ⟨_, rfl, zadd_eb b25_2 (zB.of (x := 1) 1 (by decide)) (by decide) (by decide)⟩
              rw [← hv18]
              have b18x : zB v18 1 8 := by first | exact zB.eqv e18 b25_2 | (have q9 := b25_2; constructor <;> omega)
              refine z_goto (pc := 91) 12 C dX10_ahead_91 (by decide) ?_
              refine w_mask [3, 4] ?_
              exact ih0 b25_1 v18 (zB.wk (a' := 0) (b' := 8) b18x (by decide) (by decide)) g25_ hI25_ hF25_ (zB.wk f25_25_0_6 (by decide) (by decide)) (by exact hR25_0) (by
                                                                                          have hn : (v18).toInt.toNat = a25_2.toInt.toNat + 1 := by omega
                                                                                          have hk : (f 25 0 6).toInt.toNat = a25_4.toInt.toNat := by omega
                                                                                          have k25 : g25_ 25 0 = f 25 0 := funext (fun j => hF25_ 25 0 j rfl)
                                                                                          have k26 : g25_ 26 0 = f 26 0 := funext (fun j => hF25_ 26 0 j rfl)
                                                                                          have k27 : g25_ 27 0 = f 27 0 := funext (fun j => hF25_ 27 0 j rfl)
                                                                                          have k28 : g25_ 28 0 = f 28 0 := funext (fun j => hF25_ 28 0 j rfl)
                                                                                          have k30 : g25_ 30 0 = f 30 0 := funext (fun j => hF25_ 30 0 j rfl)
                                                                                          have k29 : g25_ 29 0 = f 29 0 := funext (fun j => hF25_ 29 0 j rfl)
                                                                                          have hs := hp12_0
                                                                                          rw [(zM_k k25 k26 k27 k28 k29 k30).1] at hs
                                                                                          intro j hj
                                                                                          rw [hn] at hj
                                                                                          by_cases e : j = a25_2.toInt.toNat
                                                                                          · rw [e]
                                                                                            intro h
                                                                                            first
                                                                                              | exact absurd h.1 (fun q => q (by rw [← hs]; assumption))
                                                                                              | (have h2 := h.2
                                                                                                 rw [hk, ← hR25_2] at h2
                                                                                                 exact absurd ((z32eq _ _).mpr h2) (by assumption))
                                                                                          · exact hR25_1 j (by omega)) (by omega) (by omega) (by omega) (by omega)
            · skip
              have rr19 : a25_3.toInt = a1.toInt := by simp only [z32lt, z32le, z32eq] at h83_16; omega
              have b20x : zB a1 0 8 := by have q1 := b25_3; have q2 := b25_1; simp only [z32lt, z32le, z32eq, Int32.reduceToInt, Int32.toInt_zero] at h83_16; constructor <;> omega
              refine z_iload_n (pc := 86) C dX10_ahead_86 rfl ?_
              exact z_iret (pc := 87) C hr dX10_ahead_87 ⟨⟨_, rfl, (zB.wk (a' := (-4)) (b' := 7) b25_2 (by decide) (by decide))⟩, hI25_, hF25_, (by
                                                                                          intro v hv; cases hv
                                                                                          have hk : (f 25 0 6).toInt.toNat = a25_4.toInt.toNat := by omega
                                                                                          have k25 : g25_ 25 0 = f 25 0 := funext (fun j => hF25_ 25 0 j rfl)
                                                                                          have k26 : g25_ 26 0 = f 26 0 := funext (fun j => hF25_ 26 0 j rfl)
                                                                                          have k27 : g25_ 27 0 = f 27 0 := funext (fun j => hF25_ 27 0 j rfl)
                                                                                          have k28 : g25_ 28 0 = f 28 0 := funext (fun j => hF25_ 28 0 j rfl)
                                                                                          have k30 : g25_ 30 0 = f 30 0 := funext (fun j => hF25_ 30 0 j rfl)
                                                                                          have k29 : g25_ 29 0 = f 29 0 := funext (fun j => hF25_ 29 0 j rfl)
                                                                                          have hs := hp12_0
                                                                                          rw [(zM_k k25 k26 k27 k28 k29 k30).1] at hs
                                                                                          refine Or.inr ⟨by omega, Or.inl ⟨a25_2.toInt.toNat, by omega, (nI_ofI (by omega)).1, ⟨by rw [← hs]; assumption, ?_⟩, hR25_1⟩⟩
                                                                                          rw [hk, ← hR25_2]; omega)⟩
        · skip
          have rr21 : a25_4.toInt < v8.toInt := by simp only [z32lt, z32le, z32eq] at h31_8; omega
          have b22x : zB a25_4 0 7 := by have q1 := b25_4; have q2 := b8x; simp only [z32lt, z32le, z32eq, Int32.reduceToInt, Int32.toInt_zero] at h31_8; constructor <;> omega
          refine z_iload_n (pc := 34) C dX10_ahead_34 rfl ?_
          refine z_iload (pc := 35) C dX10_ahead_35 rfl ?_
          refine z_iload_n (pc := 37) C dX10_ahead_37 rfl ?_
          refine z_icmp_eq (pc := 38) 64 C dX10_ahead_38 (by decide) (fun h38_22 => ?_) (fun h38_22 => ?_)
          · skip
            have rr24 : a25_4.toInt = a25_2.toInt := by simp only [z32lt, z32le, z32eq] at h38_22; omega
            refine z_iconst (pc := 64) (v := 0) C dX10_ahead_64 (by decide) ?_
            refine z_iadd (pc := 65) C dX10_ahead_65 ?_
            refine w_gp (fun v => v = a25_3 + (0 : Int32)) rfl (fun v25 q25 => ?_)
            have e25 : v25.toInt = a25_3.toInt + 0 := by rw [q25]; exact (zadd_eb b25_3 (zB.of (x := 0) 0 (by decide)) (by decide) (by decide))
            have b25x : zB v25 0 8 := by have q1 := b25_3; have q2 := (zB.of (x := 0) 0 (by decide)); constructor <;> omega
            refine z_istore_n (pc := 66) C dX10_ahead_66 (by rw [hn]; decide) rfl ?_
            refine z_iinc (pc := 67) (v := 1) C dX10_ahead_67 rfl (by decide) (by rw [hn]; decide) rfl ?_
            obtain ⟨v26, hv26, e26⟩ : ∃ v : Int32, v = a25_4 + 1 ∧ v.toInt = a25_4.toInt + 1 := ⟨_, rfl, zadd_eb b22x (zB.of (x := 1) 1 (by decide)) (by decide) (by decide)⟩
            rw [← hv26]
            have b26x : zB v26 1 8 := by have q9 := b22x; constructor <;> omega
            refine z_goto (pc := 70) 25 C dX10_ahead_70 (by decide) ?_
            exact ih1 b25_1 a25_2 b25_2 v25 b25x v26 (zB.wk (a' := 0) (b' := 8) b26x (by decide) (by decide)) g25_ hI25_ hF25_ f25_25_0_6 (by exact hR25_0) (by exact hR25_1) (by
                                                                                          have hn : (v26).toInt.toNat = a25_4.toInt.toNat + 1 := by omega
                                                                                          rw [hn]
                                                                                          have hj : a25_4.toInt.toNat = a25_2.toInt.toNat := by omega
                                                                                          rw [zct_n (fun h => by have h2 := h.2; rw [hj] at h2; exact zah_i h2)]
                                                                                          omega) (by omega) (by omega) (by omega) (by omega) (by omega) (by omega)
          · skip
            refine z_aload_n (pc := 41) C dX10_ahead_41 rfl ?_
            refine z_iload (pc := 42) C dX10_ahead_42 rfl ?_
            refine z_callV (pc := 44) C zk_X10_182 (x_X10_standsFor _ _ a25_4 b22x (by exact hR25_0) hI25_) rfl rfl (by decide) rfl rfl (Nat.le_of_ble_eq_true rfl) dX10_ahead_44 (fun r27 g27 q27 => ?_)
            obtain ⟨⟨v27, rfl, b27x⟩, hI27, hF27q, hp27_0⟩ := q27
            have hp27_0 := hp27_0 _ rfl
            obtain rfl := zFr_nil hF27q
            simp only [Option.toList, List.cons_append, List.nil_append]
            refine z_if_eq (pc := 47) 64 C dX10_ahead_47 (by decide) (fun h47_27 => ?_) (fun h47_27 => ?_)
            · skip
              have b29x : zB v27 0 0 := by have q1 := b27x; have q2 := (zB.of (x := 0) 0 (by decide)); simp only [z32lt, z32le, z32eq, Int32.reduceToInt, Int32.toInt_zero] at h47_27; constructor <;> omega
              refine z_iconst (pc := 64) (v := 0) C dX10_ahead_64 (by decide) ?_
              refine z_iadd (pc := 65) C dX10_ahead_65 ?_
              refine w_gp (fun v => v = a25_3 + (0 : Int32)) rfl (fun v30 q30 => ?_)
              have e30 : v30.toInt = a25_3.toInt + 0 := by rw [q30]; exact (zadd_eb b25_3 (zB.of (x := 0) 0 (by decide)) (by decide) (by decide))
              have b30x : zB v30 0 8 := by have q1 := b25_3; have q2 := (zB.of (x := 0) 0 (by decide)); constructor <;> omega
              refine z_istore_n (pc := 66) C dX10_ahead_66 (by rw [hn]; decide) rfl ?_
              refine z_iinc (pc := 67) (v := 1) C dX10_ahead_67 rfl (by decide) (by rw [hn]; decide) rfl ?_
              obtain ⟨v31, hv31, e31⟩ : ∃ v : Int32, v = a25_4 + 1 ∧ v.toInt = a25_4.toInt + 1 := ⟨_, rfl, zadd_eb b22x (zB.of (x := 1) 1 (by decide)) (by decide) (by decide)⟩
              rw [← hv31]
              have b31x : zB v31 1 8 := by have q9 := b22x; constructor <;> omega
              refine z_goto (pc := 70) 25 C dX10_ahead_70 (by decide) ?_
              exact ih1 b25_1 a25_2 b25_2 v30 b30x v31 (zB.wk (a' := 0) (b' := 8) b31x (by decide) (by decide)) g25_ hI25_ hF25_ f25_25_0_6 (by exact hR25_0) (by exact hR25_1) (by
                                                                                          have hn : (v31).toInt.toNat = a25_4.toInt.toNat + 1 := by omega
                                                                                          rw [hn]
                                                                                          have k25 : g25_ 25 0 = f 25 0 := funext (fun j => hF25_ 25 0 j rfl)
                                                                                          have k26 : g25_ 26 0 = f 26 0 := funext (fun j => hF25_ 26 0 j rfl)
                                                                                          have k27 : g25_ 27 0 = f 27 0 := funext (fun j => hF25_ 27 0 j rfl)
                                                                                          have k28 : g25_ 28 0 = f 28 0 := funext (fun j => hF25_ 28 0 j rfl)
                                                                                          have k30 : g25_ 30 0 = f 30 0 := funext (fun j => hF25_ 30 0 j rfl)
                                                                                          have k29 : g25_ 29 0 = f 29 0 := funext (fun j => hF25_ 29 0 j rfl)
                                                                                          have hm : ∀ k, _ := fun k => zM_k (k := k) k25 k26 k27 k28 k29 k30
                                                                                          have hs := hp27_0
                                                                                          rw [(hm _).1] at hs
                                                                                          rw [zct_n (fun h => h.1 (by rw [← hs]; assumption))]
                                                                                          omega) (by omega) (by omega) (by omega) (by omega) (by omega) (by omega)
            · skip
              have b32x : zB v27 1 255 := by have q1 := b27x; have q2 := (zB.of (x := 0) 0 (by decide)); simp only [z32lt, z32le, z32eq, Int32.reduceToInt, Int32.toInt_zero] at h47_27; constructor <;> omega
              refine z_aload_n (pc := 50) C dX10_ahead_50 rfl ?_
              refine z_iload (pc := 51) C dX10_ahead_51 rfl ?_
              refine z_iload_n (pc := 53) C dX10_ahead_53 rfl ?_
              refine z_callV (pc := 54) C zk_X10_191 (x_X10_isAhead _ _ a25_4 b22x a25_2 b25_2 (by exact hR25_0) hI25_) rfl rfl (by decide) rfl rfl (Nat.le_of_ble_eq_true rfl) dX10_ahead_54 (fun r33 g33 q33 => ?_)
              obtain ⟨⟨v33, rfl, b33x⟩, hI33, hF33q, hp33_0⟩ := q33
              have hp33_0 := hp33_0 _ rfl
              obtain rfl := zFr_nil hF33q
              simp only [Option.toList, List.cons_append, List.nil_append]
              refine z_if_eq (pc := 57) 64 C dX10_ahead_57 (by decide) (fun h57_33 => ?_) (fun h57_33 => ?_)
              · skip
                have b35x : zB v33 0 0 := by have q1 := b33x; have q2 := (zB.of (x := 0) 0 (by decide)); simp only [z32lt, z32le, z32eq, Int32.reduceToInt, Int32.toInt_zero] at h57_33; constructor <;> omega
                refine z_iconst (pc := 64) (v := 0) C dX10_ahead_64 (by decide) ?_
                refine z_iadd (pc := 65) C dX10_ahead_65 ?_
                refine w_gp (fun v => v = a25_3 + (0 : Int32)) rfl (fun v36 q36 => ?_)
                have e36 : v36.toInt = a25_3.toInt + 0 := by rw [q36]; exact (zadd_eb b25_3 (zB.of (x := 0) 0 (by decide)) (by decide) (by decide))
                have b36x : zB v36 0 8 := by have q1 := b25_3; have q2 := (zB.of (x := 0) 0 (by decide)); constructor <;> omega
                refine z_istore_n (pc := 66) C dX10_ahead_66 (by rw [hn]; decide) rfl ?_
                refine z_iinc (pc := 67) (v := 1) C dX10_ahead_67 rfl (by decide) (by rw [hn]; decide) rfl ?_
                obtain ⟨v37, hv37, e37⟩ : ∃ v : Int32, v = a25_4 + 1 ∧ v.toInt = a25_4.toInt + 1 := ⟨_, rfl, zadd_eb b22x (zB.of (x := 1) 1 (by decide)) (by decide) (by decide)⟩
                rw [← hv37]
                have b37x : zB v37 1 8 := by have q9 := b22x; constructor <;> omega
                refine z_goto (pc := 70) 25 C dX10_ahead_70 (by decide) ?_
                exact ih1 b25_1 a25_2 b25_2 v36 b36x v37 (zB.wk (a' := 0) (b' := 8) b37x (by decide) (by decide)) g25_ hI25_ hF25_ f25_25_0_6 (by exact hR25_0) (by exact hR25_1) (by
                                                                                          have hn : (v37).toInt.toNat = a25_4.toInt.toNat + 1 := by omega
                                                                                          rw [hn]
                                                                                          have k25 : g25_ 25 0 = f 25 0 := funext (fun j => hF25_ 25 0 j rfl)
                                                                                          have k26 : g25_ 26 0 = f 26 0 := funext (fun j => hF25_ 26 0 j rfl)
                                                                                          have k27 : g25_ 27 0 = f 27 0 := funext (fun j => hF25_ 27 0 j rfl)
                                                                                          have k28 : g25_ 28 0 = f 28 0 := funext (fun j => hF25_ 28 0 j rfl)
                                                                                          have k30 : g25_ 30 0 = f 30 0 := funext (fun j => hF25_ 30 0 j rfl)
                                                                                          have k29 : g25_ 29 0 = f 29 0 := funext (fun j => hF25_ 29 0 j rfl)
                                                                                          have hm : ∀ k, _ := fun k => zM_k (k := k) k25 k26 k27 k28 k29 k30
                                                                                          have hs := hp27_0
                                                                                          rw [(hm _).1] at hs
                                                                                          have ha := hp33_0
                                                                                          rw [zah_congr (Y := zMY g25_) (Z := zMY f) (H := zMH g25_) (K := zMH f) (D := fun k => g25_ 29 0 (3 * k + 2)) (E := fun k => f 29 0 (3 * k + 2)) (a := a25_4.toInt.toNat) (b := a25_2.toInt.toNat) (hm _).2.1 (hm _).2.1 (hm _).2.2 (hm _).2.2 (by simp only [k29]) (by simp only [k29])] at ha
                                                                                          rw [zct_n (fun h => zbo_n ha (by omega) h.2)]
                                                                                          omega) (by omega) (by omega) (by omega) (by omega) (by omega) (by omega)
              · skip
                have b38x : zB v33 1 1 := by have q1 := b33x; have q2 := (zB.of (x := 0) 0 (by decide)); simp only [z32lt, z32le, z32eq, Int32.reduceToInt, Int32.toInt_zero] at h57_33; constructor <;> omega
                refine z_iconst (pc := 60) (v := 1) C dX10_ahead_60 (by decide) ?_
                refine z_goto (pc := 61) 65 C dX10_ahead_61 (by decide) ?_
                refine z_iadd (pc := 65) C dX10_ahead_65 ?_
                refine w_gp (fun v => v = a25_3 + (1 : Int32)) rfl (fun v39 q39 => ?_)
                have e39 : v39.toInt = a25_3.toInt + 1 := by rw [q39]; exact (zadd_eb b25_3 (zB.of (x := 1) 1 (by decide)) (by decide) (by decide))
                have b39x : zB v39 1 9 := by have q1 := b25_3; have q2 := (zB.of (x := 1) 1 (by decide)); constructor <;> omega
                refine z_istore_n (pc := 66) C dX10_ahead_66 (by rw [hn]; decide) rfl ?_
                refine z_iinc (pc := 67) (v := 1) C dX10_ahead_67 rfl (by decide) (by rw [hn]; decide) rfl ?_
                obtain ⟨v40, hv40, e40⟩ : ∃ v : Int32, v = a25_4 + 1 ∧ v.toInt = a25_4.toInt + 1 := ⟨_, rfl, zadd_eb b22x (zB.of (x := 1) 1 (by decide)) (by decide) (by decide)⟩
                rw [← hv40]
                have b40x : zB v40 1 8 := by have q9 := b22x; constructor <;> omega
                refine z_goto (pc := 70) 25 C dX10_ahead_70 (by decide) ?_
                exact ih1 b25_1 a25_2 b25_2 v39 (by constructor <;> omega) v40 (zB.wk (a' := 0) (b' := 8) b40x (by decide) (by decide)) g25_ hI25_ hF25_ f25_25_0_6 (by exact hR25_0) (by exact hR25_1) (by
                                                                                          have hn : (v40).toInt.toNat = a25_4.toInt.toNat + 1 := by omega
                                                                                          rw [hn]
                                                                                          have k25 : g25_ 25 0 = f 25 0 := funext (fun j => hF25_ 25 0 j rfl)
                                                                                          have k26 : g25_ 26 0 = f 26 0 := funext (fun j => hF25_ 26 0 j rfl)
                                                                                          have k27 : g25_ 27 0 = f 27 0 := funext (fun j => hF25_ 27 0 j rfl)
                                                                                          have k28 : g25_ 28 0 = f 28 0 := funext (fun j => hF25_ 28 0 j rfl)
                                                                                          have k30 : g25_ 30 0 = f 30 0 := funext (fun j => hF25_ 30 0 j rfl)
                                                                                          have k29 : g25_ 29 0 = f 29 0 := funext (fun j => hF25_ 29 0 j rfl)
                                                                                          have hm : ∀ k, _ := fun k => zM_k (k := k) k25 k26 k27 k28 k29 k30
                                                                                          have hs := hp27_0
                                                                                          rw [(hm _).1] at hs
                                                                                          have ha := hp33_0
                                                                                          rw [zah_congr (Y := zMY g25_) (Z := zMY f) (H := zMH g25_) (K := zMH f) (D := fun k => g25_ 29 0 (3 * k + 2)) (E := fun k => f 29 0 (3 * k + 2)) (a := a25_4.toInt.toNat) (b := a25_2.toInt.toNat) (hm _).2.1 (hm _).2.1 (hm _).2.2 (hm _).2.2 (by simp only [k29]) (by simp only [k29])] at ha
                                                                                          rw [zct_y ⟨by rw [← hs]; assumption, zbo_y ha (by omega)⟩]
                                                                                          omega) (by omega) (by omega) (by omega) (by omega) (by omega) (by omega)
  obtain ⟨J0, J1⟩ := J 409
  show Z X 0 [some (zr 25 0), some (zi a1), none, none, none] [] f
  refine z_iload_n (pc := 0) C dX10_ahead_0 rfl ?_
  refine z_if_ge (pc := 1) 6 C dX10_ahead_1 (by decide) (fun h1_40 => ?_) (fun h1_40 => ?_)
  · skip
    have b42x : zB a1 0 2147483647 := by have q1 := b1; have q2 := (zB.of (x := 0) 0 (by decide)); simp only [z32lt, z32le, z32eq, Int32.reduceToInt, Int32.toInt_zero] at h1_40; constructor <;> omega
    refine z_aload_n (pc := 6) C dX10_ahead_6 rfl ?_
    refine z_callV (pc := 7) C zk_X10_151 (x_X10_findOpen _ _  hI) rfl rfl (by decide) rfl rfl (Nat.le_of_ble_eq_true rfl) dX10_ahead_7 (fun r43 g43 q43 => ?_)
    obtain ⟨rfl, hI43, hF43q, hp43_0⟩ := q43
    have hF43 := zFr.tr hF hF43q (by decide)
    simp only [Option.toList, List.cons_append, List.nil_append]
    have ek43_25_0_6 : (g43 25 0 6).toInt = (f 25 0 6).toInt := by rw [hF43q 25 0 6 rfl]
    have c43_25_0_6x : zB (g43 25 0 6) 0 8 := by rw [hF43q 25 0 6 rfl]; exact ct25_0_6
    refine z_iconst (pc := 10) (v := 0) C dX10_ahead_10 (by decide) ?_
    refine z_istore_n (pc := 11) C dX10_ahead_11 (by rw [hn]; decide) rfl ?_
    exact J0 b42x 0 (zB.wk (a' := 0) (b' := 8) (zB.of (x := 0) 0 (by decide)) (by decide) (by decide)) g43 hI43 hF43 c43_25_0_6x (by
                                                                                          have k25 : g43 25 0 = f 25 0 := funext (fun j => hF43q 25 0 j rfl)
                                                                                          have k26 : g43 26 0 = f 26 0 := funext (fun j => hF43q 26 0 j rfl)
                                                                                          have k27 : g43 27 0 = f 27 0 := funext (fun j => hF43q 27 0 j rfl)
                                                                                          have k28 : g43 28 0 = f 28 0 := funext (fun j => hF43q 28 0 j rfl)
                                                                                          have k30 : g43 30 0 = f 30 0 := funext (fun j => hF43q 30 0 j rfl)
                                                                                          have h := hp43_0
                                                                                          intro q hq
                                                                                          rw [k25] at hq
                                                                                          rw [h q hq, k25]
                                                                                          exact zbf_congr _ (fun i _ => by rw [zcr_k k25 k26 k27 k28, zsr_k k25 k26 k27 k28 k30])) (by intro j hj; exact absurd hj (Nat.not_lt_zero j)) (by have qc0 : (0 : Int32).toInt = 0 := (by decide); omega) (by have qc0 : (0 : Int32).toInt = 0 := (by decide); omega) (by have qc0 : (0 : Int32).toInt = 0 := (by decide); omega) (by have qc0 : (0 : Int32).toInt = 0 := (by decide); omega)
  · skip
    have b44x : zB a1 (-2147483648) (-1) := by have q1 := b1; have q2 := (zB.of (x := 0) 0 (by decide)); simp only [z32lt, z32le, z32eq, Int32.reduceToInt, Int32.toInt_zero] at h1_40; constructor <;> omega
    refine z_iconst (pc := 4) (v := -1) C dX10_ahead_4 (by decide) ?_
    exact z_iret (pc := 5) C hr dX10_ahead_5 ⟨⟨_, rfl, (zB.wk (a' := (-4)) (b' := 7) (zB.of (x := (-1)) (-1) (by decide)) (by decide) (by decide))⟩, hI, hF, (by intro v hv; cases hv; exact Or.inl ⟨by omega, rfl⟩)⟩

theorem qd_ahead {f g g2 : zM} {v v2 : Int32} {a1 : Int32} (hI : zInv f) (hg : zInv g) (Rc : zRc f) (Rd : zRd f) (Rq : zRq f) (Rp : zRp f) (Rl : zRl f) (Rn : zRn f) (Rm : zRm f) (Ro : zRo f) (Rk : zRk f) (hF : zFr [(11, some 8), (11, some 9), (12, some 3), (12, some 4), (12, some 5)] f g) (hG : zFr [(31, none)] g g2) (hP : (a1.toInt < 0 ∧ v = -1) ∨ (0 ≤ a1.toInt ∧ zfst (fun k => ¬ zDS f k = 0 ∧ (zct (fun i => ¬ zDS f i = 0 ∧ zah (zDY f) (zDH f) (fun k => f 12 k 2) i k) (f 1 0 8).toInt.toNat : Int) = a1.toInt) (f 1 0 8).toInt.toNat v)) (hQ : (a1.toInt < 0 ∧ v2 = -1) ∨ (0 ≤ a1.toInt ∧ zfst (fun k => ¬ zMS g k = 0 ∧ (zct (fun i => ¬ zMS g i = 0 ∧ zah (zMY g) (zMH g) (fun k => g 29 0 (3 * k + 2)) i k) (g 25 0 6).toInt.toNat : Int) = a1.toInt) (g 25 0 6).toInt.toNat v2)) : v2 = v := by
  have k25 : g 25 0 = f 25 0 := funext (fun j => hF 25 0 j rfl)
  have k26 : g 26 0 = f 26 0 := funext (fun j => hF 26 0 j rfl)
  have k27 : g 27 0 = f 27 0 := funext (fun j => hF 27 0 j rfl)
  have k28 : g 28 0 = f 28 0 := funext (fun j => hF 28 0 j rfl)
  have k30 : g 30 0 = f 30 0 := funext (fun j => hF 30 0 j rfl)
  have k29 : g 29 0 = f 29 0 := funext (fun j => hF 29 0 j rfl)
  rcases hP with ⟨p1, p2⟩ | ⟨p1, p2⟩ <;> rcases hQ with ⟨q1, q2⟩ | ⟨q1, q2⟩
  · exact q2.trans p2.symm
  · omega
  · omega
  · rw [k25, ← Rc.2.2.1] at q2
    refine zfst_u p2 q2 (fun k hk => ?_)
    have hm : ∀ k, _ := fun k => zM_k (k := k) k25 k26 k27 k28 k29 k30
    have hr : ∀ k, k < (f 1 0 8).toInt.toNat → _ := fun k hk => zDS_r hI Rc Rd Rq Rp Rl Rn Rm Rk (k := k) (by omega)
    rw [(hm k).1, (hr k hk).1]
    have hc : zct (fun i => ¬ zDS f i = 0 ∧ zah (zDY f) (zDH f) (fun k => f 12 k 2) i k) (f 1 0 8).toInt.toNat = zct (fun i => ¬ zMS g i = 0 ∧ zah (zMY g) (zMH g) (fun k => g 29 0 (3 * k + 2)) i k) (f 1 0 8).toInt.toNat := by
      refine zct_congr _ (fun i hi => ?_)
      rw [(hm i).1, (hr i hi).1]
      exact and_congr Iff.rfl (zah_congr (Y := zDY f) (Z := zMY g) (H := zDH f) (K := zMH g) (D := fun k => f 12 k 2) (E := fun k => g 29 0 (3 * k + 2)) (a := i) (b := k) ((hr i hi).2.1.trans (hm i).2.1.symm) ((hr k hk).2.1.trans (hm k).2.1.symm) ((hr i hi).2.2.trans (hm i).2.2.symm) ((hr k hk).2.2.trans (hm k).2.2.symm) (by simp only [k29]; exact Rk.1 i 2 (by omega) (by decide)) (by simp only [k29]; exact Rk.1 k 2 (by omega) (by decide)))
    rw [hc]
