/-- the CRIMES that a paper names are among the first n of its TO -/
def zNm (f : zM) (p cb n : Nat) : Prop := ∀ c, c < 32 → bt (f 11 p 4) c = true → c < n ∧ f 7 (cb + c) 0 = f 11 p 2
def zRn (f : zM) : Prop := (∀ i : Nat, (i : Int) < (f 1 0 7).toInt → zNm f i 0 (f 1 0 5).toInt.toNat) ∧ (∀ i : Nat, (i : Int) < (f 1 1 7).toInt → zNm f (12 + i) 24 (f 1 1 5).toInt.toNat)
theorem zNm_k {f g : zM} {p q cb cb' n n' : Nat} (h : zNm f p cb n) (a : g 11 q 4 = f 11 p 4) (b : g 11 q 2 = f 11 p 2) (hn : n ≤ n') (e : ∀ x, x < n → g 7 (cb' + x) 0 = f 7 (cb + x) 0) : zNm g q cb' n' := by
  intro c hc hb
  rw [a] at hb
  obtain ⟨h1, h2⟩ := h c hc hb
  exact ⟨by omega, by rw [e c h1, b]; exact h2⟩
theorem zNm_0 {f : zM} {p cb n : Nat} (h : f 11 p 4 = 0) : zNm f p cb n := by
  intro c hc hb
  rw [h, b_0] at hb; cases hb
theorem zRn_k {f g : zM} (hI : zInv f) (h : zRn f) (a0 : g 1 0 7 = f 1 0 7) (a1 : g 1 1 7 = f 1 1 7) (b0 : g 1 0 5 = f 1 0 5) (b1 : g 1 1 5 = f 1 1 5) (e : ∀ x, x < 48 → g 7 x 0 = f 7 x 0) (d2 : ∀ x, x < 24 → g 11 x 2 = f 11 x 2) (d4 : ∀ x, x < 24 → g 11 x 4 = f 11 x 4) : zRn g := by
  have t0 : (f 1 0 7).toInt ≤ 12 := (hI 1 0 7).2
  have t1 : (f 1 1 7).toInt ≤ 12 := (hI 1 1 7).2
  have u0 : (f 1 0 5).toInt ≤ 24 := (hI 1 0 5).2
  have u1 : (f 1 1 5).toInt ≤ 24 := (hI 1 1 5).2
  refine ⟨fun i hi => ?_, fun i hi => ?_⟩
  · rw [a0] at hi; rw [b0]
    exact zNm_k (h.1 i hi) (d4 _ (by omega)) (d2 _ (by omega)) (Nat.le_refl _) (fun x hx => e _ (by omega))
  · rw [a1] at hi; rw [b1]
    exact zNm_k (h.2 i hi) (d4 _ (by omega)) (d2 _ (by omega)) (Nat.le_refl _) (fun x hx => e _ (by omega))
theorem zRn_0 : zRn z0 := by
  refine ⟨fun i hi => ?_, fun i hi => ?_⟩
  · rw [show z0 1 0 7 = 0 from rfl] at hi; exact absurd hi (by have : (0 : Int32).toInt = 0 := by decide
                                                               omega)
  · rw [show z0 1 1 7 = 0 from rfl] at hi; exact absurd hi (by have : (0 : Int32).toInt = 0 := by decide
                                                               omega)

theorem qn_crime {f g : zM} {v : Int32} {a1 a2 a3 a4 a5 a6 : Int32} (hI : zInv f) (Rn : zRn f) (hF : zFr [(1, some 5), (7, some 0), (7, some 1), (7, some 2), (7, some 3), (7, some 4), (7, some 5), (8, some 5), (8, some 6), (8, some 7), (9, none), (10, none)] f g) (hP : (¬ ((0 ≤ a1.toInt ∧ a1.toInt ≤ 5) ∧ (1 ≤ a2.toInt ∧ a2.toInt ≤ 63) ∧ (0 ≤ a3.toInt ∧ a3.toInt ≤ 63) ∧ a2 &&& a3 = 0 ∧ (1 ≤ a5.toInt ∧ a5.toInt ≤ 40) ∧ (0 ≤ a4.toInt ∧ a4.toInt ≤ a5.toInt)) ∧ v = -1 ∧ g = f) ∨ (((0 ≤ a1.toInt ∧ a1.toInt ≤ 5) ∧ (1 ≤ a2.toInt ∧ a2.toInt ≤ 63) ∧ (0 ≤ a3.toInt ∧ a3.toInt ≤ 63) ∧ a2 &&& a3 = 0 ∧ (1 ≤ a5.toInt ∧ a5.toInt ≤ 40) ∧ (0 ≤ a4.toInt ∧ a4.toInt ≤ a5.toInt)) ∧ 24 ≤ (f 1 0 5).toInt ∧ v = -3 ∧ g = f) ∨ (((0 ≤ a1.toInt ∧ a1.toInt ≤ 5) ∧ (1 ≤ a2.toInt ∧ a2.toInt ≤ 63) ∧ (0 ≤ a3.toInt ∧ a3.toInt ≤ 63) ∧ a2 &&& a3 = 0 ∧ (1 ≤ a5.toInt ∧ a5.toInt ≤ 40) ∧ (0 ≤ a4.toInt ∧ a4.toInt ≤ a5.toInt)) ∧ (f 1 0 5).toInt < 24 ∧ v = f 1 0 5 ∧ g 1 0 5 = f 1 0 5 + 1 ∧ (∀ j, j < 6 → g 7 (f 1 0 5).toInt.toNat j = zc6 a1 a2 a3 a4 a5 a6 j) ∧ (∀ i j, i ≠ (f 1 0 5).toInt.toNat → j < 6 → g 7 i j = f 7 i j) ∧ g 1 1 5 = f 1 1 5)) : zRn g := by
  have n0 : 0 ≤ (f 1 0 5).toInt := (hI 1 0 5).1
  rcases hP with ⟨p1, p2, rfl⟩ | ⟨p1, p2, p3, rfl⟩ | ⟨p1, p2, p3, p4, p5, p6, p7⟩
  · exact Rn
  · exact Rn
  · have k11 : ∀ n j, g 11 n j = f 11 n j := fun n j => hF 11 n j rfl
    have k17 : ∀ n, g 1 n 7 = f 1 n 7 := fun n => hF 1 n 7 rfl
    have es : (f 1 0 5 + 1 : Int32).toInt = (f 1 0 5).toInt + 1 := zadd_eb (x := f 1 0 5) (hI 1 0 5) (zB.of (x := 1) 1 (by decide)) (by decide) (by decide)
    refine ⟨fun i hi => ?_, fun i hi => ?_⟩
    · rw [k17] at hi; rw [p4, es]
      exact zNm_k (Rn.1 i hi) (k11 _ _) (k11 _ _) (by omega) (fun x hx => p6 _ 0 (by omega) (by decide))
    · rw [k17] at hi; rw [p7]
      exact zNm_k (Rn.2 i hi) (k11 _ _) (k11 _ _) (Nat.le_refl _) (fun x hx => p6 _ 0 (by omega) (by decide))
theorem qn_years {f g : zM} {v : Int32} {a1 a2 a3 a4 a5 a6 : Int32} (hI : zInv f) (Rn : zRn f) (hF : zFr [(1, some 7), (11, some 0), (11, some 1), (11, some 2), (11, some 3), (11, some 4), (11, some 5), (11, some 6), (11, some 7)] f g) (hP : (¬ (((0 ≤ a1.toInt ∧ a1.toInt ≤ 5) ∧ (0 ≤ a2.toInt ∧ a2.toInt ≤ 5) ∧ ¬ a1.toInt = a2.toInt ∧ (0 ≤ a4.toInt ∧ a4.toInt ≤ 31) ∧ (0 ≤ a5.toInt ∧ a5.toInt ≤ 99) ∧ (0 ≤ a6.toInt ∧ a6.toInt ≤ 7)) ∧ (1 ≤ a3.toInt ∧ a3.toInt ≤ 40)) ∧ v = -1 ∧ g = f) ∨ ((((0 ≤ a1.toInt ∧ a1.toInt ≤ 5) ∧ (0 ≤ a2.toInt ∧ a2.toInt ≤ 5) ∧ ¬ a1.toInt = a2.toInt ∧ (0 ≤ a4.toInt ∧ a4.toInt ≤ 31) ∧ (0 ≤ a5.toInt ∧ a5.toInt ≤ 99) ∧ (0 ≤ a6.toInt ∧ a6.toInt ≤ 7)) ∧ (1 ≤ a3.toInt ∧ a3.toInt ≤ 40)) ∧ 12 ≤ (f 1 0 7).toInt ∧ v = -3 ∧ g = f) ∨ ((((0 ≤ a1.toInt ∧ a1.toInt ≤ 5) ∧ (0 ≤ a2.toInt ∧ a2.toInt ≤ 5) ∧ ¬ a1.toInt = a2.toInt ∧ (0 ≤ a4.toInt ∧ a4.toInt ≤ 31) ∧ (0 ≤ a5.toInt ∧ a5.toInt ≤ 99) ∧ (0 ≤ a6.toInt ∧ a6.toInt ≤ 7)) ∧ (1 ≤ a3.toInt ∧ a3.toInt ≤ 40)) ∧ (f 1 0 7).toInt < 12 ∧ v = f 1 0 7 ∧ g 1 0 7 = f 1 0 7 + 1 ∧ (∀ j, j < 8 → g 11 (f 1 0 7).toInt.toNat j = zc8 0 a1 a2 a3 0 a4 a5 a6 j) ∧ (∀ i j, i ≠ (f 1 0 7).toInt.toNat → j < 8 → g 11 i j = f 11 i j) ∧ (∀ i j, ¬ (i = 0 ∧ j = 7) → g 1 i j = f 1 i j))) : zRn g := by
  have n0 : 0 ≤ (f 1 0 7).toInt := (hI 1 0 7).1
  rcases hP with ⟨p1, p2, rfl⟩ | ⟨p1, p2, p3, rfl⟩ | ⟨p1, p2, p3, p4, p5, p6, p7⟩
  · exact Rn
  · exact Rn
  · have k7 : ∀ n j, g 7 n j = f 7 n j := fun n j => hF 7 n j rfl
    have es : (f 1 0 7 + 1 : Int32).toInt = (f 1 0 7).toInt + 1 := zadd_eb (x := f 1 0 7) (hI 1 0 7) (zB.of (x := 1) 1 (by decide)) (by decide) (by decide)
    refine ⟨fun i hi => ?_, fun i hi => ?_⟩
    · rw [p4, es] at hi; rw [p7 0 5 (by omega)]
      by_cases hn : i = (f 1 0 7).toInt.toNat
      · rw [hn]
        exact zNm_0 (p5 4 (by decide))
      · exact zNm_k (Rn.1 i (by omega)) (p6 i 4 hn (by decide)) (p6 i 2 hn (by decide)) (Nat.le_refl _) (fun x _ => k7 _ _)
    · rw [p7 1 7 (by omega)] at hi; rw [p7 1 5 (by omega)]
      exact zNm_k (Rn.2 i hi) (p6 _ 4 (by omega) (by decide)) (p6 _ 2 (by omega) (by decide)) (Nat.le_refl _) (fun x _ => k7 _ _)
theorem qn_custom {f g : zM} {v : Int32} {a1 a2 a3 a4 a5 : Int32} (hI : zInv f) (Rn : zRn f) (hF : zFr [(1, some 7), (11, some 0), (11, some 1), (11, some 2), (11, some 3), (11, some 4), (11, some 5), (11, some 6), (11, some 7)] f g) (hP : (¬ ((0 ≤ a1.toInt ∧ a1.toInt ≤ 5) ∧ (0 ≤ a2.toInt ∧ a2.toInt ≤ 5) ∧ ¬ a1.toInt = a2.toInt ∧ (0 ≤ a3.toInt ∧ a3.toInt ≤ 31) ∧ (0 ≤ a4.toInt ∧ a4.toInt ≤ 99) ∧ (0 ≤ a5.toInt ∧ a5.toInt ≤ 7)) ∧ v = -1 ∧ g = f) ∨ (((0 ≤ a1.toInt ∧ a1.toInt ≤ 5) ∧ (0 ≤ a2.toInt ∧ a2.toInt ≤ 5) ∧ ¬ a1.toInt = a2.toInt ∧ (0 ≤ a3.toInt ∧ a3.toInt ≤ 31) ∧ (0 ≤ a4.toInt ∧ a4.toInt ≤ 99) ∧ (0 ≤ a5.toInt ∧ a5.toInt ≤ 7)) ∧ 12 ≤ (f 1 0 7).toInt ∧ v = -3 ∧ g = f) ∨ (((0 ≤ a1.toInt ∧ a1.toInt ≤ 5) ∧ (0 ≤ a2.toInt ∧ a2.toInt ≤ 5) ∧ ¬ a1.toInt = a2.toInt ∧ (0 ≤ a3.toInt ∧ a3.toInt ≤ 31) ∧ (0 ≤ a4.toInt ∧ a4.toInt ≤ 99) ∧ (0 ≤ a5.toInt ∧ a5.toInt ≤ 7)) ∧ (f 1 0 7).toInt < 12 ∧ v = f 1 0 7 ∧ g 1 0 7 = f 1 0 7 + 1 ∧ (∀ j, j < 8 → g 11 (f 1 0 7).toInt.toNat j = zc8 2 a1 a2 1 0 a3 a4 a5 j) ∧ (∀ i j, i ≠ (f 1 0 7).toInt.toNat → j < 8 → g 11 i j = f 11 i j) ∧ (∀ i j, ¬ (i = 0 ∧ j = 7) → g 1 i j = f 1 i j))) : zRn g := by
  have n0 : 0 ≤ (f 1 0 7).toInt := (hI 1 0 7).1
  rcases hP with ⟨p1, p2, rfl⟩ | ⟨p1, p2, p3, rfl⟩ | ⟨p1, p2, p3, p4, p5, p6, p7⟩
  · exact Rn
  · exact Rn
  · have k7 : ∀ n j, g 7 n j = f 7 n j := fun n j => hF 7 n j rfl
    have es : (f 1 0 7 + 1 : Int32).toInt = (f 1 0 7).toInt + 1 := zadd_eb (x := f 1 0 7) (hI 1 0 7) (zB.of (x := 1) 1 (by decide)) (by decide) (by decide)
    refine ⟨fun i hi => ?_, fun i hi => ?_⟩
    · rw [p4, es] at hi; rw [p7 0 5 (by omega)]
      by_cases hn : i = (f 1 0 7).toInt.toNat
      · rw [hn]
        exact zNm_0 (p5 4 (by decide))
      · exact zNm_k (Rn.1 i (by omega)) (p6 i 4 hn (by decide)) (p6 i 2 hn (by decide)) (Nat.le_refl _) (fun x _ => k7 _ _)
    · rw [p7 1 7 (by omega)] at hi; rw [p7 1 5 (by omega)]
      exact zNm_k (Rn.2 i hi) (p6 _ 4 (by omega) (by decide)) (p6 _ 2 (by omega) (by decide)) (Nat.le_refl _) (fun x _ => k7 _ _)
theorem qn_named {f g : zM} {v : Int32} {a1 a2 a3 a4 a5 a6 : Int32} (hI : zInv f) (Rn : zRn f) (hF : zFr [(1, some 7), (11, some 0), (11, some 1), (11, some 2), (11, some 3), (11, some 4), (11, some 5), (11, some 6), (11, some 7)] f g) (hP : (¬ (((0 ≤ a1.toInt ∧ a1.toInt ≤ 5) ∧ (0 ≤ a2.toInt ∧ a2.toInt ≤ 5) ∧ ¬ a1.toInt = a2.toInt ∧ (0 ≤ a4.toInt ∧ a4.toInt ≤ 31) ∧ (0 ≤ a5.toInt ∧ a5.toInt ≤ 99) ∧ (0 ≤ a6.toInt ∧ a6.toInt ≤ 7)) ∧ ¬ a3 = 0 ∧ a3 &&& (zcf (fun i => f 7 i 0) a2 (f 1 0 5).toInt.toNat ^^^ -1) = 0) ∧ v = -1 ∧ g = f) ∨ ((((0 ≤ a1.toInt ∧ a1.toInt ≤ 5) ∧ (0 ≤ a2.toInt ∧ a2.toInt ≤ 5) ∧ ¬ a1.toInt = a2.toInt ∧ (0 ≤ a4.toInt ∧ a4.toInt ≤ 31) ∧ (0 ≤ a5.toInt ∧ a5.toInt ≤ 99) ∧ (0 ≤ a6.toInt ∧ a6.toInt ≤ 7)) ∧ ¬ a3 = 0 ∧ a3 &&& (zcf (fun i => f 7 i 0) a2 (f 1 0 5).toInt.toNat ^^^ -1) = 0) ∧ 12 ≤ (f 1 0 7).toInt ∧ v = -3 ∧ g = f) ∨ ((((0 ≤ a1.toInt ∧ a1.toInt ≤ 5) ∧ (0 ≤ a2.toInt ∧ a2.toInt ≤ 5) ∧ ¬ a1.toInt = a2.toInt ∧ (0 ≤ a4.toInt ∧ a4.toInt ≤ 31) ∧ (0 ≤ a5.toInt ∧ a5.toInt ≤ 99) ∧ (0 ≤ a6.toInt ∧ a6.toInt ≤ 7)) ∧ ¬ a3 = 0 ∧ a3 &&& (zcf (fun i => f 7 i 0) a2 (f 1 0 5).toInt.toNat ^^^ -1) = 0) ∧ (f 1 0 7).toInt < 12 ∧ v = f 1 0 7 ∧ g 1 0 7 = f 1 0 7 + 1 ∧ (∀ j, j < 8 → g 11 (f 1 0 7).toInt.toNat j = zc8 1 a1 a2 1 a3 a4 a5 a6 j) ∧ (∀ i j, i ≠ (f 1 0 7).toInt.toNat → j < 8 → g 11 i j = f 11 i j) ∧ (∀ i j, ¬ (i = 0 ∧ j = 7) → g 1 i j = f 1 i j))) : zRn g := by
  have n0 : 0 ≤ (f 1 0 7).toInt := (hI 1 0 7).1
  rcases hP with ⟨p1, p2, rfl⟩ | ⟨p1, p2, p3, rfl⟩ | ⟨p1, p2, p3, p4, p5, p6, p7⟩
  · exact Rn
  · exact Rn
  · have k7 : ∀ n j, g 7 n j = f 7 n j := fun n j => hF 7 n j rfl
    have es : (f 1 0 7 + 1 : Int32).toInt = (f 1 0 7).toInt + 1 := zadd_eb (x := f 1 0 7) (hI 1 0 7) (zB.of (x := 1) 1 (by decide)) (by decide) (by decide)
    refine ⟨fun i hi => ?_, fun i hi => ?_⟩
    · rw [p4, es] at hi; rw [p7 0 5 (by omega)]
      by_cases hn : i = (f 1 0 7).toInt.toNat
      · rw [hn]
        intro c hc hb
        rw [p5 4 (by decide)] at hb
        have u0 : (f 1 0 5).toInt ≤ 24 := (hI 1 0 5).2
        have hz := (zmkb.mp p1.2.2) c hc hb
        obtain ⟨h1, h2⟩ := (zcf_bit hc _ (by omega)).mp hz
        refine ⟨h1, ?_⟩
        rw [k7, p5 2 (by decide), Nat.zero_add]
        exact h2
      · exact zNm_k (Rn.1 i (by omega)) (p6 i 4 hn (by decide)) (p6 i 2 hn (by decide)) (Nat.le_refl _) (fun x _ => k7 _ _)
    · rw [p7 1 7 (by omega)] at hi; rw [p7 1 5 (by omega)]
      exact zNm_k (Rn.2 i hi) (p6 _ 4 (by omega) (by decide)) (p6 _ 2 (by omega) (by decide)) (Nat.le_refl _) (fun x _ => k7 _ _)
theorem qn_world {f g : zM} {v : Int32} {W : Nat ⊕ (List (Nat → Int32) × List (Nat → Int32))} (hI : zInv f) (Rn : zRn f) (hP : zWx f g v W) (h4 : ∀ cs ps, W = .inr (cs, ps) → ∀ x, x ∈ ps → x 4 = 0) : zRn g := by
  have hk : zKw f g → zRn g := fun k => zRn_k hI Rn k.2.2.1 k.2.2.2.1 k.1 k.2.1 (fun x hx => k.2.2.2.2.1 x 0 hx (by decide)) (fun x hx => k.2.2.2.2.2 x 2 hx (by decide)) (fun x hx => k.2.2.2.2.2 x 4 hx (by decide))
  have b0 : 0 ≤ (f 1 0 5).toInt := (hI 1 0 5).1
  have b7 : 0 ≤ (f 1 0 7).toInt := (hI 1 0 7).1
  have t1 : (f 1 1 7).toInt ≤ 12 := (hI 1 1 7).2
  have u1 : (f 1 1 5).toInt ≤ 24 := (hI 1 1 5).2
  rcases W with e | ⟨cs, ps⟩
  · exact hk hP.2
  · have hps := h4 cs ps rfl
    simp only [zWx] at hP
    rcases hP with ⟨p1, p2, p3⟩ | ⟨p1, p2, p3, p4, p5, p6, p7, p8⟩
    · exact hk p3
    · refine ⟨fun i hi => ?_, fun i hi => ?_⟩
      · by_cases q : i < (f 1 0 7).toInt.toNat
        · exact zNm_k (Rn.1 i (by omega)) (p8.2 i 4 (by omega) (Or.inl q) (by decide)) (p8.2 i 2 (by omega) (Or.inl q) (by decide)) (by omega) (fun x hx => p7.2 _ 0 (by omega) (Or.inl (by omega)) (by decide))
        · refine zNm_0 ?_
          have e := p8.1 (i - (f 1 0 7).toInt.toNat) 4 (by omega) (by decide)
          rw [show (f 1 0 7).toInt.toNat + (i - (f 1 0 7).toInt.toNat) = i by omega] at e
          rw [e]
          exact hps _ (getD_mem (by omega))
      · rw [p6] at hi; rw [p5]
        exact zNm_k (Rn.2 i hi) (p8.2 _ 4 (by omega) (Or.inr (by omega)) (by decide)) (p8.2 _ 2 (by omega) (Or.inr (by omega)) (by decide)) (Nat.le_refl _) (fun x hx => p7.2 _ 0 (by omega) (Or.inr (by omega)) (by decide))

theorem qn_image {f g : zM} (hI : zInv f) (Rn : zRn f) (h0 : g 1 1 5 = f 1 0 5) (h1 : g 1 1 6 = f 1 0 6) (h2 : g 1 1 7 = f 1 0 7) (h3 : g 1 1 8 = f 1 0 8) (h4 : g 1 0 5 = f 1 0 5) (h5 : g 1 0 6 = f 1 0 6) (h6 : g 1 0 7 = f 1 0 7) (h7 : g 1 0 8 = f 1 0 8) (h8 : zcpd f g 7 24 0 (f 1 0 5).toInt.toNat 6 24) (h9 : zcpd f g 8 8 0 (f 1 0 6).toInt.toNat 5 8) (h10 : zcpd f g 11 12 0 (f 1 0 7).toInt.toNat 8 12) (h11 : zcpd f g 12 8 0 (f 1 0 8).toInt.toNat 3 8) (h12 : ∀ j, j < 7 → g 6 1 j = f 6 0 j) (h13 : ∀ j, j < 7 → g 6 0 j = f 6 0 j) (h14 : g 0 0 5 = 1) (h15 : zRl f → zRl g) : zRn g := by
  have t0 : (f 1 0 7).toInt ≤ 12 := (hI 1 0 7).2
  have u0 : (f 1 0 5).toInt ≤ 24 := (hI 1 0 5).2
  refine ⟨fun i hi => ?_, fun i hi => ?_⟩
  · rw [h6] at hi; rw [h4]
    exact zNm_k (Rn.1 i hi) (by have e := h10.2 i 4 (by omega) (by decide); rw [Nat.zero_add] at e; exact e) (by have e := h10.2 i 2 (by omega) (by decide); rw [Nat.zero_add] at e; exact e) (Nat.le_refl _) (fun x hx => h8.2 x 0 (by omega) (by decide))
  · rw [h2] at hi; rw [h0]
    exact zNm_k (Rn.1 i hi) (by have e := h10.1 i 4 (by omega) (by decide); rw [Nat.zero_add] at e; exact e) (by have e := h10.1 i 2 (by omega) (by decide); rw [Nat.zero_add] at e; exact e) (Nat.le_refl _) (fun x hx => h8.1 x 0 (by omega) (by decide))
theorem qn_restore {f g : zM} (hI : zInv f) (Rn : zRn f) (h0 : g 1 0 5 = f 1 1 5) (h1 : g 1 0 6 = f 1 1 6) (h2 : g 1 0 7 = f 1 1 7) (h3 : g 1 0 8 = f 1 1 8) (h4 : g 1 1 5 = f 1 1 5) (h5 : g 1 1 6 = f 1 1 6) (h6 : g 1 1 7 = f 1 1 7) (h7 : g 1 1 8 = f 1 1 8) (h8 : zcpd f g 7 0 24 (f 1 1 5).toInt.toNat 6 24) (h9 : zcpd f g 8 0 8 (f 1 1 6).toInt.toNat 5 8) (h10 : zcpd f g 11 0 12 (f 1 1 7).toInt.toNat 8 12) (h11 : zcpd f g 12 0 8 (f 1 1 8).toInt.toNat 3 8) (h12 : ∀ j, j < 7 → g 6 0 j = f 6 1 j) (h13 : ∀ j, j < 7 → g 6 1 j = f 6 1 j) (h14 : ∀ i, i < (f 1 1 6).toInt.toNat → zLk g i (fun k j => g 7 k j) (g 1 0 5).toInt.toNat) : zRn g := by
  have t0 : (f 1 1 7).toInt ≤ 12 := (hI 1 1 7).2
  have u0 : (f 1 1 5).toInt ≤ 24 := (hI 1 1 5).2
  refine ⟨fun i hi => ?_, fun i hi => ?_⟩
  · rw [h2] at hi; rw [h0]
    exact zNm_k (Rn.2 i hi) (by have e := h10.1 i 4 (by omega) (by decide); rw [Nat.zero_add] at e; exact e) (by have e := h10.1 i 2 (by omega) (by decide); rw [Nat.zero_add] at e; exact e) (Nat.le_refl _) (fun x hx => h8.1 x 0 (by omega) (by decide))
  · rw [h6] at hi; rw [h4]
    exact zNm_k (Rn.2 i hi) (h10.2 i 4 (by omega) (by decide)) (h10.2 i 2 (by omega) (by decide)) (Nat.le_refl _) (fun x hx => h8.2 x 0 (by omega) (by decide))
def zbo (v : Int32) (P : Prop) : Prop := (v = 1 ∧ P) ∨ (v = 0 ∧ ¬ P)
/-- a paper is for a DEED (the class) -/
def zcx (f : zM) (p d : Nat) : Prop := (f 11 p 3).toInt ≤ (f 10 d (f 11 p 1).toInt.toNat).toInt ∧ (f 11 p 3).toInt ≤ (f 9 d (f 11 p 2).toInt.toNat).toInt ∧ (f 11 p 0 = 1 → ¬ f 8 d 5 &&& f 11 p 4 = 0) ∧ (f 11 p 0 = 2 → f 8 d 0 &&& (f 8 d 1 ^^^ -1) = 0)
/-- a paper covers a DEED (the reference) -/
def zcr (f : zM) (p d : Nat) : Prop := (f 28 0 (8 * p + 3)).toInt ≤ (zly (fun k j => f 26 0 (6 * k + j)) (f 27 0 (5 * d + 1)) (f 28 0 (8 * p + 1)).toInt.toNat (f 25 0 0).toInt.toNat).toInt ∧ (f 28 0 (8 * p + 3)).toInt ≤ (zly (fun k j => f 26 0 (6 * k + j)) (f 27 0 (5 * d + 0)) (f 28 0 (8 * p + 2)).toInt.toNat (f 25 0 0).toInt.toNat).toInt ∧ (f 28 0 (8 * p + 0) = 1 → ¬ zcw (fun k j => f 26 0 (6 * k + j)) (f 27 0 (5 * d + 0)) (f 28 0 (8 * p + 2)) (f 25 0 0).toInt.toNat &&& f 28 0 (8 * p + 4) = 0) ∧ (f 28 0 (8 * p + 0) = 2 → f 27 0 (5 * d + 0) &&& (f 27 0 (5 * d + 1) ^^^ -1) = 0)
theorem zcx_r {f : zM} (hI : zInv f) (Rd : zRd f) (Rq : zRq f) (Rp : zRp f) (Rl : zRl f) (Rn : zRn f) {p d : Nat} (hp : (p : Int) < (f 1 0 7).toInt) (hd : (d : Int) < (f 1 0 6).toInt) : zcx f p d ↔ zcr f p d := by
  have u0 : (f 1 0 5).toInt ≤ 24 := (hI 1 0 5).2
  have n0 : 0 ≤ (f 1 0 5).toInt := (hI 1 0 5).1
  have r1 : 0 ≤ (f 11 p 1).toInt ∧ (f 11 p 1).toInt ≤ 5 := hI 11 p 1
  have r2 : 0 ≤ (f 11 p 2).toInt ∧ (f 11 p 2).toInt ≤ 5 := hI 11 p 2
  obtain ⟨l1, l2, l3, l4, l5⟩ := Rl d hd
  have y1 := l5 (f 11 p 1).toInt.toNat (by omega)
  have y2 := l4 (f 11 p 2).toInt.toNat (by omega)
  have hC : ∀ q j, q < (f 1 0 5).toInt.toNat → j < 6 → (fun k j => f 26 0 (6 * k + j)) q j = (fun k j => f 7 k j) q j := fun i j hi hj => (Rq.2.2.1 i j (by omega) hj).symm
  have hm : zlc (fun k j => f 7 k j) (f 8 d 0) (f 1 0 5).toInt.toNat &&& f 11 p 4 = zcw (fun k j => f 7 k j) (f 8 d 0) (f 11 p 2) (f 1 0 5).toInt.toNat &&& f 11 p 4 := by
    apply b_ext
    intro i hi
    rw [b_and, b_and]
    cases q : bt (f 11 p 4) i
    · rw [Bool.and_false, Bool.and_false]
    · obtain ⟨e1, e2⟩ := Rn.1 p hp i hi q
      rw [Nat.zero_add] at e2
      rw [Bool.and_true, Bool.and_true]
      have h2 := zlc_bit (C := fun k j => f 7 k j) (m := f 8 d 0) hi (f 1 0 5).toInt.toNat (by omega)
      have h3 := zcw_bit (C := fun k j => f 7 k j) (m := f 8 d 0) (l := f 11 p 2) hi (f 1 0 5).toInt.toNat (by omega)
      cases a : bt (zlc (fun k j => f 7 k j) (f 8 d 0) (f 1 0 5).toInt.toNat) i <;> cases b : bt (zcw (fun k j => f 7 k j) (f 8 d 0) (f 11 p 2) (f 1 0 5).toInt.toNat) i
      · rfl
      · rw [h2.mpr ⟨e1, (h3.mp b).2.2⟩] at a; cases a
      · rw [h3.mpr ⟨e1, e2, (h2.mp a).2⟩] at b; cases b
      · rfl
  unfold zcx zcr
  rw [← Rp.2.2.1 p 0 hp (by decide), ← Rp.2.2.1 p 1 hp (by decide), ← Rp.2.2.1 p 2 hp (by decide), ← Rp.2.2.1 p 3 hp (by decide), ← Rp.2.2.1 p 4 hp (by decide), ← Rd.1 d 0 hd (by decide), ← Rd.1 d 1 hd (by decide), ← Rq.1, zly_congr _ hC, zly_congr _ hC, zcw_congr _ hC, y1, y2, l1, hm]
/-- bits by a property -/
noncomputable def zbf (P : Nat → Prop) : Nat → Int32
  | 0 => 0
  | k + 1 => zbf P k ||| (@ite Int32 (P k) (Classical.propDecidable _) (1 <<< (nI k &&& 31)) 0)
theorem zbf_congr {P Q : Nat → Prop} : ∀ n : Nat, (∀ k, k < n → (P k ↔ Q k)) → zbf P n = zbf Q n
  | 0, _ => rfl
  | n + 1, h => by
    rw [zbf, zbf, zbf_congr n (fun k hk => h k (by omega))]
    by_cases q : P n
    · rw [if_pos q, if_pos ((h n (by omega)).mp q)]
    · rw [if_neg q, if_neg (fun z => q ((h n (by omega)).mpr z))]

set_option maxRecDepth 100000 in
set_option maxHeartbeats 4000000 in
theorem x_X4_isFor (d : Nat) (f : zM) (m0 : Nat) (h0 : m0 < zcnt 11) (m1 : Nat) (h1 : m1 < zcnt 8) (hI : zInv f) : ZM d yX4_isFor cX4_isFor 2 (some .boolean) [zr 11 m0, zr 8 m1] f (fun r g => (∃ v, r = some (zi v) ∧ zB v 0 1) ∧ zInv g ∧ zFr [] f g ∧ (∀ v : Int32, r = some (zi v) → zbo v (zcx f m0 m1))) := by
  refine ZM.intro (by decide +kernel) (Nat.le_of_ble_eq_true rfl) ?_
  intro X C hr hn
  have hF : zFr [] f f := zFr.rf _ _
  show Z X 0 [some (zr 11 m0), some (zr 8 m1)] [] f
  refine z_aload_n (pc := 0) C dX4_isFor_0 rfl ?_
  refine z_getR (pc := 1) C zf_X4_47 rfl rfl h1 dX4_isFor_1 ?_
  refine z_aload_n (pc := 4) C dX4_isFor_4 rfl ?_
  refine z_getI (pc := 5) C zf_X4_9 rfl rfl h0 dX4_isFor_5 ?_
  refine w_gp (fun v => v = f 11 m0 1) rfl (fun v2 q2 => ?_)
  have b2x : zB v2 0 5 := by rw [q2]; exact (hI 11 m0 1)
  refine z_iald (pc := 8) C rfl h1 (zIx b2x (by decide) (by decide)) dX4_isFor_8 ?_
  have kq8_2 : v2.toNatClampNeg = v2.toInt.toNat := rfl
  refine w_gp (fun v => v = f 10 m1 v2.toNatClampNeg) rfl (fun v3 q3 => ?_)
  have b3x : zB v3 0 40 := by rw [q3]; exact (hI 10 m1 v2.toNatClampNeg)
  refine z_aload_n (pc := 9) C dX4_isFor_9 rfl ?_
  refine z_getI (pc := 10) C zf_X4_21 rfl rfl h0 dX4_isFor_10 ?_
  refine w_gp (fun v => v = f 11 m0 3) rfl (fun v5 q5 => ?_)
  have b5x : zB v5 0 40 := by rw [q5]; exact (hI 11 m0 3)
  refine z_icmp_lt (pc := 13) 32 C dX4_isFor_13 (by decide) (fun h13_5 => ?_) (fun h13_5 => ?_)
  · skip
    have rr7 : v3.toInt < v5.toInt := by simp only [z32lt, z32le, z32eq] at h13_5; omega
    have b8x : zB v3 0 39 := by have q1 := b3x; have q2 := b5x; simp only [z32lt, z32le, z32eq, Int32.reduceToInt, Int32.toInt_zero] at h13_5; constructor <;> omega
    have b9x : zB v5 1 40 := by have q1 := b3x; have q2 := b5x; simp only [z32lt, z32le, z32eq, Int32.reduceToInt, Int32.toInt_zero] at h13_5; constructor <;> omega
    refine z_iconst (pc := 32) (v := 0) C dX4_isFor_32 (by decide) ?_
    exact z_zret (pc := 33) C hr (z01 (zB.wk (a' := 0) (b' := 1) (zB.of (x := 0) 0 (by decide)) (by decide) (by decide))) dX4_isFor_33 ⟨⟨_, rfl, (zB.wk (a' := 0) (b' := 1) (zB.of (x := 0) 0 (by decide)) (by decide) (by decide))⟩, hI, hF, (by
                                                                                          intro v hv; cases hv
                                                                                          have e8 : v3 = f 10 m1 (f 11 m0 1).toInt.toNat := by rw [q3, q2]; rfl
                                                                                          have e10 : v5 = f 11 m0 3 := q5
                                                                                          exact Or.inr ⟨rfl, fun h => by have h1 := h.1; rw [← e8, ← e10] at h1; omega⟩)⟩
  · skip
    have rr10 : v3.toInt ≥ v5.toInt := by simp only [z32lt, z32le, z32eq] at h13_5; omega
    refine z_aload_n (pc := 16) C dX4_isFor_16 rfl ?_
    refine z_getR (pc := 17) C zf_X4_53 rfl rfl h1 dX4_isFor_17 ?_
    refine z_aload_n (pc := 20) C dX4_isFor_20 rfl ?_
    refine z_getI (pc := 21) C zf_X4_15 rfl rfl h0 dX4_isFor_21 ?_
    refine w_gp (fun v => v = f 11 m0 2) rfl (fun v12 q12 => ?_)
    have b12x : zB v12 0 5 := by rw [q12]; exact (hI 11 m0 2)
    refine z_iald (pc := 24) C rfl h1 (zIx b12x (by decide) (by decide)) dX4_isFor_24 ?_
    have kq24_12 : v12.toNatClampNeg = v12.toInt.toNat := rfl
    refine w_gp (fun v => v = f 9 m1 v12.toNatClampNeg) rfl (fun v13 q13 => ?_)
    have b13x : zB v13 0 40 := by rw [q13]; exact (hI 9 m1 v12.toNatClampNeg)
    refine z_aload_n (pc := 25) C dX4_isFor_25 rfl ?_
    refine z_getI (pc := 26) C zf_X4_21 rfl rfl h0 dX4_isFor_26 ?_
    refine w_gp (fun v => v = f 11 m0 3) rfl (fun v15 q15 => ?_)
    have b15x : zB v15 0 40 := by rw [q15]; exact (hI 11 m0 3)
    refine z_icmp_ge (pc := 29) 34 C dX4_isFor_29 (by decide) (fun h29_15 => ?_) (fun h29_15 => ?_)
    · skip
      have rr17 : v13.toInt ≥ v15.toInt := by simp only [z32lt, z32le, z32eq] at h29_15; omega
      refine z_aload_n (pc := 34) C dX4_isFor_34 rfl ?_
      refine z_getI (pc := 35) C zf_X4_18 rfl rfl h0 dX4_isFor_35 ?_
      refine w_gp (fun v => v = f 11 m0 0) rfl (fun v19 q19 => ?_)
      have b19x : zB v19 0 2 := by rw [q19]; exact (hI 11 m0 0)
      by_cases hsw1 : v19 = 1
      · skip
        refine z_lookE (pc := 38) hsw1 64 C dX4_isFor_38 (by decide) rfl (by decide) ?_
        refine z_aload_n (pc := 64) C dX4_isFor_64 rfl ?_
        refine z_getI (pc := 65) C zf_X4_56 rfl rfl h1 dX4_isFor_65 ?_
        refine w_gp (fun v => v = f 8 m1 5) rfl (fun v21 q21 => ?_)
        have b21x : zB v21 0 16777215 := by rw [q21]; exact (hI 8 m1 5)
        refine z_aload_n (pc := 68) C dX4_isFor_68 rfl ?_
        refine z_getI (pc := 69) C zf_X4_24 rfl rfl h0 dX4_isFor_69 ?_
        refine w_gp (fun v => v = f 11 m0 4) rfl (fun v23 q23 => ?_)
        have b23x : zB v23 (-2147483648) 2147483647 := by rw [q23]; exact (hI 11 m0 4)
        refine z_iand (pc := 72) C dX4_isFor_72 ?_
        refine w_gp (fun v => v = v21 &&& v23) rfl (fun v24 q24 => ?_)
        have b24x : zB v24 0 16777215 := by rw [q24]; exact (zand_bl b21x b23x (by decide))
        refine z_if_eq (pc := 73) 80 C dX4_isFor_73 (by decide) (fun h73_24 => ?_) (fun h73_24 => ?_)
        · skip
          have b26x : zB v24 0 0 := by have q1 := b24x; have q2 := (zB.of (x := 0) 0 (by decide)); simp only [z32lt, z32le, z32eq, Int32.reduceToInt, Int32.toInt_zero] at h73_24; constructor <;> omega
          refine z_iconst (pc := 80) (v := 0) C dX4_isFor_80 (by decide) ?_
          exact z_zret (pc := 81) C hr (z01 (zB.wk (a' := 0) (b' := 1) (zB.of (x := 0) 0 (by decide)) (by decide) (by decide))) dX4_isFor_81 ⟨⟨_, rfl, (zB.wk (a' := 0) (b' := 1) (zB.of (x := 0) 0 (by decide)) (by decide) (by decide))⟩, hI, hF, (by
                                                                                          intro v hv; cases hv
                                                                                          have e8 : v3 = f 10 m1 (f 11 m0 1).toInt.toNat := by rw [q3, q2]; rfl
                                                                                          have e10 : v5 = f 11 m0 3 := q5
                                                                                          have e24 : v13 = f 9 m1 (f 11 m0 2).toInt.toNat := by rw [q13, q12]; rfl
                                                                                          have e26 : v15 = f 11 m0 3 := q15
                                                                                          have e35 : v19 = f 11 m0 0 := q19
                                                                                          have hA : (f 11 m0 3).toInt ≤ (f 10 m1 (f 11 m0 1).toInt.toNat).toInt := by rw [← e8, ← e10]; omega
                                                                                          have hB : (f 11 m0 3).toInt ≤ (f 9 m1 (f 11 m0 2).toInt.toNat).toInt := by rw [← e24, ← e26]; omega
                                                                                          rw [e35] at hsw1
                                                                                          have e72 : v24 = f 8 m1 5 &&& f 11 m0 4 := by rw [q24, q21, q23]
                                                                                          first
                                                                                            | exact Or.inl ⟨rfl, hA, hB, fun _ => by rw [← e72]; assumption, fun h => absurd (hsw1.symm.trans h) (by decide)⟩
                                                                                            | exact Or.inr ⟨rfl, fun h => h.2.2.1 hsw1 (by rw [← e72]; assumption)⟩)⟩
        · skip
          have b27x : zB v24 1 16777215 := by have q1 := b24x; have q2 := (zB.of (x := 0) 0 (by decide)); simp only [z32lt, z32le, z32eq, Int32.reduceToInt, Int32.toInt_zero] at h73_24; constructor <;> omega
          refine z_iconst (pc := 76) (v := 1) C dX4_isFor_76 (by decide) ?_
          refine z_goto (pc := 77) 81 C dX4_isFor_77 (by decide) ?_
          exact z_zret (pc := 81) C hr (z01 (zB.wk (a' := 0) (b' := 1) (zB.of (x := 1) 1 (by decide)) (by decide) (by decide))) dX4_isFor_81 ⟨⟨_, rfl, (zB.wk (a' := 0) (b' := 1) (zB.of (x := 1) 1 (by decide)) (by decide) (by decide))⟩, hI, hF, (by
                                                                                          intro v hv; cases hv
                                                                                          have e8 : v3 = f 10 m1 (f 11 m0 1).toInt.toNat := by rw [q3, q2]; rfl
                                                                                          have e10 : v5 = f 11 m0 3 := q5
                                                                                          have e24 : v13 = f 9 m1 (f 11 m0 2).toInt.toNat := by rw [q13, q12]; rfl
                                                                                          have e26 : v15 = f 11 m0 3 := q15
                                                                                          have e35 : v19 = f 11 m0 0 := q19
                                                                                          have hA : (f 11 m0 3).toInt ≤ (f 10 m1 (f 11 m0 1).toInt.toNat).toInt := by rw [← e8, ← e10]; omega
                                                                                          have hB : (f 11 m0 3).toInt ≤ (f 9 m1 (f 11 m0 2).toInt.toNat).toInt := by rw [← e24, ← e26]; omega
                                                                                          rw [e35] at hsw1
                                                                                          have e72 : v24 = f 8 m1 5 &&& f 11 m0 4 := by rw [q24, q21, q23]
                                                                                          first
                                                                                            | exact Or.inl ⟨rfl, hA, hB, fun _ => by rw [← e72]; assumption, fun h => absurd (hsw1.symm.trans h) (by decide)⟩
                                                                                            | exact Or.inr ⟨rfl, fun h => h.2.2.1 hsw1 (by rw [← e72]; assumption)⟩)⟩
      · skip
        by_cases hsw2 : v19 = 2
        · skip
          refine z_lookE (pc := 38) hsw2 82 C dX4_isFor_38 (by decide) rfl (by decide) ?_
          refine z_aload_n (pc := 82) C dX4_isFor_82 rfl ?_
          refine z_getI (pc := 83) C zf_X4_59 rfl rfl h1 dX4_isFor_83 ?_
          refine w_gp (fun v => v = f 8 m1 0) rfl (fun v29 q29 => ?_)
          have b29x : zB v29 0 63 := by rw [q29]; exact (hI 8 m1 0)
          refine z_aload_n (pc := 86) C dX4_isFor_86 rfl ?_
          refine z_getI (pc := 87) C zf_X4_62 rfl rfl h1 dX4_isFor_87 ?_
          refine w_gp (fun v => v = f 8 m1 1) rfl (fun v31 q31 => ?_)
          have b31x : zB v31 0 63 := by rw [q31]; exact (hI 8 m1 1)
          refine z_iconst (pc := 90) (v := -1) C dX4_isFor_90 (by decide) ?_
          refine z_ixor (pc := 91) C dX4_isFor_91 ?_
          refine w_gp (fun v => v = v31 ^^^ ((-1) : Int32)) rfl (fun v32 q32 => ?_)
          refine z_iand (pc := 92) C dX4_isFor_92 ?_
          refine w_gp (fun v => v = v29 &&& v32) rfl (fun v33 q33 => ?_)
          have b33x : zB v33 0 63 := by rw [q33]; exact (zand_bl b29x (zB_any v32) (by decide))
          refine z_if_ne (pc := 93) 100 C dX4_isFor_93 (by decide) (fun h93_33 => ?_) (fun h93_33 => ?_)
          · skip
            have b35x : zB v33 1 63 := by have q1 := b33x; have q2 := (zB.of (x := 0) 0 (by decide)); simp only [z32lt, z32le, z32eq, Int32.reduceToInt, Int32.toInt_zero] at h93_33; constructor <;> omega
            refine z_iconst (pc := 100) (v := 0) C dX4_isFor_100 (by decide) ?_
            exact z_zret (pc := 101) C hr (z01 (zB.wk (a' := 0) (b' := 1) (zB.of (x := 0) 0 (by decide)) (by decide) (by decide))) dX4_isFor_101 ⟨⟨_, rfl, (zB.wk (a' := 0) (b' := 1) (zB.of (x := 0) 0 (by decide)) (by decide) (by decide))⟩, hI, hF, (by
                                                                                          intro v hv; cases hv
                                                                                          have e8 : v3 = f 10 m1 (f 11 m0 1).toInt.toNat := by rw [q3, q2]; rfl
                                                                                          have e10 : v5 = f 11 m0 3 := q5
                                                                                          have e24 : v13 = f 9 m1 (f 11 m0 2).toInt.toNat := by rw [q13, q12]; rfl
                                                                                          have e26 : v15 = f 11 m0 3 := q15
                                                                                          have e35 : v19 = f 11 m0 0 := q19
                                                                                          have hA : (f 11 m0 3).toInt ≤ (f 10 m1 (f 11 m0 1).toInt.toNat).toInt := by rw [← e8, ← e10]; omega
                                                                                          have hB : (f 11 m0 3).toInt ≤ (f 9 m1 (f 11 m0 2).toInt.toNat).toInt := by rw [← e24, ← e26]; omega
                                                                                          rw [e35] at hsw1 hsw2
                                                                                          have e92 : v33 = f 8 m1 0 &&& (f 8 m1 1 ^^^ -1) := by rw [q33, q32, q29, q31]
                                                                                          first
                                                                                            | exact Or.inl ⟨rfl, hA, hB, fun h => absurd h hsw1, fun _ => by rw [← e92]; assumption⟩
                                                                                            | exact Or.inr ⟨rfl, fun h => absurd (show v33 = 0 by rw [e92]; exact h.2.2.2 hsw2) (by assumption)⟩)⟩
          · skip
            have b36x : zB v33 0 0 := by have q1 := b33x; have q2 := (zB.of (x := 0) 0 (by decide)); simp only [z32lt, z32le, z32eq, Int32.reduceToInt, Int32.toInt_zero] at h93_33; constructor <;> omega
            refine z_iconst (pc := 96) (v := 1) C dX4_isFor_96 (by decide) ?_
            refine z_goto (pc := 97) 101 C dX4_isFor_97 (by decide) ?_
            exact z_zret (pc := 101) C hr (z01 (zB.wk (a' := 0) (b' := 1) (zB.of (x := 1) 1 (by decide)) (by decide) (by decide))) dX4_isFor_101 ⟨⟨_, rfl, (zB.wk (a' := 0) (b' := 1) (zB.of (x := 1) 1 (by decide)) (by decide) (by decide))⟩, hI, hF, (by
                                                                                          intro v hv; cases hv
                                                                                          have e8 : v3 = f 10 m1 (f 11 m0 1).toInt.toNat := by rw [q3, q2]; rfl
                                                                                          have e10 : v5 = f 11 m0 3 := q5
                                                                                          have e24 : v13 = f 9 m1 (f 11 m0 2).toInt.toNat := by rw [q13, q12]; rfl
                                                                                          have e26 : v15 = f 11 m0 3 := q15
                                                                                          have e35 : v19 = f 11 m0 0 := q19
                                                                                          have hA : (f 11 m0 3).toInt ≤ (f 10 m1 (f 11 m0 1).toInt.toNat).toInt := by rw [← e8, ← e10]; omega
                                                                                          have hB : (f 11 m0 3).toInt ≤ (f 9 m1 (f 11 m0 2).toInt.toNat).toInt := by rw [← e24, ← e26]; omega
                                                                                          rw [e35] at hsw1 hsw2
                                                                                          have e92 : v33 = f 8 m1 0 &&& (f 8 m1 1 ^^^ -1) := by rw [q33, q32, q29, q31]
                                                                                          first
                                                                                            | exact Or.inl ⟨rfl, hA, hB, fun h => absurd h hsw1, fun _ => by rw [← e92]; assumption⟩
                                                                                            | exact Or.inr ⟨rfl, fun h => absurd (show v33 = 0 by rw [e92]; exact h.2.2.2 hsw2) (by assumption)⟩)⟩
        · skip
          refine z_lookup (pc := 38) 102 C dX4_isFor_38 (by decide) (zlk_X4_isFor hsw1 hsw2) (by decide) ?_
          refine z_iconst (pc := 102) (v := 1) C dX4_isFor_102 (by decide) ?_
          exact z_zret (pc := 103) C hr (z01 (zB.wk (a' := 0) (b' := 1) (zB.of (x := 1) 1 (by decide)) (by decide) (by decide))) dX4_isFor_103 ⟨⟨_, rfl, (zB.wk (a' := 0) (b' := 1) (zB.of (x := 1) 1 (by decide)) (by decide) (by decide))⟩, hI, hF, (by
                                                                                          intro v hv; cases hv
                                                                                          have e8 : v3 = f 10 m1 (f 11 m0 1).toInt.toNat := by rw [q3, q2]; rfl
                                                                                          have e10 : v5 = f 11 m0 3 := q5
                                                                                          have e24 : v13 = f 9 m1 (f 11 m0 2).toInt.toNat := by rw [q13, q12]; rfl
                                                                                          have e26 : v15 = f 11 m0 3 := q15
                                                                                          have e35 : v19 = f 11 m0 0 := q19
                                                                                          have hA : (f 11 m0 3).toInt ≤ (f 10 m1 (f 11 m0 1).toInt.toNat).toInt := by rw [← e8, ← e10]; omega
                                                                                          have hB : (f 11 m0 3).toInt ≤ (f 9 m1 (f 11 m0 2).toInt.toNat).toInt := by rw [← e24, ← e26]; omega
                                                                                          rw [e35] at hsw1 hsw2
                                                                                          exact Or.inl ⟨rfl, hA, hB, fun h => absurd h hsw1, fun h => absurd h hsw2⟩)⟩
    · skip
      have rr37 : v13.toInt < v15.toInt := by simp only [z32lt, z32le, z32eq] at h29_15; omega
      have b38x : zB v13 0 39 := by have q1 := b13x; have q2 := b15x; simp only [z32lt, z32le, z32eq, Int32.reduceToInt, Int32.toInt_zero] at h29_15; constructor <;> omega
      have b39x : zB v15 1 40 := by have q1 := b13x; have q2 := b15x; simp only [z32lt, z32le, z32eq, Int32.reduceToInt, Int32.toInt_zero] at h29_15; constructor <;> omega
      refine z_iconst (pc := 32) (v := 0) C dX4_isFor_32 (by decide) ?_
      exact z_zret (pc := 33) C hr (z01 (zB.wk (a' := 0) (b' := 1) (zB.of (x := 0) 0 (by decide)) (by decide) (by decide))) dX4_isFor_33 ⟨⟨_, rfl, (zB.wk (a' := 0) (b' := 1) (zB.of (x := 0) 0 (by decide)) (by decide) (by decide))⟩, hI, hF, (by
                                                                                          intro v hv; cases hv
                                                                                          have e8 : v3 = f 10 m1 (f 11 m0 1).toInt.toNat := by rw [q3, q2]; rfl
                                                                                          have e10 : v5 = f 11 m0 3 := q5
                                                                                          have e24 : v13 = f 9 m1 (f 11 m0 2).toInt.toNat := by rw [q13, q12]; rfl
                                                                                          have e26 : v15 = f 11 m0 3 := q15
                                                                                          exact Or.inr ⟨rfl, fun h => by have h1 := h.2.1; rw [← e24, ← e26] at h1; omega⟩)⟩

set_option maxRecDepth 100000 in
set_option maxHeartbeats 4000000 in
theorem x_X8_coveredBy (d : Nat) (f : zM) (m1 : Nat) (h1 : m1 < zcnt 11) (hI : zInv f) : ZM (d + 1) yX8_coveredBy cX8_coveredBy 4 (some .int) [zr 1 0, zr 11 m1] f (fun r g => (∃ v, r = some (zi v) ∧ zB v 0 255) ∧ zInv g ∧ zFr [] f g ∧ (∀ v : Int32, r = some (zi v) → v = zbf (fun i => zcx f m1 i) (f 1 0 6).toInt.toNat)) := by
  refine ZM.intro (by decide +kernel) (Nat.le_of_ble_eq_true rfl) ?_
  intro X C hr hn
  have hF : zFr [] f f := zFr.rf _ _
  have ct1_0_6 : zB (f 1 0 6) 0 8 := hI 1 0 6
  have J : ∀ t : Nat, (∀ a4_2 : Int32, zB a4_2 0 255 → ∀ a4_3 : Int32, zB a4_3 0 8 → ∀ g : zM, zInv g → zFr [] f g → zB (g 1 0 6) 0 8 → (g = f) → (a4_2 = zbf (fun i => zcx f m1 i) (a4_3.toInt.toNat)) → (a4_3.toInt ≤ (f 1 0 6).toInt) → ((g 1 0 6).toInt = (f 1 0 6).toInt) → (0 + 3 * (8 - a4_3.toInt) : Int) < t → Z X 4 [some (zr 1 0), some (zr 11 m1), some (zi a4_2), some (zi a4_3)] [] g) := by
    intro t
    induction t with
    | zero =>
      intros; exfalso; omega
    | succ t ih =>
      have ih0 := ih
      intro a4_2 b4_2 a4_3 b4_3 g4_ hI4_ hF4_ f4_1_0_6 hR4_0 hR4_1 hR4_2 hR4_3 hM4_
      refine z_iload_n (pc := 4) C dX8_coveredBy_4 rfl ?_
      refine z_aload_n (pc := 5) C dX8_coveredBy_5 rfl ?_
      refine z_getI (pc := 6) C zf_X8_54 rfl rfl (by decide) dX8_coveredBy_6 ?_
      refine w_gp (fun v => v = g4_ 1 0 6) rfl (fun v1 q1 => ?_)
      have e1 : v1.toInt = (g4_ 1 0 6).toInt := by rw [q1]
      have b1x : zB v1 0 8 := by first | exact zB.eqv e1 f4_1_0_6 | (have q9 := f4_1_0_6; constructor <;> omega)
      refine z_icmp_ge (pc := 9) 41 C dX8_coveredBy_9 (by decide) (fun h9_1 => ?_) (fun h9_1 => ?_)
      · skip
        have rr3 : a4_3.toInt ≥ v1.toInt := by simp only [z32lt, z32le, z32eq] at h9_1; omega
        refine z_iload_n (pc := 41) C dX8_coveredBy_41 rfl ?_
        exact z_iret (pc := 42) C hr dX8_coveredBy_42 ⟨⟨_, rfl, b4_2⟩, hI4_, hF4_, (by
                                                                                          intro v hv; cases hv
                                                                                          have hn : (f 1 0 6).toInt.toNat = a4_3.toInt.toNat := by omega
                                                                                          rw [hn]; exact hR4_1)⟩
      · skip
        have rr4 : a4_3.toInt < v1.toInt := by simp only [z32lt, z32le, z32eq] at h9_1; omega
        have b5x : zB a4_3 0 7 := by have q1 := b4_3; have q2 := b1x; simp only [z32lt, z32le, z32eq, Int32.reduceToInt, Int32.toInt_zero] at h9_1; constructor <;> omega
        have b6x : zB v1 1 8 := by have q1 := b4_3; have q2 := b1x; simp only [z32lt, z32le, z32eq, Int32.reduceToInt, Int32.toInt_zero] at h9_1; constructor <;> omega
        have c7x : zB (g4_ 1 0 6) 1 8 := by first | assumption | (constructor <;> omega)
        refine z_iload_n (pc := 12) C dX8_coveredBy_12 rfl ?_
        refine z_aload_n (pc := 13) C dX8_coveredBy_13 rfl ?_
        refine z_aload_n (pc := 14) C dX8_coveredBy_14 rfl ?_
        refine z_getR (pc := 15) C zf_X8_19 rfl rfl (by decide) dX8_coveredBy_15 ?_
        refine z_iload_n (pc := 18) C dX8_coveredBy_18 rfl ?_
        refine z_aald (pc := 19) C rfl ⟨rfl, by decide⟩ (by decide) (zIx b5x (by decide) (by decide)) dX8_coveredBy_19 ?_
        refine w_grx (by have hq := zN b5x (by decide); show 8 * 0 + a4_3.toNatClampNeg < 16; omega) (fun m8 q8r h8x => ?_)
        have q8r : m8 = 8 * 0 + a4_3.toNatClampNeg := q8r
        have k8r : a4_3.toNatClampNeg = a4_3.toInt.toNat := rfl
        refine z_callV (pc := 20) C zk_X8_100 (x_X4_isFor _ _ m1 h1 m8 h8x hI4_) rfl rfl h1 rfl rfl (Nat.le_of_ble_eq_true rfl) dX8_coveredBy_20 (fun r9 g9 q9 => ?_)
        obtain ⟨⟨v9, rfl, b9x⟩, hI9, hF9q, hp9_0⟩ := q9
        have hp9_0 := hp9_0 _ rfl
        obtain rfl := zFr_nil hF9q
        simp only [Option.toList, List.cons_append, List.nil_append]
        refine z_if_eq (pc := 23) 32 C dX8_coveredBy_23 (by decide) (fun h23_9 => ?_) (fun h23_9 => ?_)
        · skip
          have b11x : zB v9 0 0 := by have q1 := b9x; have q2 := (zB.of (x := 0) 0 (by decide)); simp only [z32lt, z32le, z32eq, Int32.reduceToInt, Int32.toInt_zero] at h23_9; constructor <;> omega
          refine z_iconst (pc := 32) (v := 0) C dX8_coveredBy_32 (by decide) ?_
          refine z_ior (pc := 33) C dX8_coveredBy_33 ?_
          refine w_gp (fun v => v = a4_2 ||| (0 : Int32)) rfl (fun v12 q12 => ?_)
          have b12x : zB v12 0 255 := by rw [q12]; exact (zor_b 8 b4_2 (zB.of (x := 0) 0 (by decide)) (by decide) (by decide) (by decide) (by decide) (by decide))
          refine z_istore_n (pc := 34) C dX8_coveredBy_34 (by rw [hn]; decide) rfl ?_
          refine z_iinc (pc := 35) (v := 1) C dX8_coveredBy_35 rfl (by decide) (by rw [hn]; decide) rfl ?_
          obtain ⟨v13, hv13, e13⟩ : ∃ v : Int32, v = a4_3 + 1 ∧ v.toInt = a4_3.toInt + 1 := ⟨_, rfl, zadd_eb b5x (zB.of (x := 1) 1 (by decide)) (by decide) (by decide)⟩
          rw [← hv13]
          have b13x : zB v13 1 8 := by have q9 := b5x; constructor <;> omega
          refine z_goto (pc := 38) 4 C dX8_coveredBy_38 (by decide) ?_
          exact ih0 v12 b12x v13 (zB.wk (a' := 0) (b' := 8) b13x (by decide) (by decide)) g4_ hI4_ hF4_ (zB.wk c7x (by decide) (by decide)) (by exact hR4_0) (by
                                                                                          have hn : (v13).toInt.toNat = a4_3.toInt.toNat + 1 := by omega
                                                                                          have hi : a4_3 = nI a4_3.toInt.toNat := (nI_ofI (by omega)).1
                                                                                          have hx : m8 = a4_3.toInt.toNat := by omega
                                                                                          have ho := q12
                                                                                          rw [hn, zbf, ← hR4_1, ho]
                                                                                          congr 1
                                                                                          have ha := hp9_0
                                                                                          rw [hx, hR4_0] at ha
                                                                                          rcases ha with ⟨h1, h2⟩ | ⟨h1, h2⟩
                                                                                          · first
                                                                                              | (rw [if_pos h2, ← hi]; first | rfl | assumption)
                                                                                              | (exfalso; exact absurd h1 (by rw [z32eq]; have c1 : (1 : Int32).toInt = 1 := by decide
                                                                                                                              omega))
                                                                                          · first
                                                                                              | (rw [if_neg h2]; done)
                                                                                              | (exfalso; exact absurd h1 (by rw [z32eq]; have c0 : (0 : Int32).toInt = 0 := by decide
                                                                                                                              omega))) (by omega) (by omega) (by omega)
        · skip
          have b14x : zB v9 1 1 := by have q1 := b9x; have q2 := (zB.of (x := 0) 0 (by decide)); simp only [z32lt, z32le, z32eq, Int32.reduceToInt, Int32.toInt_zero] at h23_9; constructor <;> omega
          refine z_iconst (pc := 26) (v := 1) C dX8_coveredBy_26 (by decide) ?_
          refine z_iload_n (pc := 27) C dX8_coveredBy_27 rfl ?_
          refine z_ishl (pc := 28) C dX8_coveredBy_28 ?_
          refine w_gp (fun v => v = (1 : Int32) <<< (a4_3 &&& 31)) rfl (fun v15 q15 => ?_)
          have b15x : zB v15 0 128 := by rw [q15]; exact (zshl_b b5x 7 (by decide) (by decide))
          refine z_goto (pc := 29) 33 C dX8_coveredBy_29 (by decide) ?_
          refine z_ior (pc := 33) C dX8_coveredBy_33 ?_
          refine w_gp (fun v => v = a4_2 ||| v15) rfl (fun v16 q16 => ?_)
          have b16x : zB v16 0 255 := by rw [q16]; exact (zor_b 8 b4_2 b15x (by decide) (by decide) (by decide) (by decide) (by decide))
          refine z_istore_n (pc := 34) C dX8_coveredBy_34 (by rw [hn]; decide) rfl ?_
          refine z_iinc (pc := 35) (v := 1) C dX8_coveredBy_35 rfl (by decide) (by rw [hn]; decide) rfl ?_
          obtain ⟨v17, hv17, e17⟩ : ∃ v : Int32, v = a4_3 + 1 ∧ v.toInt = a4_3.toInt + 1 := ⟨_, rfl, zadd_eb b5x (zB.of (x := 1) 1 (by decide)) (by decide) (by decide)⟩
          rw [← hv17]
          have b17x : zB v17 1 8 := by have q9 := b5x; constructor <;> omega
          refine z_goto (pc := 38) 4 C dX8_coveredBy_38 (by decide) ?_
          exact ih0 v16 b16x v17 (zB.wk (a' := 0) (b' := 8) b17x (by decide) (by decide)) g4_ hI4_ hF4_ (zB.wk c7x (by decide) (by decide)) (by exact hR4_0) (by
                                                                                          have hn : (v17).toInt.toNat = a4_3.toInt.toNat + 1 := by omega
                                                                                          have hi : a4_3 = nI a4_3.toInt.toNat := (nI_ofI (by omega)).1
                                                                                          have hx : m8 = a4_3.toInt.toNat := by omega
                                                                                          have ho := q16
                                                                                          rw [hn, zbf, ← hR4_1, ho]
                                                                                          congr 1
                                                                                          have ha := hp9_0
                                                                                          rw [hx, hR4_0] at ha
                                                                                          rcases ha with ⟨h1, h2⟩ | ⟨h1, h2⟩
                                                                                          · first
                                                                                              | (rw [if_pos h2, ← hi]; first | rfl | assumption)
                                                                                              | (exfalso; exact absurd h1 (by rw [z32eq]; have c1 : (1 : Int32).toInt = 1 := by decide
                                                                                                                              omega))
                                                                                          · first
                                                                                              | (rw [if_neg h2]; done)
                                                                                              | (exfalso; exact absurd h1 (by rw [z32eq]; have c0 : (0 : Int32).toInt = 0 := by decide
                                                                                                                              omega))) (by omega) (by omega) (by omega)
  have J0 := J 39
  show Z X 0 [some (zr 1 0), some (zr 11 m1), none, none] [] f
  refine z_iconst (pc := 0) (v := 0) C dX8_coveredBy_0 (by decide) ?_
  refine z_istore_n (pc := 1) C dX8_coveredBy_1 (by rw [hn]; decide) rfl ?_
  refine z_iconst (pc := 2) (v := 0) C dX8_coveredBy_2 (by decide) ?_
  refine z_istore_n (pc := 3) C dX8_coveredBy_3 (by rw [hn]; decide) rfl ?_
  exact J0 0 (zB.wk (a' := 0) (b' := 255) (zB.of (x := 0) 0 (by decide)) (by decide) (by decide)) 0 (zB.wk (a' := 0) (b' := 8) (zB.of (x := 0) 0 (by decide)) (by decide) (by decide)) f hI hF ct1_0_6 (by rfl) (by rfl) (by have qc0 : (0 : Int32).toInt = 0 := (by decide); omega) (by have qc0 : (0 : Int32).toInt = 0 := (by decide); omega) (by have qc0 : (0 : Int32).toInt = 0 := (by decide); omega)

set_option maxRecDepth 100000 in
set_option maxHeartbeats 4000000 in
theorem x_X9_covers (d : Nat) (f : zM) (a1 : Int32) (b1 : zB a1 (-2147483648) 2147483647) (hI : zInv f) : ZM (d + 2) yX9_covers cX9_covers 2 (some .int) [zr 0 0, zi a1] f (fun r g => (∃ v, r = some (zi v) ∧ zB v (-1) 255) ∧ zInv g ∧ zFr [] f g ∧ (∀ v : Int32, r = some (zi v) → (¬ (0 ≤ a1.toInt ∧ a1.toInt < (f 1 0 7).toInt) ∧ v = -1) ∨ ((0 ≤ a1.toInt ∧ a1.toInt < (f 1 0 7).toInt) ∧ v = zbf (fun i => zcx f a1.toInt.toNat i) (f 1 0 6).toInt.toNat))) := by
  refine ZM.intro (by decide +kernel) (Nat.le_of_ble_eq_true rfl) ?_
  intro X C hr hn
  have hF : zFr [] f f := zFr.rf _ _
  show Z X 0 [some (zr 0 0), some (zi a1)] [] f
  refine z_aload_n (pc := 0) C dX9_covers_0 rfl ?_
  refine z_iload_n (pc := 1) C dX9_covers_1 rfl ?_
  refine z_callVb (pc := 2) C zk_X9_153 (m_X9_isPaper _ _ _) rfl rfl (by decide) rfl rfl (Nat.le_of_ble_eq_true rfl) dX9_covers_2 (fun h2_0 => ?_) (fun h2_0 => ?_)
  · skip
    have b2x : zB a1 0 11 := (zltc h2_0 (hI 1 0 7).2)
    refine z_if_eq (pc := 5) 27 C dX9_covers_5 (by decide) (fun h => absurd h (by decide)) (fun _ => ?_)
    refine z_aload_n (pc := 8) C dX9_covers_8 rfl ?_
    refine z_getR (pc := 9) C zf_X9_10 rfl rfl (by decide) dX9_covers_9 ?_
    refine z_aload_n (pc := 12) C dX9_covers_12 rfl ?_
    refine z_getR (pc := 13) C zf_X9_10 rfl rfl (by decide) dX9_covers_13 ?_
    refine z_getR (pc := 16) C zf_X9_90 rfl rfl (by decide) dX9_covers_16 ?_
    refine z_iload_n (pc := 19) C dX9_covers_19 rfl ?_
    refine z_aald (pc := 20) C rfl ⟨rfl, by decide⟩ (by decide) (zIx b2x (by decide) (by decide)) dX9_covers_20 ?_
    refine w_grx (by have hq := zN b2x (by decide); show 12 * 0 + a1.toNatClampNeg < 36; omega) (fun m3 q3r h3x => ?_)
    have q3r : m3 = 12 * 0 + a1.toNatClampNeg := q3r
    have k3r : a1.toNatClampNeg = a1.toInt.toNat := rfl
    refine z_callV (pc := 21) C zk_X9_255 (x_X8_coveredBy _ _ m3 h3x hI) rfl rfl (by decide) rfl rfl (Nat.le_of_ble_eq_true rfl) dX9_covers_21 (fun r4 g4 q4 => ?_)
    obtain ⟨⟨v4, rfl, b4x⟩, hI4, hF4q, hp4_0⟩ := q4
    have hp4_0 := hp4_0 _ rfl
    obtain rfl := zFr_nil hF4q
    simp only [Option.toList, List.cons_append, List.nil_append]
    refine z_goto (pc := 24) 28 C dX9_covers_24 (by decide) ?_
    exact z_iret (pc := 28) C hr dX9_covers_28 ⟨⟨_, rfl, (zB.wk (a' := (-1)) (b' := 255) b4x (by decide) (by decide))⟩, hI, hF, (by
                                                                                          intro v hv; cases hv
                                                                                          have hd : m3 = a1.toInt.toNat := by omega
                                                                                          have h := hp4_0
                                                                                          rw [hd] at h
                                                                                          exact Or.inr ⟨by omega, h⟩)⟩
  · skip
    refine z_if_eq (pc := 5) 27 C dX9_covers_5 (by decide) (fun _ => ?_) (fun h => absurd (by decide) h)
    refine z_iconst (pc := 27) (v := -1) C dX9_covers_27 (by decide) ?_
    exact z_iret (pc := 28) C hr dX9_covers_28 ⟨⟨_, rfl, (zB.wk (a' := (-1)) (b' := 255) (zB.of (x := (-1)) (-1) (by decide)) (by decide) (by decide))⟩, hI, hF, (by intro v hv; cases hv; exact Or.inl ⟨by omega, rfl⟩)⟩

set_option maxRecDepth 100000 in
set_option maxHeartbeats 4000000 in
theorem x_X10_isCovered (d : Nat) (f : zM) (a1 : Int32) (b1 : zB a1 0 11) (a2 : Int32) (b2 : zB a2 0 7) (hI : zInv f) : ZM (d + 3) yX10_isCovered cX10_isCovered 6 (some .boolean) [zr 25 0, zi a1, zi a2] f (fun r g => (∃ v, r = some (zi v) ∧ zB v 0 1) ∧ zInv g ∧ zFr [] f g ∧ (∀ v : Int32, r = some (zi v) → zbo v (zcr f a1.toInt.toNat a2.toInt.toNat))) := by
  refine ZM.intro (by decide +kernel) (Nat.le_of_ble_eq_true rfl) ?_
  intro X C hr hn
  have hF : zFr [] f f := zFr.rf _ _
  show Z X 0 [some (zr 25 0), some (zi a1), some (zi a2), none, none, none] [] f
  refine z_bipush (pc := 0) (v := 8) C dX10_isCovered_0 (by decide) ?_
  refine z_iload_n (pc := 2) C dX10_isCovered_2 rfl ?_
  refine z_imul (pc := 3) C dX10_isCovered_3 ?_
  refine w_gp (fun v => v = (8 : Int32) * a1) rfl (fun v1 q1 => ?_)
  have e1 : v1.toInt = 8 * a1.toInt := by rw [q1]; exact (zmul_kb 8 (by decide) (by decide) b1 (by decide) (by decide))
  have b1x : zB v1 0 88 := zmul_bb e1 (by decide) b1
  refine z_istore_n (pc := 4) C dX10_isCovered_4 (by rw [hn]; decide) rfl ?_
  refine z_aload_n (pc := 5) C dX10_isCovered_5 rfl ?_
  refine z_getR (pc := 6) C zf_X10_13 rfl rfl (by decide) dX10_isCovered_6 ?_
  refine z_iconst (pc := 9) (v := 5) C dX10_isCovered_9 (by decide) ?_
  refine z_iload_n (pc := 10) C dX10_isCovered_10 rfl ?_
  refine z_imul (pc := 11) C dX10_isCovered_11 ?_
  refine w_gp (fun v => v = (5 : Int32) * a2) rfl (fun v2 q2 => ?_)
  have e2 : v2.toInt = 5 * a2.toInt := by rw [q2]; exact (zmul_kb 5 (by decide) (by decide) b2 (by decide) (by decide))
  have b2x : zB v2 0 35 := zmul_bb e2 (by decide) b2
  refine z_iald (pc := 12) C rfl (by decide) (zIx b2x (by decide) (by decide)) dX10_isCovered_12 ?_
  have kq12_2 : v2.toNatClampNeg = v2.toInt.toNat := rfl
  refine w_gp (fun v => v = f 27 0 v2.toNatClampNeg) rfl (fun v3 q3 => ?_)
  have b3x : zB v3 0 63 := by rw [q3]; exact (by have hq9 := hI 27 0 v2.toNatClampNeg; rw [zrg27 (r := 0) (by have hq : v2.toNatClampNeg = v2.toInt.toNat := rfl; have hq2 := b2x; omega)] at hq9; exact hq9)
  refine z_istore (pc := 13) C dX10_isCovered_13 (by rw [hn]; decide) rfl ?_
  refine z_aload_n (pc := 15) C dX10_isCovered_15 rfl ?_
  refine z_getR (pc := 16) C zf_X10_13 rfl rfl (by decide) dX10_isCovered_16 ?_
  refine z_iconst (pc := 19) (v := 5) C dX10_isCovered_19 (by decide) ?_
  refine z_iload_n (pc := 20) C dX10_isCovered_20 rfl ?_
  refine z_imul (pc := 21) C dX10_isCovered_21 ?_
  refine w_gp (fun v => v = (5 : Int32) * a2) rfl (fun v4 q4 => ?_)
  have e4 : v4.toInt = 5 * a2.toInt := by rw [q4]; exact (zmul_kb 5 (by decide) (by decide) b2 (by decide) (by decide))
  have b4x : zB v4 0 35 := zmul_bb e4 (by decide) b2
  refine z_iconst (pc := 22) (v := 1) C dX10_isCovered_22 (by decide) ?_
  refine z_iadd (pc := 23) C dX10_isCovered_23 ?_
  refine w_gp (fun v => v = v4 + (1 : Int32)) rfl (fun v5 q5 => ?_)
  have e5 : v5.toInt = v4.toInt + 1 := by rw [q5]; exact (zadd_eb b4x (zB.of (x := 1) 1 (by decide)) (by decide) (by decide))
  have b5x : zB v5 1 36 := by have q1 := b4x; have q2 := (zB.of (x := 1) 1 (by decide)); constructor <;> omega
  refine z_iald (pc := 24) C rfl (by decide) (zIx b5x (by decide) (by decide)) dX10_isCovered_24 ?_
  have kq24_5 : v5.toNatClampNeg = v5.toInt.toNat := rfl
  refine w_gp (fun v => v = f 27 0 v5.toNatClampNeg) rfl (fun v6 q6 => ?_)
  have b6x : zB v6 0 63 := by rw [q6]; exact (by have hq9 := hI 27 0 v5.toNatClampNeg; rw [zrg27 (r := 1) (by have hq : v5.toNatClampNeg = v5.toInt.toNat := rfl; have hq2 := b5x; omega)] at hq9; exact hq9)
  refine z_istore (pc := 25) C dX10_isCovered_25 (by rw [hn]; decide) rfl ?_
  refine z_aload_n (pc := 27) C dX10_isCovered_27 rfl ?_
  refine z_iload (pc := 28) C dX10_isCovered_28 rfl ?_
  refine z_aload_n (pc := 30) C dX10_isCovered_30 rfl ?_
  refine z_getR (pc := 31) C zf_X10_16 rfl rfl (by decide) dX10_isCovered_31 ?_
  refine z_iload_n (pc := 34) C dX10_isCovered_34 rfl ?_
  refine z_iconst (pc := 35) (v := 1) C dX10_isCovered_35 (by decide) ?_
  refine z_iadd (pc := 36) C dX10_isCovered_36 ?_
  refine w_gp (fun v => v = v1 + (1 : Int32)) rfl (fun v7 q7 => ?_)
  have e7 : v7.toInt = v1.toInt + 1 := by rw [q7]; exact (zadd_eb b1x (zB.of (x := 1) 1 (by decide)) (by decide) (by decide))
  have b7x : zB v7 1 89 := by have q1 := b1x; have q2 := (zB.of (x := 1) 1 (by decide)); constructor <;> omega
  refine z_iald (pc := 37) C rfl (by decide) (zIx b7x (by decide) (by decide)) dX10_isCovered_37 ?_
  have kq37_7 : v7.toNatClampNeg = v7.toInt.toNat := rfl
  refine w_gp (fun v => v = f 28 0 v7.toNatClampNeg) rfl (fun v8 q8 => ?_)
  have b8x : zB v8 0 5 := by rw [q8]; exact (by have hq9 := hI 28 0 v7.toNatClampNeg; rw [zrg28 (r := 1) (by have hq : v7.toNatClampNeg = v7.toInt.toNat := rfl; have hq2 := b7x; omega)] at hq9; exact hq9)
  refine z_callV (pc := 38) C zk_X10_123 (x_X10_yearsFor _ _ v6 b6x v8 b8x hI) rfl rfl (by decide) rfl rfl (Nat.le_of_ble_eq_true rfl) dX10_isCovered_38 (fun r9 g9 q9 => ?_)
  obtain ⟨⟨v9, rfl, b9x⟩, hI9, hF9q, hp9_0⟩ := q9
  have hp9_0 := hp9_0 _ rfl
  obtain rfl := zFr_nil hF9q
  simp only [Option.toList, List.cons_append, List.nil_append]
  refine z_aload_n (pc := 41) C dX10_isCovered_41 rfl ?_
  refine z_getR (pc := 42) C zf_X10_16 rfl rfl (by decide) dX10_isCovered_42 ?_
  refine z_iload_n (pc := 45) C dX10_isCovered_45 rfl ?_
  refine z_iconst (pc := 46) (v := 3) C dX10_isCovered_46 (by decide) ?_
  refine z_iadd (pc := 47) C dX10_isCovered_47 ?_
  refine w_gp (fun v => v = v1 + (3 : Int32)) rfl (fun v10 q10 => ?_)
  have e10 : v10.toInt = v1.toInt + 3 := by rw [q10]; exact (zadd_eb b1x (zB.of (x := 3) 3 (by decide)) (by decide) (by decide))
  have b10x : zB v10 3 91 := by have q1 := b1x; have q2 := (zB.of (x := 3) 3 (by decide)); constructor <;> omega
  refine z_iald (pc := 48) C rfl (by decide) (zIx b10x (by decide) (by decide)) dX10_isCovered_48 ?_
  have kq48_10 : v10.toNatClampNeg = v10.toInt.toNat := rfl
  refine w_gp (fun v => v = f 28 0 v10.toNatClampNeg) rfl (fun v11 q11 => ?_)
  have b11x : zB v11 0 40 := by rw [q11]; exact (by have hq9 := hI 28 0 v10.toNatClampNeg; rw [zrg28 (r := 3) (by have hq : v10.toNatClampNeg = v10.toInt.toNat := rfl; have hq2 := b10x; omega)] at hq9; exact hq9)
  refine z_icmp_lt (pc := 49) 77 C dX10_isCovered_49 (by decide) (fun h49_11 => ?_) (fun h49_11 => ?_)
  · skip
    have rr13 : v9.toInt < v11.toInt := by simp only [z32lt, z32le, z32eq] at h49_11; omega
    have b14x : zB v9 0 39 := by have q1 := b9x; have q2 := b11x; simp only [z32lt, z32le, z32eq, Int32.reduceToInt, Int32.toInt_zero] at h49_11; constructor <;> omega
    have b15x : zB v11 1 40 := by have q1 := b9x; have q2 := b11x; simp only [z32lt, z32le, z32eq, Int32.reduceToInt, Int32.toInt_zero] at h49_11; constructor <;> omega
    refine z_iconst (pc := 77) (v := 0) C dX10_isCovered_77 (by decide) ?_
    exact z_zret (pc := 78) C hr (z01 (zB.wk (a' := 0) (b' := 1) (zB.of (x := 0) 0 (by decide)) (by decide) (by decide))) dX10_isCovered_78 ⟨⟨_, rfl, (zB.wk (a' := 0) (b' := 1) (zB.of (x := 0) 0 (by decide)) (by decide) (by decide))⟩, hI, hF, (by
                                                                                          intro v hv; cases hv
                                                                                          have x12 : (v2).toNatClampNeg = 5 * a2.toInt.toNat + 0 := by omega
                                                                                          have e12 := q3
                                                                                          rw [x12] at e12
                                                                                          have x24 : (v5).toNatClampNeg = 5 * a2.toInt.toNat + 1 := by omega
                                                                                          have e24 := q6
                                                                                          rw [x24] at e24
                                                                                          have x37 : (v7).toNatClampNeg = 8 * a1.toInt.toNat + 1 := by omega
                                                                                          have e37 := q8
                                                                                          rw [x37] at e37
                                                                                          have x48 : (v10).toNatClampNeg = 8 * a1.toInt.toNat + 3 := by omega
                                                                                          have e48 := q11
                                                                                          rw [x48] at e48
                                                                                          have y1 := hp9_0
                                                                                          rw [e24, e37] at y1
                                                                                          exact Or.inr ⟨rfl, fun h => by have h1 := h.1; rw [← y1, ← e48] at h1; omega⟩)⟩
  · skip
    have rr16 : v9.toInt ≥ v11.toInt := by simp only [z32lt, z32le, z32eq] at h49_11; omega
    refine z_aload_n (pc := 52) C dX10_isCovered_52 rfl ?_
    refine z_iload (pc := 53) C dX10_isCovered_53 rfl ?_
    refine z_aload_n (pc := 55) C dX10_isCovered_55 rfl ?_
    refine z_getR (pc := 56) C zf_X10_16 rfl rfl (by decide) dX10_isCovered_56 ?_
    refine z_iload_n (pc := 59) C dX10_isCovered_59 rfl ?_
    refine z_iconst (pc := 60) (v := 2) C dX10_isCovered_60 (by decide) ?_
    refine z_iadd (pc := 61) C dX10_isCovered_61 ?_
    refine w_gp (fun v => v = v1 + (2 : Int32)) rfl (fun v17 q17 => ?_)
    have e17 : v17.toInt = v1.toInt + 2 := by rw [q17]; exact (zadd_eb b1x (zB.of (x := 2) 2 (by decide)) (by decide) (by decide))
    have b17x : zB v17 2 90 := by have q1 := b1x; have q2 := (zB.of (x := 2) 2 (by decide)); constructor <;> omega
    refine z_iald (pc := 62) C rfl (by decide) (zIx b17x (by decide) (by decide)) dX10_isCovered_62 ?_
    have kq62_17 : v17.toNatClampNeg = v17.toInt.toNat := rfl
    refine w_gp (fun v => v = f 28 0 v17.toNatClampNeg) rfl (fun v18 q18 => ?_)
    have b18x : zB v18 0 5 := by rw [q18]; exact (by have hq9 := hI 28 0 v17.toNatClampNeg; rw [zrg28 (r := 2) (by have hq : v17.toNatClampNeg = v17.toInt.toNat := rfl; have hq2 := b17x; omega)] at hq9; exact hq9)
    refine z_callV (pc := 63) C zk_X10_123 (x_X10_yearsFor _ _ v3 b3x v18 b18x hI) rfl rfl (by decide) rfl rfl (Nat.le_of_ble_eq_true rfl) dX10_isCovered_63 (fun r19 g19 q19 => ?_)
    obtain ⟨⟨v19, rfl, b19x⟩, hI19, hF19q, hp19_0⟩ := q19
    have hp19_0 := hp19_0 _ rfl
    obtain rfl := zFr_nil hF19q
    simp only [Option.toList, List.cons_append, List.nil_append]
    refine z_aload_n (pc := 66) C dX10_isCovered_66 rfl ?_
    refine z_getR (pc := 67) C zf_X10_16 rfl rfl (by decide) dX10_isCovered_67 ?_
    refine z_iload_n (pc := 70) C dX10_isCovered_70 rfl ?_
    refine z_iconst (pc := 71) (v := 3) C dX10_isCovered_71 (by decide) ?_
    refine z_iadd (pc := 72) C dX10_isCovered_72 ?_
    refine w_gp (fun v => v = v1 + (3 : Int32)) rfl (fun v20 q20 => ?_)
    have e20 : v20.toInt = v1.toInt + 3 := by rw [q20]; exact (zadd_eb b1x (zB.of (x := 3) 3 (by decide)) (by decide) (by decide))
    have b20x : zB v20 3 91 := by have q1 := b1x; have q2 := (zB.of (x := 3) 3 (by decide)); constructor <;> omega
    refine z_iald (pc := 73) C rfl (by decide) (zIx b20x (by decide) (by decide)) dX10_isCovered_73 ?_
    have kq73_20 : v20.toNatClampNeg = v20.toInt.toNat := rfl
    refine w_gp (fun v => v = f 28 0 v20.toNatClampNeg) rfl (fun v21 q21 => ?_)
    have b21x : zB v21 0 40 := by rw [q21]; exact (by have hq9 := hI 28 0 v20.toNatClampNeg; rw [zrg28 (r := 3) (by have hq : v20.toNatClampNeg = v20.toInt.toNat := rfl; have hq2 := b20x; omega)] at hq9; exact hq9)
    refine z_icmp_ge (pc := 74) 79 C dX10_isCovered_74 (by decide) (fun h74_21 => ?_) (fun h74_21 => ?_)
    · skip
      have rr23 : v19.toInt ≥ v21.toInt := by simp only [z32lt, z32le, z32eq] at h74_21; omega
      refine z_aload_n (pc := 79) C dX10_isCovered_79 rfl ?_
      refine z_getR (pc := 80) C zf_X10_16 rfl rfl (by decide) dX10_isCovered_80 ?_
      refine z_iload_n (pc := 83) C dX10_isCovered_83 rfl ?_
      refine z_iald (pc := 84) C rfl (by decide) (zIx b1x (by decide) (by decide)) dX10_isCovered_84 ?_
      have kq84_23 : v1.toNatClampNeg = v1.toInt.toNat := rfl
      refine w_gp (fun v => v = f 28 0 v1.toNatClampNeg) rfl (fun v24 q24 => ?_)
      have b24x : zB v24 0 2 := by rw [q24]; exact (by have hq9 := hI 28 0 v1.toNatClampNeg; rw [zrg28 (r := 0) (by have hq : v1.toNatClampNeg = v1.toInt.toNat := rfl; have hq2 := b1x; omega)] at hq9; exact hq9)
      refine z_iconst (pc := 85) (v := 1) C dX10_isCovered_85 (by decide) ?_
      refine z_icmp_ne (pc := 86) 121 C dX10_isCovered_86 (by decide) (fun h86_24 => ?_) (fun h86_24 => ?_)
      · skip
        refine z_aload_n (pc := 121) C dX10_isCovered_121 rfl ?_
        refine z_getR (pc := 122) C zf_X10_16 rfl rfl (by decide) dX10_isCovered_122 ?_
        refine z_iload_n (pc := 125) C dX10_isCovered_125 rfl ?_
        refine z_iald (pc := 126) C rfl (by decide) (zIx b1x (by decide) (by decide)) dX10_isCovered_126 ?_
        have kq126_25 : v1.toNatClampNeg = v1.toInt.toNat := rfl
        refine w_gp (fun v => v = f 28 0 v1.toNatClampNeg) rfl (fun v26 q26 => ?_)
        have b26x : zB v26 0 2 := by rw [q26]; exact (by have hq9 := hI 28 0 v1.toNatClampNeg; rw [zrg28 (r := 0) (by have hq : v1.toNatClampNeg = v1.toInt.toNat := rfl; have hq2 := b1x; omega)] at hq9; exact hq9)
        refine z_iconst (pc := 127) (v := 2) C dX10_isCovered_127 (by decide) ?_
        refine z_icmp_ne (pc := 128) 141 C dX10_isCovered_128 (by decide) (fun h128_26 => ?_) (fun h128_26 => ?_)
        · skip
          have b28x : zB v26 0 1 := by have q1 := b26x; have q2 := (zB.of (x := 2) 2 (by decide)); simp only [z32lt, z32le, z32eq, Int32.reduceToInt, Int32.toInt_zero] at h128_26; constructor <;> omega
          refine z_iconst (pc := 141) (v := 1) C dX10_isCovered_141 (by decide) ?_
          refine z_goto (pc := 142) 146 C dX10_isCovered_142 (by decide) ?_
          exact z_zret (pc := 146) C hr (z01 (zB.wk (a' := 0) (b' := 1) (zB.of (x := 1) 1 (by decide)) (by decide) (by decide))) dX10_isCovered_146 ⟨⟨_, rfl, (zB.wk (a' := 0) (b' := 1) (zB.of (x := 1) 1 (by decide)) (by decide) (by decide))⟩, hI, hF, (by
                                                                                          intro v hv; cases hv
                                                                                          have x12 : (v2).toNatClampNeg = 5 * a2.toInt.toNat + 0 := by omega
                                                                                          have e12 := q3
                                                                                          rw [x12] at e12
                                                                                          have x24 : (v5).toNatClampNeg = 5 * a2.toInt.toNat + 1 := by omega
                                                                                          have e24 := q6
                                                                                          rw [x24] at e24
                                                                                          have x37 : (v7).toNatClampNeg = 8 * a1.toInt.toNat + 1 := by omega
                                                                                          have e37 := q8
                                                                                          rw [x37] at e37
                                                                                          have x48 : (v10).toNatClampNeg = 8 * a1.toInt.toNat + 3 := by omega
                                                                                          have e48 := q11
                                                                                          rw [x48] at e48
                                                                                          have y1 := hp9_0
                                                                                          rw [e24, e37] at y1
                                                                                          have x62 : (v17).toNatClampNeg = 8 * a1.toInt.toNat + 2 := by omega
                                                                                          have e62 := q18
                                                                                          rw [x62] at e62
                                                                                          have x73 : (v20).toNatClampNeg = 8 * a1.toInt.toNat + 3 := by omega
                                                                                          have e73 := q21
                                                                                          rw [x73] at e73
                                                                                          have y2 := hp19_0
                                                                                          rw [e12, e62] at y2
                                                                                          have x84 : (v1).toNatClampNeg = 8 * a1.toInt.toNat + 0 := by omega
                                                                                          have e84 := q24
                                                                                          rw [x84] at e84
                                                                                          have hA : (f 28 0 (8 * a1.toInt.toNat + 3)).toInt ≤ (zly (fun k j => f 26 0 (6 * k + j)) (f 27 0 (5 * a2.toInt.toNat + 1)) (f 28 0 (8 * a1.toInt.toNat + 1)).toInt.toNat (f 25 0 0).toInt.toNat).toInt := by rw [← y1, ← e48]; omega
                                                                                          have hB : (f 28 0 (8 * a1.toInt.toNat + 3)).toInt ≤ (zly (fun k j => f 26 0 (6 * k + j)) (f 27 0 (5 * a2.toInt.toNat + 0)) (f 28 0 (8 * a1.toInt.toNat + 2)).toInt.toNat (f 25 0 0).toInt.toNat).toInt := by rw [← y2, ← e73]; omega
                                                                                          have x126 : (v1).toNatClampNeg = 8 * a1.toInt.toNat + 0 := by omega
                                                                                          have e126 := q26
                                                                                          rw [x126] at e126
                                                                                          have hk1 : ¬ f 28 0 (8 * a1.toInt.toNat + 0) = 1 := by rw [← e84]; assumption
                                                                                          have hk2 : ¬ f 28 0 (8 * a1.toInt.toNat + 0) = 2 := by rw [← e126]; assumption
                                                                                          exact Or.inl ⟨rfl, hA, hB, fun h => absurd h hk1, fun h => absurd h hk2⟩)⟩
        · skip
          have b29x : zB v26 2 2 := by have q1 := b26x; have q2 := (zB.of (x := 2) 2 (by decide)); simp only [z32lt, z32le, z32eq, Int32.reduceToInt, Int32.toInt_zero] at h128_26; constructor <;> omega
          refine z_iload (pc := 131) C dX10_isCovered_131 rfl ?_
          refine z_iload (pc := 133) C dX10_isCovered_133 rfl ?_
          refine z_iconst (pc := 135) (v := -1) C dX10_isCovered_135 (by decide) ?_
          refine z_ixor (pc := 136) C dX10_isCovered_136 ?_
          refine w_gp (fun v => v = v6 ^^^ ((-1) : Int32)) rfl (fun v30 q30 => ?_)
          refine z_iand (pc := 137) C dX10_isCovered_137 ?_
          refine w_gp (fun v => v = v3 &&& v30) rfl (fun v31 q31 => ?_)
          have b31x : zB v31 0 63 := by rw [q31]; exact (zand_bl b3x (zB_any v30) (by decide))
          refine z_if_ne (pc := 138) 145 C dX10_isCovered_138 (by decide) (fun h138_31 => ?_) (fun h138_31 => ?_)
          · skip
            have b33x : zB v31 1 63 := by have q1 := b31x; have q2 := (zB.of (x := 0) 0 (by decide)); simp only [z32lt, z32le, z32eq, Int32.reduceToInt, Int32.toInt_zero] at h138_31; constructor <;> omega
            refine z_iconst (pc := 145) (v := 0) C dX10_isCovered_145 (by decide) ?_
            exact z_zret (pc := 146) C hr (z01 (zB.wk (a' := 0) (b' := 1) (zB.of (x := 0) 0 (by decide)) (by decide) (by decide))) dX10_isCovered_146 ⟨⟨_, rfl, (zB.wk (a' := 0) (b' := 1) (zB.of (x := 0) 0 (by decide)) (by decide) (by decide))⟩, hI, hF, (by
                                                                                          intro v hv; cases hv
                                                                                          have x12 : (v2).toNatClampNeg = 5 * a2.toInt.toNat + 0 := by omega
                                                                                          have e12 := q3
                                                                                          rw [x12] at e12
                                                                                          have x24 : (v5).toNatClampNeg = 5 * a2.toInt.toNat + 1 := by omega
                                                                                          have e24 := q6
                                                                                          rw [x24] at e24
                                                                                          have x37 : (v7).toNatClampNeg = 8 * a1.toInt.toNat + 1 := by omega
                                                                                          have e37 := q8
                                                                                          rw [x37] at e37
                                                                                          have x48 : (v10).toNatClampNeg = 8 * a1.toInt.toNat + 3 := by omega
                                                                                          have e48 := q11
                                                                                          rw [x48] at e48
                                                                                          have y1 := hp9_0
                                                                                          rw [e24, e37] at y1
                                                                                          have x62 : (v17).toNatClampNeg = 8 * a1.toInt.toNat + 2 := by omega
                                                                                          have e62 := q18
                                                                                          rw [x62] at e62
                                                                                          have x73 : (v20).toNatClampNeg = 8 * a1.toInt.toNat + 3 := by omega
                                                                                          have e73 := q21
                                                                                          rw [x73] at e73
                                                                                          have y2 := hp19_0
                                                                                          rw [e12, e62] at y2
                                                                                          have x84 : (v1).toNatClampNeg = 8 * a1.toInt.toNat + 0 := by omega
                                                                                          have e84 := q24
                                                                                          rw [x84] at e84
                                                                                          have hA : (f 28 0 (8 * a1.toInt.toNat + 3)).toInt ≤ (zly (fun k j => f 26 0 (6 * k + j)) (f 27 0 (5 * a2.toInt.toNat + 1)) (f 28 0 (8 * a1.toInt.toNat + 1)).toInt.toNat (f 25 0 0).toInt.toNat).toInt := by rw [← y1, ← e48]; omega
                                                                                          have hB : (f 28 0 (8 * a1.toInt.toNat + 3)).toInt ≤ (zly (fun k j => f 26 0 (6 * k + j)) (f 27 0 (5 * a2.toInt.toNat + 0)) (f 28 0 (8 * a1.toInt.toNat + 2)).toInt.toNat (f 25 0 0).toInt.toNat).toInt := by rw [← y2, ← e73]; omega
                                                                                          have x126 : (v1).toNatClampNeg = 8 * a1.toInt.toNat + 0 := by omega
                                                                                          have e126 := q26
                                                                                          rw [x126] at e126
                                                                                          have hk1 : ¬ f 28 0 (8 * a1.toInt.toNat + 0) = 1 := by rw [← e84]; assumption
                                                                                          have hk2 : f 28 0 (8 * a1.toInt.toNat + 0) = 2 := by rw [← e126]; assumption
                                                                                          have e137 : v31 = f 27 0 (5 * a2.toInt.toNat + 0) &&& (f 27 0 (5 * a2.toInt.toNat + 1) ^^^ -1) := by rw [q31, q30, e12, e24]
                                                                                          first
                                                                                            | exact Or.inl ⟨rfl, hA, hB, fun h => absurd h hk1, fun _ => by rw [← e137]; assumption⟩
                                                                                            | exact Or.inr ⟨rfl, fun h => absurd (show v31 = 0 by rw [e137]; exact h.2.2.2 hk2) (by assumption)⟩)⟩
          · skip
            have b34x : zB v31 0 0 := by have q1 := b31x; have q2 := (zB.of (x := 0) 0 (by decide)); simp only [z32lt, z32le, z32eq, Int32.reduceToInt, Int32.toInt_zero] at h138_31; constructor <;> omega
            refine z_iconst (pc := 141) (v := 1) C dX10_isCovered_141 (by decide) ?_
            refine z_goto (pc := 142) 146 C dX10_isCovered_142 (by decide) ?_
            exact z_zret (pc := 146) C hr (z01 (zB.wk (a' := 0) (b' := 1) (zB.of (x := 1) 1 (by decide)) (by decide) (by decide))) dX10_isCovered_146 ⟨⟨_, rfl, (zB.wk (a' := 0) (b' := 1) (zB.of (x := 1) 1 (by decide)) (by decide) (by decide))⟩, hI, hF, (by
                                                                                          intro v hv; cases hv
                                                                                          have x12 : (v2).toNatClampNeg = 5 * a2.toInt.toNat + 0 := by omega
                                                                                          have e12 := q3
                                                                                          rw [x12] at e12
                                                                                          have x24 : (v5).toNatClampNeg = 5 * a2.toInt.toNat + 1 := by omega
                                                                                          have e24 := q6
                                                                                          rw [x24] at e24
                                                                                          have x37 : (v7).toNatClampNeg = 8 * a1.toInt.toNat + 1 := by omega
                                                                                          have e37 := q8
                                                                                          rw [x37] at e37
                                                                                          have x48 : (v10).toNatClampNeg = 8 * a1.toInt.toNat + 3 := by omega
                                                                                          have e48 := q11
                                                                                          rw [x48] at e48
                                                                                          have y1 := hp9_0
                                                                                          rw [e24, e37] at y1
                                                                                          have x62 : (v17).toNatClampNeg = 8 * a1.toInt.toNat + 2 := by omega
                                                                                          have e62 := q18
                                                                                          rw [x62] at e62
                                                                                          have x73 : (v20).toNatClampNeg = 8 * a1.toInt.toNat + 3 := by omega
                                                                                          have e73 := q21
                                                                                          rw [x73] at e73
                                                                                          have y2 := hp19_0
                                                                                          rw [e12, e62] at y2
                                                                                          have x84 : (v1).toNatClampNeg = 8 * a1.toInt.toNat + 0 := by omega
                                                                                          have e84 := q24
                                                                                          rw [x84] at e84
                                                                                          have hA : (f 28 0 (8 * a1.toInt.toNat + 3)).toInt ≤ (zly (fun k j => f 26 0 (6 * k + j)) (f 27 0 (5 * a2.toInt.toNat + 1)) (f 28 0 (8 * a1.toInt.toNat + 1)).toInt.toNat (f 25 0 0).toInt.toNat).toInt := by rw [← y1, ← e48]; omega
                                                                                          have hB : (f 28 0 (8 * a1.toInt.toNat + 3)).toInt ≤ (zly (fun k j => f 26 0 (6 * k + j)) (f 27 0 (5 * a2.toInt.toNat + 0)) (f 28 0 (8 * a1.toInt.toNat + 2)).toInt.toNat (f 25 0 0).toInt.toNat).toInt := by rw [← y2, ← e73]; omega
                                                                                          have x126 : (v1).toNatClampNeg = 8 * a1.toInt.toNat + 0 := by omega
                                                                                          have e126 := q26
                                                                                          rw [x126] at e126
                                                                                          have hk1 : ¬ f 28 0 (8 * a1.toInt.toNat + 0) = 1 := by rw [← e84]; assumption
                                                                                          have hk2 : f 28 0 (8 * a1.toInt.toNat + 0) = 2 := by rw [← e126]; assumption
                                                                                          have e137 : v31 = f 27 0 (5 * a2.toInt.toNat + 0) &&& (f 27 0 (5 * a2.toInt.toNat + 1) ^^^ -1) := by rw [q31, q30, e12, e24]
                                                                                          first
                                                                                            | exact Or.inl ⟨rfl, hA, hB, fun h => absurd h hk1, fun _ => by rw [← e137]; assumption⟩
                                                                                            | exact Or.inr ⟨rfl, fun h => absurd (show v31 = 0 by rw [e137]; exact h.2.2.2 hk2) (by assumption)⟩)⟩
      · skip
        have b35x : zB v24 1 1 := by have q1 := b24x; have q2 := (zB.of (x := 1) 1 (by decide)); simp only [z32lt, z32le, z32eq, Int32.reduceToInt, Int32.toInt_zero] at h86_24; constructor <;> omega
        refine z_aload_n (pc := 89) C dX10_isCovered_89 rfl ?_
        refine z_iload (pc := 90) C dX10_isCovered_90 rfl ?_
        refine z_aload_n (pc := 92) C dX10_isCovered_92 rfl ?_
        refine z_getR (pc := 93) C zf_X10_16 rfl rfl (by decide) dX10_isCovered_93 ?_
        refine z_iload_n (pc := 96) C dX10_isCovered_96 rfl ?_
        refine z_iconst (pc := 97) (v := 2) C dX10_isCovered_97 (by decide) ?_
        refine z_iadd (pc := 98) C dX10_isCovered_98 ?_
        refine w_gp (fun v => v = v1 + (2 : Int32)) rfl (fun v36 q36 => ?_)
        have e36 : v36.toInt = v1.toInt + 2 := by rw [q36]; exact (zadd_eb b1x (zB.of (x := 2) 2 (by decide)) (by decide) (by decide))
        have b36x : zB v36 2 90 := by have q1 := b1x; have q2 := (zB.of (x := 2) 2 (by decide)); constructor <;> omega
        refine z_iald (pc := 99) C rfl (by decide) (zIx b36x (by decide) (by decide)) dX10_isCovered_99 ?_
        have kq99_36 : v36.toNatClampNeg = v36.toInt.toNat := rfl
        refine w_gp (fun v => v = f 28 0 v36.toNatClampNeg) rfl (fun v37 q37 => ?_)
        have b37x : zB v37 0 5 := by rw [q37]; exact (by have hq9 := hI 28 0 v36.toNatClampNeg; rw [zrg28 (r := 2) (by have hq : v36.toNatClampNeg = v36.toInt.toNat := rfl; have hq2 := b36x; omega)] at hq9; exact hq9)
        refine z_callV (pc := 100) C zk_X10_116 (x_X10_crimesOf _ _ v3 b3x v37 b37x hI) rfl rfl (by decide) rfl rfl (Nat.le_of_ble_eq_true rfl) dX10_isCovered_100 (fun r38 g38 q38 => ?_)
        obtain ⟨⟨v38, rfl, b38x⟩, hI38, hF38q, hp38_0⟩ := q38
        have hp38_0 := hp38_0 _ rfl
        obtain rfl := zFr_nil hF38q
        simp only [Option.toList, List.cons_append, List.nil_append]
        refine z_aload_n (pc := 103) C dX10_isCovered_103 rfl ?_
        refine z_getR (pc := 104) C zf_X10_16 rfl rfl (by decide) dX10_isCovered_104 ?_
        refine z_iload_n (pc := 107) C dX10_isCovered_107 rfl ?_
        refine z_iconst (pc := 108) (v := 4) C dX10_isCovered_108 (by decide) ?_
        refine z_iadd (pc := 109) C dX10_isCovered_109 ?_
        refine w_gp (fun v => v = v1 + (4 : Int32)) rfl (fun v39 q39 => ?_)
        have e39 : v39.toInt = v1.toInt + 4 := by rw [q39]; exact (zadd_eb b1x (zB.of (x := 4) 4 (by decide)) (by decide) (by decide))
        have b39x : zB v39 4 92 := by have q1 := b1x; have q2 := (zB.of (x := 4) 4 (by decide)); constructor <;> omega
        refine z_iald (pc := 110) C rfl (by decide) (zIx b39x (by decide) (by decide)) dX10_isCovered_110 ?_
        have kq110_39 : v39.toNatClampNeg = v39.toInt.toNat := rfl
        refine w_gp (fun v => v = f 28 0 v39.toNatClampNeg) rfl (fun v40 q40 => ?_)
        have b40x : zB v40 (-2147483648) 2147483647 := by rw [q40]; exact (by have hq9 := hI 28 0 v39.toNatClampNeg; rw [zrg28 (r := 4) (by have hq : v39.toNatClampNeg = v39.toInt.toNat := rfl; have hq2 := b39x; omega)] at hq9; exact hq9)
        refine z_iand (pc := 111) C dX10_isCovered_111 ?_
        refine w_gp (fun v => v = v38 &&& v40) rfl (fun v41 q41 => ?_)
        have b41x : zB v41 0 16777215 := by rw [q41]; exact (zand_bl b38x b40x (by decide))
        refine z_if_eq (pc := 112) 119 C dX10_isCovered_112 (by decide) (fun h112_41 => ?_) (fun h112_41 => ?_)
        · skip
          have b43x : zB v41 0 0 := by have q1 := b41x; have q2 := (zB.of (x := 0) 0 (by decide)); simp only [z32lt, z32le, z32eq, Int32.reduceToInt, Int32.toInt_zero] at h112_41; constructor <;> omega
          refine z_iconst (pc := 119) (v := 0) C dX10_isCovered_119 (by decide) ?_
          exact z_zret (pc := 120) C hr (z01 (zB.wk (a' := 0) (b' := 1) (zB.of (x := 0) 0 (by decide)) (by decide) (by decide))) dX10_isCovered_120 ⟨⟨_, rfl, (zB.wk (a' := 0) (b' := 1) (zB.of (x := 0) 0 (by decide)) (by decide) (by decide))⟩, hI, hF, (by
                                                                                          intro v hv; cases hv
                                                                                          have x12 : (v2).toNatClampNeg = 5 * a2.toInt.toNat + 0 := by omega
                                                                                          have e12 := q3
                                                                                          rw [x12] at e12
                                                                                          have x24 : (v5).toNatClampNeg = 5 * a2.toInt.toNat + 1 := by omega
                                                                                          have e24 := q6
                                                                                          rw [x24] at e24
                                                                                          have x37 : (v7).toNatClampNeg = 8 * a1.toInt.toNat + 1 := by omega
                                                                                          have e37 := q8
                                                                                          rw [x37] at e37
                                                                                          have x48 : (v10).toNatClampNeg = 8 * a1.toInt.toNat + 3 := by omega
                                                                                          have e48 := q11
                                                                                          rw [x48] at e48
                                                                                          have y1 := hp9_0
                                                                                          rw [e24, e37] at y1
                                                                                          have x62 : (v17).toNatClampNeg = 8 * a1.toInt.toNat + 2 := by omega
                                                                                          have e62 := q18
                                                                                          rw [x62] at e62
                                                                                          have x73 : (v20).toNatClampNeg = 8 * a1.toInt.toNat + 3 := by omega
                                                                                          have e73 := q21
                                                                                          rw [x73] at e73
                                                                                          have y2 := hp19_0
                                                                                          rw [e12, e62] at y2
                                                                                          have x84 : (v1).toNatClampNeg = 8 * a1.toInt.toNat + 0 := by omega
                                                                                          have e84 := q24
                                                                                          rw [x84] at e84
                                                                                          have hA : (f 28 0 (8 * a1.toInt.toNat + 3)).toInt ≤ (zly (fun k j => f 26 0 (6 * k + j)) (f 27 0 (5 * a2.toInt.toNat + 1)) (f 28 0 (8 * a1.toInt.toNat + 1)).toInt.toNat (f 25 0 0).toInt.toNat).toInt := by rw [← y1, ← e48]; omega
                                                                                          have hB : (f 28 0 (8 * a1.toInt.toNat + 3)).toInt ≤ (zly (fun k j => f 26 0 (6 * k + j)) (f 27 0 (5 * a2.toInt.toNat + 0)) (f 28 0 (8 * a1.toInt.toNat + 2)).toInt.toNat (f 25 0 0).toInt.toNat).toInt := by rw [← y2, ← e73]; omega
                                                                                          have x99 : (v36).toNatClampNeg = 8 * a1.toInt.toNat + 2 := by omega
                                                                                          have e99 := q37
                                                                                          rw [x99] at e99
                                                                                          have x110 : (v39).toNatClampNeg = 8 * a1.toInt.toNat + 4 := by omega
                                                                                          have e110 := q40
                                                                                          rw [x110] at e110
                                                                                          have hk : f 28 0 (8 * a1.toInt.toNat + 0) = 1 := by rw [← e84]; assumption
                                                                                          have e111 : v41 = zcw (fun k j => f 26 0 (6 * k + j)) (f 27 0 (5 * a2.toInt.toNat + 0)) (f 28 0 (8 * a1.toInt.toNat + 2)) (f 25 0 0).toInt.toNat &&& f 28 0 (8 * a1.toInt.toNat + 4) := by
                                                                                            have h := hp38_0
                                                                                            rw [e12, e99] at h
                                                                                            rw [q41, h, e110]
                                                                                          first
                                                                                            | exact Or.inl ⟨rfl, hA, hB, fun _ => by rw [← e111]; assumption, fun h => absurd (hk.symm.trans h) (by decide)⟩
                                                                                            | exact Or.inr ⟨rfl, fun h => h.2.2.1 hk (by rw [← e111]; assumption)⟩)⟩
        · skip
          have b44x : zB v41 1 16777215 := by have q1 := b41x; have q2 := (zB.of (x := 0) 0 (by decide)); simp only [z32lt, z32le, z32eq, Int32.reduceToInt, Int32.toInt_zero] at h112_41; constructor <;> omega
          refine z_iconst (pc := 115) (v := 1) C dX10_isCovered_115 (by decide) ?_
          refine z_goto (pc := 116) 120 C dX10_isCovered_116 (by decide) ?_
          exact z_zret (pc := 120) C hr (z01 (zB.wk (a' := 0) (b' := 1) (zB.of (x := 1) 1 (by decide)) (by decide) (by decide))) dX10_isCovered_120 ⟨⟨_, rfl, (zB.wk (a' := 0) (b' := 1) (zB.of (x := 1) 1 (by decide)) (by decide) (by decide))⟩, hI, hF, (by
                                                                                          intro v hv; cases hv
                                                                                          have x12 : (v2).toNatClampNeg = 5 * a2.toInt.toNat + 0 := by omega
                                                                                          have e12 := q3
                                                                                          rw [x12] at e12
                                                                                          have x24 : (v5).toNatClampNeg = 5 * a2.toInt.toNat + 1 := by omega
                                                                                          have e24 := q6
                                                                                          rw [x24] at e24
                                                                                          have x37 : (v7).toNatClampNeg = 8 * a1.toInt.toNat + 1 := by omega
                                                                                          have e37 := q8
                                                                                          rw [x37] at e37
                                                                                          have x48 : (v10).toNatClampNeg = 8 * a1.toInt.toNat + 3 := by omega
                                                                                          have e48 := q11
                                                                                          rw [x48] at e48
                                                                                          have y1 := hp9_0
                                                                                          rw [e24, e37] at y1
                                                                                          have x62 : (v17).toNatClampNeg = 8 * a1.toInt.toNat + 2 := by omega
                                                                                          have e62 := q18
                                                                                          rw [x62] at e62
                                                                                          have x73 : (v20).toNatClampNeg = 8 * a1.toInt.toNat + 3 := by omega
                                                                                          have e73 := q21
                                                                                          rw [x73] at e73
                                                                                          have y2 := hp19_0
                                                                                          rw [e12, e62] at y2
                                                                                          have x84 : (v1).toNatClampNeg = 8 * a1.toInt.toNat + 0 := by omega
                                                                                          have e84 := q24
                                                                                          rw [x84] at e84
                                                                                          have hA : (f 28 0 (8 * a1.toInt.toNat + 3)).toInt ≤ (zly (fun k j => f 26 0 (6 * k + j)) (f 27 0 (5 * a2.toInt.toNat + 1)) (f 28 0 (8 * a1.toInt.toNat + 1)).toInt.toNat (f 25 0 0).toInt.toNat).toInt := by rw [← y1, ← e48]; omega
                                                                                          have hB : (f 28 0 (8 * a1.toInt.toNat + 3)).toInt ≤ (zly (fun k j => f 26 0 (6 * k + j)) (f 27 0 (5 * a2.toInt.toNat + 0)) (f 28 0 (8 * a1.toInt.toNat + 2)).toInt.toNat (f 25 0 0).toInt.toNat).toInt := by rw [← y2, ← e73]; omega
                                                                                          have x99 : (v36).toNatClampNeg = 8 * a1.toInt.toNat + 2 := by omega
                                                                                          have e99 := q37
                                                                                          rw [x99] at e99
                                                                                          have x110 : (v39).toNatClampNeg = 8 * a1.toInt.toNat + 4 := by omega
                                                                                          have e110 := q40
                                                                                          rw [x110] at e110
                                                                                          have hk : f 28 0 (8 * a1.toInt.toNat + 0) = 1 := by rw [← e84]; assumption
                                                                                          have e111 : v41 = zcw (fun k j => f 26 0 (6 * k + j)) (f 27 0 (5 * a2.toInt.toNat + 0)) (f 28 0 (8 * a1.toInt.toNat + 2)) (f 25 0 0).toInt.toNat &&& f 28 0 (8 * a1.toInt.toNat + 4) := by
                                                                                            have h := hp38_0
                                                                                            rw [e12, e99] at h
                                                                                            rw [q41, h, e110]
                                                                                          first
                                                                                            | exact Or.inl ⟨rfl, hA, hB, fun _ => by rw [← e111]; assumption, fun h => absurd (hk.symm.trans h) (by decide)⟩
                                                                                            | exact Or.inr ⟨rfl, fun h => h.2.2.1 hk (by rw [← e111]; assumption)⟩)⟩
    · skip
      have rr45 : v19.toInt < v21.toInt := by simp only [z32lt, z32le, z32eq] at h74_21; omega
      have b46x : zB v19 0 39 := by have q1 := b19x; have q2 := b21x; simp only [z32lt, z32le, z32eq, Int32.reduceToInt, Int32.toInt_zero] at h74_21; constructor <;> omega
      have b47x : zB v21 1 40 := by have q1 := b19x; have q2 := b21x; simp only [z32lt, z32le, z32eq, Int32.reduceToInt, Int32.toInt_zero] at h74_21; constructor <;> omega
      refine z_iconst (pc := 77) (v := 0) C dX10_isCovered_77 (by decide) ?_
      exact z_zret (pc := 78) C hr (z01 (zB.wk (a' := 0) (b' := 1) (zB.of (x := 0) 0 (by decide)) (by decide) (by decide))) dX10_isCovered_78 ⟨⟨_, rfl, (zB.wk (a' := 0) (b' := 1) (zB.of (x := 0) 0 (by decide)) (by decide) (by decide))⟩, hI, hF, (by
                                                                                          intro v hv; cases hv
                                                                                          have x12 : (v2).toNatClampNeg = 5 * a2.toInt.toNat + 0 := by omega
                                                                                          have e12 := q3
                                                                                          rw [x12] at e12
                                                                                          have x24 : (v5).toNatClampNeg = 5 * a2.toInt.toNat + 1 := by omega
                                                                                          have e24 := q6
                                                                                          rw [x24] at e24
                                                                                          have x37 : (v7).toNatClampNeg = 8 * a1.toInt.toNat + 1 := by omega
                                                                                          have e37 := q8
                                                                                          rw [x37] at e37
                                                                                          have x48 : (v10).toNatClampNeg = 8 * a1.toInt.toNat + 3 := by omega
                                                                                          have e48 := q11
                                                                                          rw [x48] at e48
                                                                                          have y1 := hp9_0
                                                                                          rw [e24, e37] at y1
                                                                                          have x62 : (v17).toNatClampNeg = 8 * a1.toInt.toNat + 2 := by omega
                                                                                          have e62 := q18
                                                                                          rw [x62] at e62
                                                                                          have x73 : (v20).toNatClampNeg = 8 * a1.toInt.toNat + 3 := by omega
                                                                                          have e73 := q21
                                                                                          rw [x73] at e73
                                                                                          have y2 := hp19_0
                                                                                          rw [e12, e62] at y2
                                                                                          exact Or.inr ⟨rfl, fun h => by have h1 := h.2.1; rw [← y2, ← e73] at h1; omega⟩)⟩

set_option maxRecDepth 100000 in
set_option maxHeartbeats 4000000 in
theorem x_X10_covers (d : Nat) (f : zM) (a1 : Int32) (b1 : zB a1 (-2147483648) 2147483647) (hI : zInv f) : ZM (d + 4) yX10_covers cX10_covers 4 (some .int) [zr 25 0, zi a1] f (fun r g => (∃ v, r = some (zi v) ∧ zB v (-1) 255) ∧ zInv g ∧ zFr [] f g ∧ (∀ v : Int32, r = some (zi v) → (¬ (0 ≤ a1.toInt ∧ a1.toInt < (f 25 0 4).toInt) ∧ v = -1) ∨ ((0 ≤ a1.toInt ∧ a1.toInt < (f 25 0 4).toInt) ∧ v = zbf (fun i => zcr f a1.toInt.toNat i) (f 25 0 2).toInt.toNat))) := by
  refine ZM.intro (by decide +kernel) (Nat.le_of_ble_eq_true rfl) ?_
  intro X C hr hn
  have hF : zFr [] f f := zFr.rf _ _
  have ct25_0_2 : zB (f 25 0 2) 0 8 := hI 25 0 2
  have J : ∀ t : Nat, (zB a1 0 11 → ∀ a14_2 : Int32, zB a14_2 0 255 → ∀ a14_3 : Int32, zB a14_3 0 8 → ∀ g : zM, zInv g → zFr [] f g → zB (g 25 0 2) 0 8 → (g = f) → (a14_2 = zbf (fun i => zcr f a1.toInt.toNat i) (a14_3.toInt.toNat)) → (a14_3.toInt ≤ (f 25 0 2).toInt) → ((g 25 0 2).toInt = (f 25 0 2).toInt) → ((0 ≤ a1.toInt ∧ a1.toInt < (f 25 0 4).toInt)) → (0 + 3 * (8 - a14_3.toInt) : Int) < t → Z X 14 [some (zr 25 0), some (zi a1), some (zi a14_2), some (zi a14_3)] [] g) := by
    intro t
    induction t with
    | zero =>
      intros; exfalso; omega
    | succ t ih =>
      have ih0 := ih
      intro b14_1 a14_2 b14_2 a14_3 b14_3 g14_ hI14_ hF14_ f14_25_0_2 hR14_0 hR14_1 hR14_2 hR14_3 hR14_4 hM14_
      refine z_iload_n (pc := 14) C dX10_covers_14 rfl ?_
      refine z_aload_n (pc := 15) C dX10_covers_15 rfl ?_
      refine z_getI (pc := 16) C zf_X10_73 rfl rfl (by decide) dX10_covers_16 ?_
      refine w_gp (fun v => v = g14_ 25 0 2) rfl (fun v1 q1 => ?_)
      have e1 : v1.toInt = (g14_ 25 0 2).toInt := by rw [q1]
      have b1x : zB v1 0 8 := by first | exact zB.eqv e1 f14_25_0_2 | (have q9 := f14_25_0_2; constructor <;> omega)
      refine z_icmp_ge (pc := 19) 47 C dX10_covers_19 (by decide) (fun h19_1 => ?_) (fun h19_1 => ?_)
      · skip
        have rr3 : a14_3.toInt ≥ v1.toInt := by simp only [z32lt, z32le, z32eq] at h19_1; omega
        refine z_iload_n (pc := 47) C dX10_covers_47 rfl ?_
        exact z_iret (pc := 48) C hr dX10_covers_48 ⟨⟨_, rfl, (zB.wk (a' := (-1)) (b' := 255) b14_2 (by decide) (by decide))⟩, hI14_, hF14_, (by
                                                                                          intro v hv; cases hv
                                                                                          have hn : (f 25 0 2).toInt.toNat = a14_3.toInt.toNat := by omega
                                                                                          rw [hn]; exact Or.inr ⟨hR14_4, hR14_1⟩)⟩
      · skip
        have rr4 : a14_3.toInt < v1.toInt := by simp only [z32lt, z32le, z32eq] at h19_1; omega
        have b5x : zB a14_3 0 7 := by have q1 := b14_3; have q2 := b1x; simp only [z32lt, z32le, z32eq, Int32.reduceToInt, Int32.toInt_zero] at h19_1; constructor <;> omega
        have b6x : zB v1 1 8 := by have q1 := b14_3; have q2 := b1x; simp only [z32lt, z32le, z32eq, Int32.reduceToInt, Int32.toInt_zero] at h19_1; constructor <;> omega
        have c7x : zB (g14_ 25 0 2) 1 8 := by first | assumption | (constructor <;> omega)
        refine z_iload_n (pc := 22) C dX10_covers_22 rfl ?_
        refine z_aload_n (pc := 23) C dX10_covers_23 rfl ?_
        refine z_iload_n (pc := 24) C dX10_covers_24 rfl ?_
        refine z_iload_n (pc := 25) C dX10_covers_25 rfl ?_
        refine z_callV (pc := 26) C zk_X10_138 (x_X10_isCovered _ _ a1 b14_1 a14_3 b5x hI14_) rfl rfl (by decide) rfl rfl (Nat.le_of_ble_eq_true rfl) dX10_covers_26 (fun r8 g8 q8 => ?_)
        obtain ⟨⟨v8, rfl, b8x⟩, hI8, hF8q, hp8_0⟩ := q8
        have hp8_0 := hp8_0 _ rfl
        obtain rfl := zFr_nil hF8q
        simp only [Option.toList, List.cons_append, List.nil_append]
        refine z_if_eq (pc := 29) 38 C dX10_covers_29 (by decide) (fun h29_8 => ?_) (fun h29_8 => ?_)
        · skip
          have b10x : zB v8 0 0 := by have q1 := b8x; have q2 := (zB.of (x := 0) 0 (by decide)); simp only [z32lt, z32le, z32eq, Int32.reduceToInt, Int32.toInt_zero] at h29_8; constructor <;> omega
          refine z_iconst (pc := 38) (v := 0) C dX10_covers_38 (by decide) ?_
          refine z_ior (pc := 39) C dX10_covers_39 ?_
          refine w_gp (fun v => v = a14_2 ||| (0 : Int32)) rfl (fun v11 q11 => ?_)
          have b11x : zB v11 0 255 := by rw [q11]; exact (zor_b 8 b14_2 (zB.of (x := 0) 0 (by decide)) (by decide) (by decide) (by decide) (by decide) (by decide))
          refine z_istore_n (pc := 40) C dX10_covers_40 (by rw [hn]; decide) rfl ?_
          refine z_iinc (pc := 41) (v := 1) C dX10_covers_41 rfl (by decide) (by rw [hn]; decide) rfl ?_
          obtain ⟨v12, hv12, e12⟩ : ∃ v : Int32, v = a14_3 + 1 ∧ v.toInt = a14_3.toInt + 1 := ⟨_, rfl, zadd_eb b5x (zB.of (x := 1) 1 (by decide)) (by decide) (by decide)⟩
          rw [← hv12]
          have b12x : zB v12 1 8 := by have q9 := b5x; constructor <;> omega
          refine z_goto (pc := 44) 14 C dX10_covers_44 (by decide) ?_
          exact ih0 b14_1 v11 b11x v12 (zB.wk (a' := 0) (b' := 8) b12x (by decide) (by decide)) g14_ hI14_ hF14_ (zB.wk c7x (by decide) (by decide)) (by exact hR14_0) (by
                                                                                          have hn : (v12).toInt.toNat = a14_3.toInt.toNat + 1 := by omega
                                                                                          have hi : a14_3 = nI a14_3.toInt.toNat := (nI_ofI (by omega)).1
                                                                                          have ho := q11
                                                                                          rw [hn, zbf, ← hR14_1, ho]
                                                                                          congr 1
                                                                                          have ha := hp8_0
                                                                                          rw [hR14_0] at ha
                                                                                          rcases ha with ⟨h1, h2⟩ | ⟨h1, h2⟩
                                                                                          · first
                                                                                              | (rw [if_pos h2, ← hi]; first | rfl | assumption)
                                                                                              | (exfalso; exact absurd h1 (by rw [z32eq]; have c1 : (1 : Int32).toInt = 1 := by decide
                                                                                                                              omega))
                                                                                          · first
                                                                                              | (rw [if_neg h2]; done)
                                                                                              | (exfalso; exact absurd h1 (by rw [z32eq]; have c0 : (0 : Int32).toInt = 0 := by decide
                                                                                                                              omega))) (by omega) (by omega) (by exact hR14_4) (by omega)
        · skip
          have b13x : zB v8 1 1 := by have q1 := b8x; have q2 := (zB.of (x := 0) 0 (by decide)); simp only [z32lt, z32le, z32eq, Int32.reduceToInt, Int32.toInt_zero] at h29_8; constructor <;> omega
          refine z_iconst (pc := 32) (v := 1) C dX10_covers_32 (by decide) ?_
          refine z_iload_n (pc := 33) C dX10_covers_33 rfl ?_
          refine z_ishl (pc := 34) C dX10_covers_34 ?_
          refine w_gp (fun v => v = (1 : Int32) <<< (a14_3 &&& 31)) rfl (fun v14 q14 => ?_)
          have b14x : zB v14 0 128 := by rw [q14]; exact (zshl_b b5x 7 (by decide) (by decide))
          refine z_goto (pc := 35) 39 C dX10_covers_35 (by decide) ?_
          refine z_ior (pc := 39) C dX10_covers_39 ?_
          refine w_gp (fun v => v = a14_2 ||| v14) rfl (fun v15 q15 => ?_)
          have b15x : zB v15 0 255 := by rw [q15]; exact (zor_b 8 b14_2 b14x (by decide) (by decide) (by decide) (by decide) (by decide))
          refine z_istore_n (pc := 40) C dX10_covers_40 (by rw [hn]; decide) rfl ?_
          refine z_iinc (pc := 41) (v := 1) C dX10_covers_41 rfl (by decide) (by rw [hn]; decide) rfl ?_
          obtain ⟨v16, hv16, e16⟩ : ∃ v : Int32, v = a14_3 + 1 ∧ v.toInt = a14_3.toInt + 1 := ⟨_, rfl, zadd_eb b5x (zB.of (x := 1) 1 (by decide)) (by decide) (by decide)⟩
          rw [← hv16]
          have b16x : zB v16 1 8 := by have q9 := b5x; constructor <;> omega
          refine z_goto (pc := 44) 14 C dX10_covers_44 (by decide) ?_
          exact ih0 b14_1 v15 b15x v16 (zB.wk (a' := 0) (b' := 8) b16x (by decide) (by decide)) g14_ hI14_ hF14_ (zB.wk c7x (by decide) (by decide)) (by exact hR14_0) (by
                                                                                          have hn : (v16).toInt.toNat = a14_3.toInt.toNat + 1 := by omega
                                                                                          have hi : a14_3 = nI a14_3.toInt.toNat := (nI_ofI (by omega)).1
                                                                                          have ho := q15
                                                                                          rw [hn, zbf, ← hR14_1, ho]
                                                                                          congr 1
                                                                                          have ha := hp8_0
                                                                                          rw [hR14_0] at ha
                                                                                          rcases ha with ⟨h1, h2⟩ | ⟨h1, h2⟩
                                                                                          · first
                                                                                              | (rw [if_pos h2, ← hi]; first | rfl | assumption)
                                                                                              | (exfalso; exact absurd h1 (by rw [z32eq]; have c1 : (1 : Int32).toInt = 1 := by decide
                                                                                                                              omega))
                                                                                          · first
                                                                                              | (rw [if_neg h2]; done)
                                                                                              | (exfalso; exact absurd h1 (by rw [z32eq]; have c0 : (0 : Int32).toInt = 0 := by decide
                                                                                                                              omega))) (by omega) (by omega) (by exact hR14_4) (by omega)
  have J0 := J 39
  show Z X 0 [some (zr 25 0), some (zi a1), none, none] [] f
  refine z_aload_n (pc := 0) C dX10_covers_0 rfl ?_
  refine z_iload_n (pc := 1) C dX10_covers_1 rfl ?_
  refine z_callVb (pc := 2) C zk_X10_109 (m_X10_isPaper _ _ _ hI) rfl rfl (by decide) rfl rfl (Nat.le_of_ble_eq_true rfl) dX10_covers_2 (fun h2_16 => ?_) (fun h2_16 => ?_)
  · skip
    have b18x : zB a1 0 11 := (zltc h2_16 (hI 25 0 4).2)
    refine z_if_ne (pc := 5) 10 C dX10_covers_5 (by decide) (fun _ => ?_) (fun h => absurd h (by decide))
    refine z_iconst (pc := 10) (v := 0) C dX10_covers_10 (by decide) ?_
    refine z_istore_n (pc := 11) C dX10_covers_11 (by rw [hn]; decide) rfl ?_
    refine z_iconst (pc := 12) (v := 0) C dX10_covers_12 (by decide) ?_
    refine z_istore_n (pc := 13) C dX10_covers_13 (by rw [hn]; decide) rfl ?_
    exact J0 b18x 0 (zB.wk (a' := 0) (b' := 255) (zB.of (x := 0) 0 (by decide)) (by decide) (by decide)) 0 (zB.wk (a' := 0) (b' := 8) (zB.of (x := 0) 0 (by decide)) (by decide) (by decide)) f hI hF ct25_0_2 (by rfl) (by rfl) (by have qc0 : (0 : Int32).toInt = 0 := (by decide); omega) (by have qc0 : (0 : Int32).toInt = 0 := (by decide); omega) (by omega) (by have qc0 : (0 : Int32).toInt = 0 := (by decide); omega)
  · skip
    refine z_if_ne (pc := 5) 10 C dX10_covers_5 (by decide) (fun h => absurd (by decide) h) (fun _ => ?_)
    refine z_iconst (pc := 8) (v := -1) C dX10_covers_8 (by decide) ?_
    exact z_iret (pc := 9) C hr dX10_covers_9 ⟨⟨_, rfl, (zB.wk (a' := (-1)) (b' := 255) (zB.of (x := (-1)) (-1) (by decide)) (by decide) (by decide))⟩, hI, hF, (by intro v hv; cases hv; exact Or.inl ⟨by omega, rfl⟩)⟩

theorem qd_covers {f g g2 : zM} {v v2 : Int32} {a1 : Int32} (hI : zInv f) (hg : zInv g) (Rc : zRc f) (Rd : zRd f) (Rq : zRq f) (Rp : zRp f) (Rl : zRl f) (Rn : zRn f) (hF : zFr [] f g) (hG : zFr [] g g2) (hP : (¬ (0 ≤ a1.toInt ∧ a1.toInt < (f 1 0 7).toInt) ∧ v = -1) ∨ ((0 ≤ a1.toInt ∧ a1.toInt < (f 1 0 7).toInt) ∧ v = zbf (fun i => zcx f a1.toInt.toNat i) (f 1 0 6).toInt.toNat)) (hQ : (¬ (0 ≤ a1.toInt ∧ a1.toInt < (g 25 0 4).toInt) ∧ v2 = -1) ∨ ((0 ≤ a1.toInt ∧ a1.toInt < (g 25 0 4).toInt) ∧ v2 = zbf (fun i => zcr g a1.toInt.toNat i) (g 25 0 2).toInt.toNat)) : v2 = v := by
  obtain rfl := zFr_nil hF
  obtain rfl := zFr_nil hG
  rw [← Rp.1, ← Rc.1] at hQ
  rcases hP with ⟨p1, rfl⟩ | ⟨p1, rfl⟩ <;> rcases hQ with ⟨q1, rfl⟩ | ⟨q1, rfl⟩
  · rfl
  · exact absurd q1 p1
  · exact absurd p1 q1
  · exact (zbf_congr _ (fun k hk => zcx_r hI Rd Rq Rp Rl Rn (by omega) (by omega))).symm
