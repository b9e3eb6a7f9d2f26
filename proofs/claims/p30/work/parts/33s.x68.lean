/-! ===== the relation of CRIMES and papers ===== -/
def zRq (f : zM) : Prop := f 1 0 5 = f 25 0 0 ∧ f 1 1 5 = f 39 0 0 ∧ (∀ i j : Nat, (i : Int) < (f 1 0 5).toInt → j < 6 → f 7 i j = f 26 0 (6 * i + j)) ∧ (∀ i j : Nat, (i : Int) < (f 1 1 5).toInt → j < 6 → f 7 (24 + i) j = f 39 0 (4 + (6 * i + j)))
def zRp (f : zM) : Prop := f 1 0 7 = f 25 0 4 ∧ f 1 1 7 = f 39 0 2 ∧ (∀ i j : Nat, (i : Int) < (f 1 0 7).toInt → j < 8 → f 11 i j = f 28 0 (8 * i + j)) ∧ (∀ i j : Nat, (i : Int) < (f 1 1 7).toInt → j < 8 → f 11 (12 + i) j = f 39 0 (188 + (8 * i + j)))
theorem zRq_k {f g : zM} (hI : zInv f) (h : zRq f) (a0 : g 1 0 5 = f 1 0 5) (a1 : g 1 1 5 = f 1 1 5) (b : g 25 0 0 = f 25 0 0) (c : ∀ x j, x < 48 → j < 6 → g 7 x j = f 7 x j) (d : ∀ j, g 26 0 j = f 26 0 j) (e : ∀ j, g 39 0 j = f 39 0 j) : zRq g := by
  have b0 : (f 1 0 5).toInt ≤ 24 := (hI 1 0 5).2
  have b1 : (f 1 1 5).toInt ≤ 24 := (hI 1 1 5).2
  refine ⟨by rw [a0, b]; exact h.1, by rw [a1, e]; exact h.2.1, fun i j hi hj => ?_, fun i j hi hj => ?_⟩
  · rw [a0] at hi; rw [c _ _ (by omega) hj, d]; exact h.2.2.1 i j hi hj
  · rw [a1] at hi; rw [c _ _ (by omega) hj, e]; exact h.2.2.2 i j hi hj
theorem zRp_k {f g : zM} (hI : zInv f) (h : zRp f) (a0 : g 1 0 7 = f 1 0 7) (a1 : g 1 1 7 = f 1 1 7) (b : g 25 0 4 = f 25 0 4) (c : ∀ x j, x < 24 → j < 8 → g 11 x j = f 11 x j) (d : ∀ j, g 28 0 j = f 28 0 j) (e : ∀ j, g 39 0 j = f 39 0 j) : zRp g := by
  have b0 : (f 1 0 7).toInt ≤ 12 := (hI 1 0 7).2
  have b1 : (f 1 1 7).toInt ≤ 12 := (hI 1 1 7).2
  refine ⟨by rw [a0, b]; exact h.1, by rw [a1, e]; exact h.2.1, fun i j hi hj => ?_, fun i j hi hj => ?_⟩
  · rw [a0] at hi; rw [c _ _ (by omega) hj, d]; exact h.2.2.1 i j hi hj
  · rw [a1] at hi; rw [c _ _ (by omega) hj, e]; exact h.2.2.2 i j hi hj
theorem zRq_0 : zRq z0 := by
  refine ⟨rfl, rfl, fun i j hi _ => ?_, fun i j hi _ => ?_⟩
  · rw [show z0 1 0 5 = 0 from rfl] at hi; exact absurd hi (by have : (0 : Int32).toInt = 0 := by decide
                                                               omega)
  · rw [show z0 1 1 5 = 0 from rfl] at hi; exact absurd hi (by have : (0 : Int32).toInt = 0 := by decide
                                                               omega)
theorem zRp_0 : zRp z0 := by
  refine ⟨rfl, rfl, fun i j hi _ => ?_, fun i j hi _ => ?_⟩
  · rw [show z0 1 0 7 = 0 from rfl] at hi; exact absurd hi (by have : (0 : Int32).toInt = 0 := by decide
                                                               omega)
  · rw [show z0 1 1 7 = 0 from rfl] at hi; exact absurd hi (by have : (0 : Int32).toInt = 0 := by decide
                                                               omega)

theorem qd_crime {f g g2 : zM} {v v2 : Int32} {a1 a2 a3 a4 a5 a6 : Int32} (hI : zInv f) (hg : zInv g) (Rq : zRq f) (Rp : zRp f) (hF : zFr [(1, some 5), (7, some 0), (7, some 1), (7, some 2), (7, some 3), (7, some 4), (7, some 5), (8, some 5), (8, some 6), (8, some 7), (9, none), (10, none)] f g) (hG : zFr [(25, some 0), (26, none)] g g2) (hP : (¬ ((0 ≤ a1.toInt ∧ a1.toInt ≤ 5) ∧ (1 ≤ a2.toInt ∧ a2.toInt ≤ 63) ∧ (0 ≤ a3.toInt ∧ a3.toInt ≤ 63) ∧ a2 &&& a3 = 0 ∧ (1 ≤ a5.toInt ∧ a5.toInt ≤ 40) ∧ (0 ≤ a4.toInt ∧ a4.toInt ≤ a5.toInt)) ∧ v = -1 ∧ g = f) ∨ (((0 ≤ a1.toInt ∧ a1.toInt ≤ 5) ∧ (1 ≤ a2.toInt ∧ a2.toInt ≤ 63) ∧ (0 ≤ a3.toInt ∧ a3.toInt ≤ 63) ∧ a2 &&& a3 = 0 ∧ (1 ≤ a5.toInt ∧ a5.toInt ≤ 40) ∧ (0 ≤ a4.toInt ∧ a4.toInt ≤ a5.toInt)) ∧ 24 ≤ (f 1 0 5).toInt ∧ v = -3 ∧ g = f) ∨ (((0 ≤ a1.toInt ∧ a1.toInt ≤ 5) ∧ (1 ≤ a2.toInt ∧ a2.toInt ≤ 63) ∧ (0 ≤ a3.toInt ∧ a3.toInt ≤ 63) ∧ a2 &&& a3 = 0 ∧ (1 ≤ a5.toInt ∧ a5.toInt ≤ 40) ∧ (0 ≤ a4.toInt ∧ a4.toInt ≤ a5.toInt)) ∧ (f 1 0 5).toInt < 24 ∧ v = f 1 0 5 ∧ g 1 0 5 = f 1 0 5 + 1 ∧ (∀ j, j < 6 → g 7 (f 1 0 5).toInt.toNat j = zc6 a1 a2 a3 a4 a5 a6 j) ∧ (∀ i j, i ≠ (f 1 0 5).toInt.toNat → j < 6 → g 7 i j = f 7 i j) ∧ g 1 1 5 = f 1 1 5)) (hQ : (¬ ((0 ≤ a1.toInt ∧ a1.toInt ≤ 5) ∧ (1 ≤ a2.toInt ∧ a2.toInt ≤ 63) ∧ (0 ≤ a3.toInt ∧ a3.toInt ≤ 63) ∧ a2 &&& a3 = 0 ∧ (1 ≤ a5.toInt ∧ a5.toInt ≤ 40) ∧ (0 ≤ a4.toInt ∧ a4.toInt ≤ a5.toInt)) ∧ v2 = -1 ∧ g2 = g) ∨ (((0 ≤ a1.toInt ∧ a1.toInt ≤ 5) ∧ (1 ≤ a2.toInt ∧ a2.toInt ≤ 63) ∧ (0 ≤ a3.toInt ∧ a3.toInt ≤ 63) ∧ a2 &&& a3 = 0 ∧ (1 ≤ a5.toInt ∧ a5.toInt ≤ 40) ∧ (0 ≤ a4.toInt ∧ a4.toInt ≤ a5.toInt)) ∧ 24 ≤ (g 25 0 0).toInt ∧ v2 = -3 ∧ g2 = g) ∨ (((0 ≤ a1.toInt ∧ a1.toInt ≤ 5) ∧ (1 ≤ a2.toInt ∧ a2.toInt ≤ 63) ∧ (0 ≤ a3.toInt ∧ a3.toInt ≤ 63) ∧ a2 &&& a3 = 0 ∧ (1 ≤ a5.toInt ∧ a5.toInt ≤ 40) ∧ (0 ≤ a4.toInt ∧ a4.toInt ≤ a5.toInt)) ∧ (g 25 0 0).toInt < 24 ∧ v2 = g 25 0 0 ∧ g2 25 0 0 = g 25 0 0 + 1 ∧ (∀ j, j < 6 → g2 26 0 (6 * (g 25 0 0).toInt.toNat + j) = zc6 a1 a2 a3 a4 a5 a6 j) ∧ (∀ q, (q < 6 * (g 25 0 0).toInt.toNat ∨ 6 * (g 25 0 0).toInt.toNat + 6 ≤ q) → g2 26 0 q = g 26 0 q))) : v2 = v ∧ zRq g2 := by
  have e25 : g 25 0 0 = f 1 0 5 := (hF 25 0 0 rfl).trans Rq.1.symm
  rw [e25] at hQ
  have n0 : 0 ≤ (f 1 0 5).toInt := (hI 1 0 5).1
  rcases hP with ⟨p1, rfl, rfl⟩ | ⟨p1, p2, rfl, rfl⟩ | ⟨p1, p2, rfl, p4, p5, p6, p7⟩ <;> rcases hQ with ⟨q1, rfl, rfl⟩ | ⟨q1, q2, rfl, rfl⟩ | ⟨q1, q2, q3, q4, q5, q6⟩
  · exact ⟨rfl, Rq⟩
  · exact absurd q1 p1
  · exact absurd q1 p1
  · exact absurd p1 q1
  · exact ⟨rfl, Rq⟩
  · omega
  · exact absurd p1 q1
  · omega
  · have k1 : ∀ n j, g2 1 n j = g 1 n j := fun n j => hG 1 n j rfl
    have k7 : ∀ n j, g2 7 n j = g 7 n j := fun n j => hG 7 n j rfl
    have k39 : ∀ j, g2 39 0 j = f 39 0 j := fun j => (hG 39 0 j rfl).trans (hF 39 0 j rfl)
    have k26 : ∀ j, g 26 0 j = f 26 0 j := fun j => hF 26 0 j rfl
    have es : (f 1 0 5 + 1 : Int32).toInt = (f 1 0 5).toInt + 1 := zadd_eb (x := f 1 0 5) (hI 1 0 5) (zB.of (x := 1) 1 (by decide)) (by decide) (by decide)
    refine ⟨q3, ?_, ?_, fun i j hi hj => ?_, fun i j hi hj => ?_⟩
    · rw [k1, p4, q4]
    · rw [k1, p7, k39]; exact Rq.2.1
    · rw [k1, p4, es] at hi
      rw [k7]
      by_cases hn : i = (f 1 0 5).toInt.toNat
      · rw [hn, p5 j hj, q5 j hj]
      · rw [p6 i j hn hj, q6 _ (by omega), k26]
        exact Rq.2.2.1 i j (by omega) hj
    · rw [k1, p7] at hi
      rw [k7, p6 (24 + i) j (by omega) hj, k39]
      exact Rq.2.2.2 i j hi hj
theorem qd_years {f g g2 : zM} {v v2 : Int32} {a1 a2 a3 a4 a5 a6 : Int32} (hI : zInv f) (hg : zInv g) (Rq : zRq f) (Rp : zRp f) (hF : zFr [(1, some 7), (11, some 0), (11, some 1), (11, some 2), (11, some 3), (11, some 4), (11, some 5), (11, some 6), (11, some 7)] f g) (hG : zFr [(25, some 4), (28, none)] g g2) (hP : (¬ (((0 ≤ a1.toInt ∧ a1.toInt ≤ 5) ∧ (0 ≤ a2.toInt ∧ a2.toInt ≤ 5) ∧ ¬ a1.toInt = a2.toInt ∧ (0 ≤ a4.toInt ∧ a4.toInt ≤ 31) ∧ (0 ≤ a5.toInt ∧ a5.toInt ≤ 99) ∧ (0 ≤ a6.toInt ∧ a6.toInt ≤ 7)) ∧ (1 ≤ a3.toInt ∧ a3.toInt ≤ 40)) ∧ v = -1 ∧ g = f) ∨ ((((0 ≤ a1.toInt ∧ a1.toInt ≤ 5) ∧ (0 ≤ a2.toInt ∧ a2.toInt ≤ 5) ∧ ¬ a1.toInt = a2.toInt ∧ (0 ≤ a4.toInt ∧ a4.toInt ≤ 31) ∧ (0 ≤ a5.toInt ∧ a5.toInt ≤ 99) ∧ (0 ≤ a6.toInt ∧ a6.toInt ≤ 7)) ∧ (1 ≤ a3.toInt ∧ a3.toInt ≤ 40)) ∧ 12 ≤ (f 1 0 7).toInt ∧ v = -3 ∧ g = f) ∨ ((((0 ≤ a1.toInt ∧ a1.toInt ≤ 5) ∧ (0 ≤ a2.toInt ∧ a2.toInt ≤ 5) ∧ ¬ a1.toInt = a2.toInt ∧ (0 ≤ a4.toInt ∧ a4.toInt ≤ 31) ∧ (0 ≤ a5.toInt ∧ a5.toInt ≤ 99) ∧ (0 ≤ a6.toInt ∧ a6.toInt ≤ 7)) ∧ (1 ≤ a3.toInt ∧ a3.toInt ≤ 40)) ∧ (f 1 0 7).toInt < 12 ∧ v = f 1 0 7 ∧ g 1 0 7 = f 1 0 7 + 1 ∧ (∀ j, j < 8 → g 11 (f 1 0 7).toInt.toNat j = zc8 0 a1 a2 a3 0 a4 a5 a6 j) ∧ (∀ i j, i ≠ (f 1 0 7).toInt.toNat → j < 8 → g 11 i j = f 11 i j) ∧ (∀ i j, ¬ (i = 0 ∧ j = 7) → g 1 i j = f 1 i j))) (hQ : (¬ (((0 ≤ a1.toInt ∧ a1.toInt ≤ 5) ∧ (0 ≤ a2.toInt ∧ a2.toInt ≤ 5) ∧ ¬ a1.toInt = a2.toInt ∧ (0 ≤ a4.toInt ∧ a4.toInt ≤ 31) ∧ (0 ≤ a5.toInt ∧ a5.toInt ≤ 99) ∧ (0 ≤ a6.toInt ∧ a6.toInt ≤ 7)) ∧ (1 ≤ a3.toInt ∧ a3.toInt ≤ 40)) ∧ v2 = -1 ∧ g2 = g) ∨ ((((0 ≤ a1.toInt ∧ a1.toInt ≤ 5) ∧ (0 ≤ a2.toInt ∧ a2.toInt ≤ 5) ∧ ¬ a1.toInt = a2.toInt ∧ (0 ≤ a4.toInt ∧ a4.toInt ≤ 31) ∧ (0 ≤ a5.toInt ∧ a5.toInt ≤ 99) ∧ (0 ≤ a6.toInt ∧ a6.toInt ≤ 7)) ∧ (1 ≤ a3.toInt ∧ a3.toInt ≤ 40)) ∧ 12 ≤ (g 25 0 4).toInt ∧ v2 = -3 ∧ g2 = g) ∨ ((((0 ≤ a1.toInt ∧ a1.toInt ≤ 5) ∧ (0 ≤ a2.toInt ∧ a2.toInt ≤ 5) ∧ ¬ a1.toInt = a2.toInt ∧ (0 ≤ a4.toInt ∧ a4.toInt ≤ 31) ∧ (0 ≤ a5.toInt ∧ a5.toInt ≤ 99) ∧ (0 ≤ a6.toInt ∧ a6.toInt ≤ 7)) ∧ (1 ≤ a3.toInt ∧ a3.toInt ≤ 40)) ∧ (g 25 0 4).toInt < 12 ∧ v2 = g 25 0 4 ∧ g2 25 0 4 = g 25 0 4 + 1 ∧ (∀ j, j < 8 → g2 28 0 (8 * (g 25 0 4).toInt.toNat + j) = zc8 0 a1 a2 a3 0 a4 a5 a6 j) ∧ (∀ q, (q < 8 * (g 25 0 4).toInt.toNat ∨ 8 * (g 25 0 4).toInt.toNat + 8 ≤ q) → g2 28 0 q = g 28 0 q))) : v2 = v ∧ zRp g2 := by
  have hiff : (((0 ≤ a1.toInt ∧ a1.toInt ≤ 5) ∧ (0 ≤ a2.toInt ∧ a2.toInt ≤ 5) ∧ ¬ a1.toInt = a2.toInt ∧ (0 ≤ a4.toInt ∧ a4.toInt ≤ 31) ∧ (0 ≤ a5.toInt ∧ a5.toInt ≤ 99) ∧ (0 ≤ a6.toInt ∧ a6.toInt ≤ 7)) ∧ (1 ≤ a3.toInt ∧ a3.toInt ≤ 40)) ↔ (((0 ≤ a1.toInt ∧ a1.toInt ≤ 5) ∧ (0 ≤ a2.toInt ∧ a2.toInt ≤ 5) ∧ ¬ a1.toInt = a2.toInt ∧ (0 ≤ a4.toInt ∧ a4.toInt ≤ 31) ∧ (0 ≤ a5.toInt ∧ a5.toInt ≤ 99) ∧ (0 ≤ a6.toInt ∧ a6.toInt ≤ 7)) ∧ (1 ≤ a3.toInt ∧ a3.toInt ≤ 40)) := Iff.rfl
  have e25 : g 25 0 4 = f 1 0 7 := (hF 25 0 4 rfl).trans Rp.1.symm
  rw [e25] at hQ
  have n0 : 0 ≤ (f 1 0 7).toInt := (hI 1 0 7).1
  rcases hP with ⟨p1, rfl, rfl⟩ | ⟨p1, p2, rfl, rfl⟩ | ⟨p1, p2, rfl, p4, p5, p6, p7⟩ <;> rcases hQ with ⟨q1, rfl, rfl⟩ | ⟨q1, q2, rfl, rfl⟩ | ⟨q1, q2, q3, q4, q5, q6⟩
  · exact ⟨rfl, Rp⟩
  · exact absurd (hiff.mp q1) p1
  · exact absurd (hiff.mp q1) p1
  · exact absurd (hiff.mpr p1) q1
  · exact ⟨rfl, Rp⟩
  · omega
  · exact absurd (hiff.mpr p1) q1
  · omega
  · have k1 : ∀ n j, g2 1 n j = g 1 n j := fun n j => hG 1 n j rfl
    have k11 : ∀ n j, g2 11 n j = g 11 n j := fun n j => hG 11 n j rfl
    have k39 : ∀ j, g2 39 0 j = f 39 0 j := fun j => (hG 39 0 j rfl).trans (hF 39 0 j rfl)
    have k28 : ∀ j, g 28 0 j = f 28 0 j := fun j => hF 28 0 j rfl
    have es : (f 1 0 7 + 1 : Int32).toInt = (f 1 0 7).toInt + 1 := zadd_eb (x := f 1 0 7) (hI 1 0 7) (zB.of (x := 1) 1 (by decide)) (by decide) (by decide)
    refine ⟨q3, ?_, ?_, fun i j hi hj => ?_, fun i j hi hj => ?_⟩
    · rw [k1, p4, q4]
    · rw [k1, p7 1 7 (by omega), k39]; exact Rp.2.1
    · rw [k1, p4, es] at hi
      rw [k11]
      by_cases hn : i = (f 1 0 7).toInt.toNat
      · rw [hn, p5 j hj, q5 j hj]
      · rw [p6 i j hn hj, q6 _ (by omega), k28]
        exact Rp.2.2.1 i j (by omega) hj
    · rw [k1, p7 1 7 (by omega)] at hi
      rw [k11, p6 (12 + i) j (by omega) hj, k39]
      exact Rp.2.2.2 i j hi hj
theorem qd_custom {f g g2 : zM} {v v2 : Int32} {a1 a2 a3 a4 a5 : Int32} (hI : zInv f) (hg : zInv g) (Rq : zRq f) (Rp : zRp f) (hF : zFr [(1, some 7), (11, some 0), (11, some 1), (11, some 2), (11, some 3), (11, some 4), (11, some 5), (11, some 6), (11, some 7)] f g) (hG : zFr [(25, some 4), (28, none)] g g2) (hP : (¬ ((0 ≤ a1.toInt ∧ a1.toInt ≤ 5) ∧ (0 ≤ a2.toInt ∧ a2.toInt ≤ 5) ∧ ¬ a1.toInt = a2.toInt ∧ (0 ≤ a3.toInt ∧ a3.toInt ≤ 31) ∧ (0 ≤ a4.toInt ∧ a4.toInt ≤ 99) ∧ (0 ≤ a5.toInt ∧ a5.toInt ≤ 7)) ∧ v = -1 ∧ g = f) ∨ (((0 ≤ a1.toInt ∧ a1.toInt ≤ 5) ∧ (0 ≤ a2.toInt ∧ a2.toInt ≤ 5) ∧ ¬ a1.toInt = a2.toInt ∧ (0 ≤ a3.toInt ∧ a3.toInt ≤ 31) ∧ (0 ≤ a4.toInt ∧ a4.toInt ≤ 99) ∧ (0 ≤ a5.toInt ∧ a5.toInt ≤ 7)) ∧ 12 ≤ (f 1 0 7).toInt ∧ v = -3 ∧ g = f) ∨ (((0 ≤ a1.toInt ∧ a1.toInt ≤ 5) ∧ (0 ≤ a2.toInt ∧ a2.toInt ≤ 5) ∧ ¬ a1.toInt = a2.toInt ∧ (0 ≤ a3.toInt ∧ a3.toInt ≤ 31) ∧ (0 ≤ a4.toInt ∧ a4.toInt ≤ 99) ∧ (0 ≤ a5.toInt ∧ a5.toInt ≤ 7)) ∧ (f 1 0 7).toInt < 12 ∧ v = f 1 0 7 ∧ g 1 0 7 = f 1 0 7 + 1 ∧ (∀ j, j < 8 → g 11 (f 1 0 7).toInt.toNat j = zc8 2 a1 a2 1 0 a3 a4 a5 j) ∧ (∀ i j, i ≠ (f 1 0 7).toInt.toNat → j < 8 → g 11 i j = f 11 i j) ∧ (∀ i j, ¬ (i = 0 ∧ j = 7) → g 1 i j = f 1 i j))) (hQ : (¬ ((0 ≤ a1.toInt ∧ a1.toInt ≤ 5) ∧ (0 ≤ a2.toInt ∧ a2.toInt ≤ 5) ∧ ¬ a1.toInt = a2.toInt ∧ (0 ≤ a3.toInt ∧ a3.toInt ≤ 31) ∧ (0 ≤ a4.toInt ∧ a4.toInt ≤ 99) ∧ (0 ≤ a5.toInt ∧ a5.toInt ≤ 7)) ∧ v2 = -1 ∧ g2 = g) ∨ (((0 ≤ a1.toInt ∧ a1.toInt ≤ 5) ∧ (0 ≤ a2.toInt ∧ a2.toInt ≤ 5) ∧ ¬ a1.toInt = a2.toInt ∧ (0 ≤ a3.toInt ∧ a3.toInt ≤ 31) ∧ (0 ≤ a4.toInt ∧ a4.toInt ≤ 99) ∧ (0 ≤ a5.toInt ∧ a5.toInt ≤ 7)) ∧ 12 ≤ (g 25 0 4).toInt ∧ v2 = -3 ∧ g2 = g) ∨ (((0 ≤ a1.toInt ∧ a1.toInt ≤ 5) ∧ (0 ≤ a2.toInt ∧ a2.toInt ≤ 5) ∧ ¬ a1.toInt = a2.toInt ∧ (0 ≤ a3.toInt ∧ a3.toInt ≤ 31) ∧ (0 ≤ a4.toInt ∧ a4.toInt ≤ 99) ∧ (0 ≤ a5.toInt ∧ a5.toInt ≤ 7)) ∧ (g 25 0 4).toInt < 12 ∧ v2 = g 25 0 4 ∧ g2 25 0 4 = g 25 0 4 + 1 ∧ (∀ j, j < 8 → g2 28 0 (8 * (g 25 0 4).toInt.toNat + j) = zc8 2 a1 a2 1 0 a3 a4 a5 j) ∧ (∀ q, (q < 8 * (g 25 0 4).toInt.toNat ∨ 8 * (g 25 0 4).toInt.toNat + 8 ≤ q) → g2 28 0 q = g 28 0 q))) : v2 = v ∧ zRp g2 := by
  have hiff : ((0 ≤ a1.toInt ∧ a1.toInt ≤ 5) ∧ (0 ≤ a2.toInt ∧ a2.toInt ≤ 5) ∧ ¬ a1.toInt = a2.toInt ∧ (0 ≤ a3.toInt ∧ a3.toInt ≤ 31) ∧ (0 ≤ a4.toInt ∧ a4.toInt ≤ 99) ∧ (0 ≤ a5.toInt ∧ a5.toInt ≤ 7)) ↔ ((0 ≤ a1.toInt ∧ a1.toInt ≤ 5) ∧ (0 ≤ a2.toInt ∧ a2.toInt ≤ 5) ∧ ¬ a1.toInt = a2.toInt ∧ (0 ≤ a3.toInt ∧ a3.toInt ≤ 31) ∧ (0 ≤ a4.toInt ∧ a4.toInt ≤ 99) ∧ (0 ≤ a5.toInt ∧ a5.toInt ≤ 7)) := Iff.rfl
  have e25 : g 25 0 4 = f 1 0 7 := (hF 25 0 4 rfl).trans Rp.1.symm
  rw [e25] at hQ
  have n0 : 0 ≤ (f 1 0 7).toInt := (hI 1 0 7).1
  rcases hP with ⟨p1, rfl, rfl⟩ | ⟨p1, p2, rfl, rfl⟩ | ⟨p1, p2, rfl, p4, p5, p6, p7⟩ <;> rcases hQ with ⟨q1, rfl, rfl⟩ | ⟨q1, q2, rfl, rfl⟩ | ⟨q1, q2, q3, q4, q5, q6⟩
  · exact ⟨rfl, Rp⟩
  · exact absurd (hiff.mp q1) p1
  · exact absurd (hiff.mp q1) p1
  · exact absurd (hiff.mpr p1) q1
  · exact ⟨rfl, Rp⟩
  · omega
  · exact absurd (hiff.mpr p1) q1
  · omega
  · have k1 : ∀ n j, g2 1 n j = g 1 n j := fun n j => hG 1 n j rfl
    have k11 : ∀ n j, g2 11 n j = g 11 n j := fun n j => hG 11 n j rfl
    have k39 : ∀ j, g2 39 0 j = f 39 0 j := fun j => (hG 39 0 j rfl).trans (hF 39 0 j rfl)
    have k28 : ∀ j, g 28 0 j = f 28 0 j := fun j => hF 28 0 j rfl
    have es : (f 1 0 7 + 1 : Int32).toInt = (f 1 0 7).toInt + 1 := zadd_eb (x := f 1 0 7) (hI 1 0 7) (zB.of (x := 1) 1 (by decide)) (by decide) (by decide)
    refine ⟨q3, ?_, ?_, fun i j hi hj => ?_, fun i j hi hj => ?_⟩
    · rw [k1, p4, q4]
    · rw [k1, p7 1 7 (by omega), k39]; exact Rp.2.1
    · rw [k1, p4, es] at hi
      rw [k11]
      by_cases hn : i = (f 1 0 7).toInt.toNat
      · rw [hn, p5 j hj, q5 j hj]
      · rw [p6 i j hn hj, q6 _ (by omega), k28]
        exact Rp.2.2.1 i j (by omega) hj
    · rw [k1, p7 1 7 (by omega)] at hi
      rw [k11, p6 (12 + i) j (by omega) hj, k39]
      exact Rp.2.2.2 i j hi hj
theorem qd_named {f g g2 : zM} {v v2 : Int32} {a1 a2 a3 a4 a5 a6 : Int32} (hI : zInv f) (hg : zInv g) (Rq : zRq f) (Rp : zRp f) (hF : zFr [(1, some 7), (11, some 0), (11, some 1), (11, some 2), (11, some 3), (11, some 4), (11, some 5), (11, some 6), (11, some 7)] f g) (hG : zFr [(25, some 4), (28, none)] g g2) (hP : (¬ (((0 ≤ a1.toInt ∧ a1.toInt ≤ 5) ∧ (0 ≤ a2.toInt ∧ a2.toInt ≤ 5) ∧ ¬ a1.toInt = a2.toInt ∧ (0 ≤ a4.toInt ∧ a4.toInt ≤ 31) ∧ (0 ≤ a5.toInt ∧ a5.toInt ≤ 99) ∧ (0 ≤ a6.toInt ∧ a6.toInt ≤ 7)) ∧ ¬ a3 = 0 ∧ a3 &&& (zcf (fun i => f 7 i 0) a2 (f 1 0 5).toInt.toNat ^^^ -1) = 0) ∧ v = -1 ∧ g = f) ∨ ((((0 ≤ a1.toInt ∧ a1.toInt ≤ 5) ∧ (0 ≤ a2.toInt ∧ a2.toInt ≤ 5) ∧ ¬ a1.toInt = a2.toInt ∧ (0 ≤ a4.toInt ∧ a4.toInt ≤ 31) ∧ (0 ≤ a5.toInt ∧ a5.toInt ≤ 99) ∧ (0 ≤ a6.toInt ∧ a6.toInt ≤ 7)) ∧ ¬ a3 = 0 ∧ a3 &&& (zcf (fun i => f 7 i 0) a2 (f 1 0 5).toInt.toNat ^^^ -1) = 0) ∧ 12 ≤ (f 1 0 7).toInt ∧ v = -3 ∧ g = f) ∨ ((((0 ≤ a1.toInt ∧ a1.toInt ≤ 5) ∧ (0 ≤ a2.toInt ∧ a2.toInt ≤ 5) ∧ ¬ a1.toInt = a2.toInt ∧ (0 ≤ a4.toInt ∧ a4.toInt ≤ 31) ∧ (0 ≤ a5.toInt ∧ a5.toInt ≤ 99) ∧ (0 ≤ a6.toInt ∧ a6.toInt ≤ 7)) ∧ ¬ a3 = 0 ∧ a3 &&& (zcf (fun i => f 7 i 0) a2 (f 1 0 5).toInt.toNat ^^^ -1) = 0) ∧ (f 1 0 7).toInt < 12 ∧ v = f 1 0 7 ∧ g 1 0 7 = f 1 0 7 + 1 ∧ (∀ j, j < 8 → g 11 (f 1 0 7).toInt.toNat j = zc8 1 a1 a2 1 a3 a4 a5 a6 j) ∧ (∀ i j, i ≠ (f 1 0 7).toInt.toNat → j < 8 → g 11 i j = f 11 i j) ∧ (∀ i j, ¬ (i = 0 ∧ j = 7) → g 1 i j = f 1 i j))) (hQ : (¬ ((((0 ≤ a1.toInt ∧ a1.toInt ≤ 5) ∧ (0 ≤ a2.toInt ∧ a2.toInt ≤ 5) ∧ ¬ a1.toInt = a2.toInt ∧ (0 ≤ a4.toInt ∧ a4.toInt ≤ 31) ∧ (0 ≤ a5.toInt ∧ a5.toInt ≤ 99) ∧ (0 ≤ a6.toInt ∧ a6.toInt ≤ 7)) ∧ (1 ≤ a3.toInt ∧ a3.toInt ≤ ((1 : Int32) <<< (g 25 0 0 &&& 31) - 1).toInt)) ∧ ∀ c, c < (g 25 0 0).toInt.toNat → (a3 >>> (nI c &&& 31) &&& 1 = 0 ∨ g 26 0 (6 * c) = a2)) ∧ v2 = -1 ∧ g2 = g) ∨ (((((0 ≤ a1.toInt ∧ a1.toInt ≤ 5) ∧ (0 ≤ a2.toInt ∧ a2.toInt ≤ 5) ∧ ¬ a1.toInt = a2.toInt ∧ (0 ≤ a4.toInt ∧ a4.toInt ≤ 31) ∧ (0 ≤ a5.toInt ∧ a5.toInt ≤ 99) ∧ (0 ≤ a6.toInt ∧ a6.toInt ≤ 7)) ∧ (1 ≤ a3.toInt ∧ a3.toInt ≤ ((1 : Int32) <<< (g 25 0 0 &&& 31) - 1).toInt)) ∧ ∀ c, c < (g 25 0 0).toInt.toNat → (a3 >>> (nI c &&& 31) &&& 1 = 0 ∨ g 26 0 (6 * c) = a2)) ∧ 12 ≤ (g 25 0 4).toInt ∧ v2 = -3 ∧ g2 = g) ∨ (((((0 ≤ a1.toInt ∧ a1.toInt ≤ 5) ∧ (0 ≤ a2.toInt ∧ a2.toInt ≤ 5) ∧ ¬ a1.toInt = a2.toInt ∧ (0 ≤ a4.toInt ∧ a4.toInt ≤ 31) ∧ (0 ≤ a5.toInt ∧ a5.toInt ≤ 99) ∧ (0 ≤ a6.toInt ∧ a6.toInt ≤ 7)) ∧ (1 ≤ a3.toInt ∧ a3.toInt ≤ ((1 : Int32) <<< (g 25 0 0 &&& 31) - 1).toInt)) ∧ ∀ c, c < (g 25 0 0).toInt.toNat → (a3 >>> (nI c &&& 31) &&& 1 = 0 ∨ g 26 0 (6 * c) = a2)) ∧ (g 25 0 4).toInt < 12 ∧ v2 = g 25 0 4 ∧ g2 25 0 4 = g 25 0 4 + 1 ∧ (∀ j, j < 8 → g2 28 0 (8 * (g 25 0 4).toInt.toNat + j) = zc8 1 a1 a2 1 a3 a4 a5 a6 j) ∧ (∀ q, (q < 8 * (g 25 0 4).toInt.toNat ∨ 8 * (g 25 0 4).toInt.toNat + 8 ≤ q) → g2 28 0 q = g 28 0 q))) : v2 = v ∧ zRp g2 := by
  have e0 : g 25 0 0 = f 1 0 5 := (hF 25 0 0 rfl).trans Rq.1.symm
  have b0 : 0 ≤ (f 1 0 5).toInt ∧ (f 1 0 5).toInt ≤ 24 := hI 1 0 5
  have en : f 1 0 5 = nI (f 1 0 5).toInt.toNat := (nI_ofI b0.1).1
  have hz := znamed (T := fun i => f 7 i 0) (l := a2) (x := a3) (k := (f 1 0 5).toInt.toNat) (by omega)
  rw [← en] at hz
  have hiff : ((((0 ≤ a1.toInt ∧ a1.toInt ≤ 5) ∧ (0 ≤ a2.toInt ∧ a2.toInt ≤ 5) ∧ ¬ a1.toInt = a2.toInt ∧ (0 ≤ a4.toInt ∧ a4.toInt ≤ 31) ∧ (0 ≤ a5.toInt ∧ a5.toInt ≤ 99) ∧ (0 ≤ a6.toInt ∧ a6.toInt ≤ 7)) ∧ (1 ≤ a3.toInt ∧ a3.toInt ≤ ((1 : Int32) <<< (g 25 0 0 &&& 31) - 1).toInt)) ∧ ∀ c, c < (g 25 0 0).toInt.toNat → (a3 >>> (nI c &&& 31) &&& 1 = 0 ∨ g 26 0 (6 * c) = a2)) ↔ (((0 ≤ a1.toInt ∧ a1.toInt ≤ 5) ∧ (0 ≤ a2.toInt ∧ a2.toInt ≤ 5) ∧ ¬ a1.toInt = a2.toInt ∧ (0 ≤ a4.toInt ∧ a4.toInt ≤ 31) ∧ (0 ≤ a5.toInt ∧ a5.toInt ≤ 99) ∧ (0 ≤ a6.toInt ∧ a6.toInt ≤ 7)) ∧ ¬ a3 = 0 ∧ a3 &&& (zcf (fun i => f 7 i 0) a2 (f 1 0 5).toInt.toNat ^^^ -1) = 0) := by
    rw [e0]
    constructor
    · rintro ⟨⟨h1, h2⟩, h3⟩
      refine ⟨h1, hz.mpr ⟨h2, fun c hc => ?_⟩⟩
      rcases h3 c hc with q | q
      · exact Or.inl q
      · refine Or.inr ?_
        rw [hF 26 0 _ rfl] at q
        exact (Rq.2.2.1 c 0 (by omega) (by decide)).trans q
    · rintro ⟨h1, h2⟩
      obtain ⟨h3, h4⟩ := hz.mp h2
      refine ⟨⟨h1, h3⟩, fun c hc => ?_⟩
      rcases h4 c hc with q | q
      · exact Or.inl q
      · refine Or.inr ?_
        rw [hF 26 0 _ rfl]
        exact (Rq.2.2.1 c 0 (by omega) (by decide)).symm.trans q
  have e25 : g 25 0 4 = f 1 0 7 := (hF 25 0 4 rfl).trans Rp.1.symm
  rw [e25] at hQ
  have n0 : 0 ≤ (f 1 0 7).toInt := (hI 1 0 7).1
  rcases hP with ⟨p1, rfl, rfl⟩ | ⟨p1, p2, rfl, rfl⟩ | ⟨p1, p2, rfl, p4, p5, p6, p7⟩ <;> rcases hQ with ⟨q1, rfl, rfl⟩ | ⟨q1, q2, rfl, rfl⟩ | ⟨q1, q2, q3, q4, q5, q6⟩
  · exact ⟨rfl, Rp⟩
  · exact absurd (hiff.mp q1) p1
  · exact absurd (hiff.mp q1) p1
  · exact absurd (hiff.mpr p1) q1
  · exact ⟨rfl, Rp⟩
  · omega
  · exact absurd (hiff.mpr p1) q1
  · omega
  · have k1 : ∀ n j, g2 1 n j = g 1 n j := fun n j => hG 1 n j rfl
    have k11 : ∀ n j, g2 11 n j = g 11 n j := fun n j => hG 11 n j rfl
    have k39 : ∀ j, g2 39 0 j = f 39 0 j := fun j => (hG 39 0 j rfl).trans (hF 39 0 j rfl)
    have k28 : ∀ j, g 28 0 j = f 28 0 j := fun j => hF 28 0 j rfl
    have es : (f 1 0 7 + 1 : Int32).toInt = (f 1 0 7).toInt + 1 := zadd_eb (x := f 1 0 7) (hI 1 0 7) (zB.of (x := 1) 1 (by decide)) (by decide) (by decide)
    refine ⟨q3, ?_, ?_, fun i j hi hj => ?_, fun i j hi hj => ?_⟩
    · rw [k1, p4, q4]
    · rw [k1, p7 1 7 (by omega), k39]; exact Rp.2.1
    · rw [k1, p4, es] at hi
      rw [k11]
      by_cases hn : i = (f 1 0 7).toInt.toNat
      · rw [hn, p5 j hj, q5 j hj]
      · rw [p6 i j hn hj, q6 _ (by omega), k28]
        exact Rp.2.2.1 i j (by omega) hj
    · rw [k1, p7 1 7 (by omega)] at hi
      rw [k11, p6 (12 + i) j (by omega) hj, k39]
      exact Rp.2.2.2 i j hi hj
theorem qd_bars {f g g2 : zM} {v v2 : Int32} {a1 a2 : Int32} (hI : zInv f) (hg : zInv g) (Rq : zRq f) (Rp : zRp f) (hF : zFr [(11, some 5)] f g) (hG : zFr [(28, none)] g g2) (hP : (¬ ((0 ≤ a1.toInt ∧ a1.toInt < (f 1 0 7).toInt) ∧ (0 ≤ a2.toInt ∧ a2.toInt ≤ 31)) ∧ v = -1 ∧ g = f) ∨ (((0 ≤ a1.toInt ∧ a1.toInt < (f 1 0 7).toInt) ∧ (0 ≤ a2.toInt ∧ a2.toInt ≤ 31)) ∧ v = f 11 a1.toInt.toNat 5 ∧ g = zup f 11 a1.toInt.toNat 5 a2)) (hQ : (¬ ((0 ≤ a1.toInt ∧ a1.toInt < (g 25 0 4).toInt) ∧ (0 ≤ a2.toInt ∧ a2.toInt ≤ 31)) ∧ v2 = -1 ∧ g2 = g) ∨ (((0 ≤ a1.toInt ∧ a1.toInt < (g 25 0 4).toInt) ∧ (0 ≤ a2.toInt ∧ a2.toInt ≤ 31)) ∧ v2 = g 28 0 (8 * a1.toInt.toNat + 5) ∧ g2 = zup g 28 0 (8 * a1.toInt.toNat + 5) a2)) : v2 = v ∧ zRp g2 := by
  have e25 : g 25 0 4 = f 1 0 7 := (hF 25 0 4 rfl).trans Rp.1.symm
  rw [e25] at hQ
  have n8 : (f 1 0 7).toInt ≤ 12 := (hI 1 0 7).2
  rcases hP with ⟨p1, rfl, rfl⟩ | ⟨p1, rfl, rfl⟩ <;> rcases hQ with ⟨q1, rfl, rfl⟩ | ⟨q1, rfl, rfl⟩
  · exact ⟨rfl, Rp⟩
  · exact absurd q1 p1
  · exact absurd p1 q1
  · refine ⟨?_, ?_, ?_, fun i j hi hj => ?_, fun i j hi hj => ?_⟩
    · rw [zup_ne _ _ (by omega)]
      exact (Rp.2.2.1 _ 5 (by omega) (by decide)).symm
    · rw [zup_ne _ _ (by omega), zup_ne _ _ (by omega), zup_ne _ _ (by omega), zup_ne _ _ (by omega)]; exact Rp.1
    · rw [zup_ne _ _ (by omega), zup_ne _ _ (by omega), zup_ne _ _ (by omega), zup_ne _ _ (by omega)]; exact Rp.2.1
    · rw [zup_ne _ _ (by omega), zup_ne _ _ (by omega)] at hi
      rw [zup_ne _ _ (by omega)]
      by_cases hn : i = a1.toInt.toNat ∧ j = 5
      · rw [hn.1, hn.2, zup_same, zup_same]
      · rw [zup_ne _ _ (by omega), zup_ne _ _ (by omega), zup_ne _ _ (by omega)]
        exact Rp.2.2.1 i j hi hj
    · rw [zup_ne _ _ (by omega), zup_ne _ _ (by omega)] at hi
      rw [zup_ne _ _ (by omega), zup_ne _ _ (by omega), zup_ne _ _ (by omega), zup_ne _ _ (by omega)]
      exact Rp.2.2.2 i j hi hj
theorem qd_crimeOf {f g g2 : zM} {v v2 : Int32} {a1 a2 : Int32} (hI : zInv f) (hg : zInv g) (Rq : zRq f) (Rp : zRp f) (hF : zFr [] f g) (hG : zFr [] g g2) (hP : (¬ ((0 ≤ a1.toInt ∧ a1.toInt < (f 1 0 5).toInt) ∧ (0 ≤ a2.toInt ∧ a2.toInt ≤ 5)) ∧ v = -1) ∨ (((0 ≤ a1.toInt ∧ a1.toInt < (f 1 0 5).toInt) ∧ (0 ≤ a2.toInt ∧ a2.toInt ≤ 5)) ∧ v = f 7 a1.toInt.toNat a2.toInt.toNat)) (hQ : (¬ ((0 ≤ a1.toInt ∧ a1.toInt < (g 25 0 0).toInt) ∧ (0 ≤ a2.toInt ∧ a2.toInt ≤ 5)) ∧ v2 = -1) ∨ (((0 ≤ a1.toInt ∧ a1.toInt < (g 25 0 0).toInt) ∧ (0 ≤ a2.toInt ∧ a2.toInt ≤ 5)) ∧ v2 = g 26 0 (6 * a1.toInt.toNat + a2.toInt.toNat))) : v2 = v := by
  obtain rfl := zFr_nil hF
  obtain rfl := zFr_nil hG
  rw [← Rq.1] at hQ
  rcases hP with ⟨p1, rfl⟩ | ⟨p1, rfl⟩ <;> rcases hQ with ⟨q1, rfl⟩ | ⟨q1, rfl⟩
  · rfl
  · exact absurd q1 p1
  · exact absurd p1 q1
  · exact (Rq.2.2.1 _ _ (by omega) (by omega)).symm
theorem qd_image_Rq {f g : zM} (hI : zInv f) (Rq : zRq f) (hF : zFr [(0, some 5), (1, some 5), (1, some 6), (1, some 7), (1, some 8), (6, some 0), (6, some 1), (6, some 2), (6, some 3), (6, some 4), (6, some 5), (6, some 6), (7, some 0), (7, some 1), (7, some 2), (7, some 3), (7, some 4), (7, some 5), (8, some 0), (8, some 1), (8, some 2), (8, some 3), (8, some 4), (8, some 5), (8, some 6), (8, some 7), (9, none), (10, none), (11, some 0), (11, some 1), (11, some 2), (11, some 3), (11, some 4), (11, some 5), (11, some 6), (11, some 7), (12, some 0), (12, some 1), (12, some 2)] f g) (h0 : g 1 1 5 = f 1 0 5) (h1 : g 1 1 6 = f 1 0 6) (h2 : g 1 1 7 = f 1 0 7) (h3 : g 1 1 8 = f 1 0 8) (h4 : g 1 0 5 = f 1 0 5) (h5 : g 1 0 6 = f 1 0 6) (h6 : g 1 0 7 = f 1 0 7) (h7 : g 1 0 8 = f 1 0 8) (h8 : zcpd f g 7 24 0 (f 1 0 5).toInt.toNat 6 24) (h9 : zcpd f g 8 8 0 (f 1 0 6).toInt.toNat 5 8) (h10 : zcpd f g 11 12 0 (f 1 0 7).toInt.toNat 8 12) (h11 : zcpd f g 12 8 0 (f 1 0 8).toInt.toNat 3 8) (h12 : ∀ j, j < 7 → g 6 1 j = f 6 0 j) (h13 : ∀ j, j < 7 → g 6 0 j = f 6 0 j) (h14 : g 0 0 5 = 1) (h15 : zRl f → zRl g) : zRq (zim g) := by
  have z1 : ∀ n j, zim g 1 n j = g 1 n j := fun n j => zim_o g (by decide) (by decide) (by omega) (by omega)
  have z7 : ∀ n j, zim g 7 n j = g 7 n j := fun n j => zim_o g (by decide) (by decide) (by omega) (by omega)
  have z26 : ∀ j, zim g 26 0 j = g 26 0 j := fun j => zim_o g (by decide) (by decide) (by omega) (by omega)
  have bb : (f 1 0 5).toInt ≤ 24 := (hI 1 0 5).2
  refine ⟨?_, ?_, fun i j hi hj => ?_, fun i j hi hj => ?_⟩
  · rw [z1, h4, zim_25 g (by decide) (by decide), hF 25 0 0 rfl]; exact Rq.1
  · rw [z1, h0, zim_c0, hF 25 0 0 rfl]; exact Rq.1
  · rw [z1, h4] at hi
    have e := h8.2 i j (by omega) hj
    rw [Nat.zero_add] at e
    rw [z7, e, z26, hF 26 0 _ rfl]; exact Rq.2.2.1 i j hi hj
  · rw [z1, h0] at hi
    have e := h8.1 i j (by omega) hj
    rw [Nat.zero_add] at e
    rw [z7, e, zim_26 g (by omega), hF 26 0 _ rfl]; exact Rq.2.2.1 i j hi hj
theorem qd_restore_Rq {f g : zM} (hI : zInv f) (Rq : zRq f) (hF : zFr [(1, some 5), (1, some 6), (1, some 7), (1, some 8), (6, some 0), (6, some 1), (6, some 2), (6, some 3), (6, some 4), (6, some 5), (6, some 6), (7, some 0), (7, some 1), (7, some 2), (7, some 3), (7, some 4), (7, some 5), (8, some 0), (8, some 1), (8, some 2), (8, some 3), (8, some 4), (8, some 5), (8, some 6), (8, some 7), (9, none), (10, none), (11, some 0), (11, some 1), (11, some 2), (11, some 3), (11, some 4), (11, some 5), (11, some 6), (11, some 7), (12, some 0), (12, some 1), (12, some 2)] f g) (h0 : g 1 0 5 = f 1 1 5) (h1 : g 1 0 6 = f 1 1 6) (h2 : g 1 0 7 = f 1 1 7) (h3 : g 1 0 8 = f 1 1 8) (h4 : g 1 1 5 = f 1 1 5) (h5 : g 1 1 6 = f 1 1 6) (h6 : g 1 1 7 = f 1 1 7) (h7 : g 1 1 8 = f 1 1 8) (h8 : zcpd f g 7 0 24 (f 1 1 5).toInt.toNat 6 24) (h9 : zcpd f g 8 0 8 (f 1 1 6).toInt.toNat 5 8) (h10 : zcpd f g 11 0 12 (f 1 1 7).toInt.toNat 8 12) (h11 : zcpd f g 12 0 8 (f 1 1 8).toInt.toNat 3 8) (h12 : ∀ j, j < 7 → g 6 0 j = f 6 1 j) (h13 : ∀ j, j < 7 → g 6 1 j = f 6 1 j) (h14 : ∀ i, i < (f 1 1 6).toInt.toNat → zLk g i (fun k j => g 7 k j) (g 1 0 5).toInt.toNat) : zRq (zre g) := by
  have z1 : ∀ n j, zre g 1 n j = g 1 n j := fun n j => zre_o g (by omega) (by decide) (by decide)
  have z7 : ∀ n j, zre g 7 n j = g 7 n j := fun n j => zre_o g (by omega) (by decide) (by decide)
  have z39 : ∀ j, zre g 39 0 j = g 39 0 j := fun j => zre_o g (by omega) (by decide) (by decide)
  have bb : (f 1 1 5).toInt ≤ 24 := (hI 1 1 5).2
  refine ⟨?_, ?_, fun i j hi hj => ?_, fun i j hi hj => ?_⟩
  · rw [z1, h0, zre_c0, hF 39 0 _ rfl]; exact Rq.2.1
  · rw [z1, h4, z39, hF 39 0 _ rfl]; exact Rq.2.1
  · rw [z1, h0] at hi
    have e := h8.1 i j (by omega) hj
    rw [Nat.zero_add] at e
    rw [z7, e, zre_26 g (by omega), hF 39 0 _ rfl]; exact Rq.2.2.2 i j hi hj
  · rw [z1, h4] at hi
    have e := h8.2 i j (by omega) hj
    rw [z7, e, z39, hF 39 0 _ rfl]; exact Rq.2.2.2 i j hi hj
theorem qd_image_Rp {f g : zM} (hI : zInv f) (Rp : zRp f) (hF : zFr [(0, some 5), (1, some 5), (1, some 6), (1, some 7), (1, some 8), (6, some 0), (6, some 1), (6, some 2), (6, some 3), (6, some 4), (6, some 5), (6, some 6), (7, some 0), (7, some 1), (7, some 2), (7, some 3), (7, some 4), (7, some 5), (8, some 0), (8, some 1), (8, some 2), (8, some 3), (8, some 4), (8, some 5), (8, some 6), (8, some 7), (9, none), (10, none), (11, some 0), (11, some 1), (11, some 2), (11, some 3), (11, some 4), (11, some 5), (11, some 6), (11, some 7), (12, some 0), (12, some 1), (12, some 2)] f g) (h0 : g 1 1 5 = f 1 0 5) (h1 : g 1 1 6 = f 1 0 6) (h2 : g 1 1 7 = f 1 0 7) (h3 : g 1 1 8 = f 1 0 8) (h4 : g 1 0 5 = f 1 0 5) (h5 : g 1 0 6 = f 1 0 6) (h6 : g 1 0 7 = f 1 0 7) (h7 : g 1 0 8 = f 1 0 8) (h8 : zcpd f g 7 24 0 (f 1 0 5).toInt.toNat 6 24) (h9 : zcpd f g 8 8 0 (f 1 0 6).toInt.toNat 5 8) (h10 : zcpd f g 11 12 0 (f 1 0 7).toInt.toNat 8 12) (h11 : zcpd f g 12 8 0 (f 1 0 8).toInt.toNat 3 8) (h12 : ∀ j, j < 7 → g 6 1 j = f 6 0 j) (h13 : ∀ j, j < 7 → g 6 0 j = f 6 0 j) (h14 : g 0 0 5 = 1) (h15 : zRl f → zRl g) : zRp (zim g) := by
  have z1 : ∀ n j, zim g 1 n j = g 1 n j := fun n j => zim_o g (by decide) (by decide) (by omega) (by omega)
  have z11 : ∀ n j, zim g 11 n j = g 11 n j := fun n j => zim_o g (by decide) (by decide) (by omega) (by omega)
  have z28 : ∀ j, zim g 28 0 j = g 28 0 j := fun j => zim_o g (by decide) (by decide) (by omega) (by omega)
  have bb : (f 1 0 7).toInt ≤ 12 := (hI 1 0 7).2
  refine ⟨?_, ?_, fun i j hi hj => ?_, fun i j hi hj => ?_⟩
  · rw [z1, h6, zim_25 g (by decide) (by decide), hF 25 0 4 rfl]; exact Rp.1
  · rw [z1, h2, zim_c2, hF 25 0 4 rfl]; exact Rp.1
  · rw [z1, h6] at hi
    have e := h10.2 i j (by omega) hj
    rw [Nat.zero_add] at e
    rw [z11, e, z28, hF 28 0 _ rfl]; exact Rp.2.2.1 i j hi hj
  · rw [z1, h2] at hi
    have e := h10.1 i j (by omega) hj
    rw [Nat.zero_add] at e
    rw [z11, e, zim_28 g (by omega), hF 28 0 _ rfl]; exact Rp.2.2.1 i j hi hj
theorem qd_restore_Rp {f g : zM} (hI : zInv f) (Rp : zRp f) (hF : zFr [(1, some 5), (1, some 6), (1, some 7), (1, some 8), (6, some 0), (6, some 1), (6, some 2), (6, some 3), (6, some 4), (6, some 5), (6, some 6), (7, some 0), (7, some 1), (7, some 2), (7, some 3), (7, some 4), (7, some 5), (8, some 0), (8, some 1), (8, some 2), (8, some 3), (8, some 4), (8, some 5), (8, some 6), (8, some 7), (9, none), (10, none), (11, some 0), (11, some 1), (11, some 2), (11, some 3), (11, some 4), (11, some 5), (11, some 6), (11, some 7), (12, some 0), (12, some 1), (12, some 2)] f g) (h0 : g 1 0 5 = f 1 1 5) (h1 : g 1 0 6 = f 1 1 6) (h2 : g 1 0 7 = f 1 1 7) (h3 : g 1 0 8 = f 1 1 8) (h4 : g 1 1 5 = f 1 1 5) (h5 : g 1 1 6 = f 1 1 6) (h6 : g 1 1 7 = f 1 1 7) (h7 : g 1 1 8 = f 1 1 8) (h8 : zcpd f g 7 0 24 (f 1 1 5).toInt.toNat 6 24) (h9 : zcpd f g 8 0 8 (f 1 1 6).toInt.toNat 5 8) (h10 : zcpd f g 11 0 12 (f 1 1 7).toInt.toNat 8 12) (h11 : zcpd f g 12 0 8 (f 1 1 8).toInt.toNat 3 8) (h12 : ∀ j, j < 7 → g 6 0 j = f 6 1 j) (h13 : ∀ j, j < 7 → g 6 1 j = f 6 1 j) (h14 : ∀ i, i < (f 1 1 6).toInt.toNat → zLk g i (fun k j => g 7 k j) (g 1 0 5).toInt.toNat) : zRp (zre g) := by
  have z1 : ∀ n j, zre g 1 n j = g 1 n j := fun n j => zre_o g (by omega) (by decide) (by decide)
  have z11 : ∀ n j, zre g 11 n j = g 11 n j := fun n j => zre_o g (by omega) (by decide) (by decide)
  have z39 : ∀ j, zre g 39 0 j = g 39 0 j := fun j => zre_o g (by omega) (by decide) (by decide)
  have bb : (f 1 1 7).toInt ≤ 12 := (hI 1 1 7).2
  refine ⟨?_, ?_, fun i j hi hj => ?_, fun i j hi hj => ?_⟩
  · rw [z1, h2, zre_c2, hF 39 0 _ rfl]; exact Rp.2.1
  · rw [z1, h6, z39, hF 39 0 _ rfl]; exact Rp.2.1
  · rw [z1, h2] at hi
    have e := h10.1 i j (by omega) hj
    rw [Nat.zero_add] at e
    rw [z11, e, zre_28 g (by omega), hF 39 0 _ rfl]; exact Rp.2.2.2 i j hi hj
  · rw [z1, h6] at hi
    have e := h10.2 i j (by omega) hj
    rw [z11, e, z39, hF 39 0 _ rfl]; exact Rp.2.2.2 i j hi hj
theorem qd_world {f g g2 : zM} {v v2 : Int32} {W : Nat ⊕ (List (Nat → Int32) × List (Nat → Int32))} (hI : zInv f) (Rq : zRq f) (Rp : zRp f) (hF : zFr [(1, some 5), (1, some 7), (7, some 0), (7, some 1), (7, some 2), (7, some 3), (7, some 4), (7, some 5), (8, some 5), (8, some 6), (8, some 7), (9, none), (10, none), (11, some 0), (11, some 1), (11, some 2), (11, some 3), (11, some 4), (11, some 5), (11, some 6), (11, some 7), (18, some 3), (18, some 4), (18, some 5), (18, some 6), (18, some 7)] f g) (hG : zFr [(25, some 0), (25, some 4), (25, some 16), (25, some 17), (25, some 18), (25, some 20), (26, none), (28, none), (37, none), (38, none)] g g2) (hP : zWx f g v W) (hQ : zWm g g2 v2 W) : v2 = v ∧ zRq g2 ∧ zRp g2 := by
  have e0 : g 25 0 0 = f 1 0 5 := (hF 25 0 0 rfl).trans Rq.1.symm
  have e4 : g 25 0 4 = f 1 0 7 := (hF 25 0 4 rfl).trans Rp.1.symm
  have k1 : ∀ n j, g2 1 n j = g 1 n j := fun n j => hG 1 n j rfl
  have k7 : ∀ n j, g2 7 n j = g 7 n j := fun n j => hG 7 n j rfl
  have k11 : ∀ n j, g2 11 n j = g 11 n j := fun n j => hG 11 n j rfl
  have k39 : ∀ j, g2 39 0 j = f 39 0 j := fun j => (hG 39 0 j rfl).trans (hF 39 0 j rfl)
  have hk : zKw f g → zKm g g2 → zRq g2 ∧ zRp g2 := fun k m => ⟨zRq_k hI Rq ((k1 _ _).trans k.1) ((k1 _ _).trans k.2.1) (m.1.trans (hF 25 0 0 rfl)) (fun x j hx hj => (k7 _ _).trans (k.2.2.2.2.1 x j hx hj)) (fun j => (m.2.2.1 j).trans (hF 26 0 j rfl)) k39, zRp_k hI Rp ((k1 _ _).trans k.2.2.1) ((k1 _ _).trans k.2.2.2.1) (m.2.1.trans (hF 25 0 4 rfl)) (fun x j hx hj => (k11 _ _).trans (k.2.2.2.2.2 x j hx hj)) (fun j => (m.2.2.2 j).trans (hF 28 0 j rfl)) k39⟩
  have b0 : 0 ≤ (f 1 0 5).toInt := (hI 1 0 5).1
  have b7 : 0 ≤ (f 1 0 7).toInt := (hI 1 0 7).1
  rcases W with e | ⟨cs, ps⟩
  · obtain ⟨p1, p2⟩ := hP
    obtain ⟨q1, q2⟩ := hQ
    exact ⟨(z32eq _ _).mpr (by omega), hk p2 q2⟩
  · simp only [zWx] at hP
    simp only [zWm] at hQ
    rw [e0, e4] at hQ
    rcases hP with ⟨p1, p2, p3⟩ | ⟨p1, p2, p3, p4, p5, p6, p7, p8⟩ <;> rcases hQ with ⟨q1, q2, q3⟩ | ⟨q1, q2, q3, q4, q5, q6⟩
    · exact ⟨q2.trans p2.symm, hk p3 q3⟩
    · exact absurd q1 p1
    · exact absurd p1 q1
    · refine ⟨(z32eq _ _).mpr (by omega), ⟨?_, ?_, fun i j hi hj => ?_, fun i j hi hj => ?_⟩, ⟨?_, ?_, fun i j hi hj => ?_, fun i j hi hj => ?_⟩⟩
      · rw [k1, z32eq]; omega
      · rw [k1, p5, k39]; exact Rq.2.1
      · rw [k1] at hi
        rw [k7]
        by_cases q : i < (f 1 0 5).toInt.toNat
        · rw [p7.2 i j (by omega) (Or.inl q) hj, q5.2 _ (by omega), hF 26 0 _ rfl]
          exact Rq.2.2.1 i j (by omega) hj
        · rw [show i = (f 1 0 5).toInt.toNat + (i - (f 1 0 5).toInt.toNat) by omega, p7.1 _ j (by omega) hj, q5.1 _ j (by omega) hj]
      · rw [k1, p5] at hi
        have b1 : (f 1 1 5).toInt ≤ 24 := (hI 1 1 5).2
        rw [k7, p7.2 (24 + i) j (by omega) (Or.inr (by omega)) hj, k39]
        exact Rq.2.2.2 i j hi hj
      · rw [k1, z32eq]; omega
      · rw [k1, p6, k39]; exact Rp.2.1
      · rw [k1] at hi
        rw [k11]
        by_cases q : i < (f 1 0 7).toInt.toNat
        · rw [p8.2 i j (by omega) (Or.inl q) hj, q6.2 _ (by omega), hF 28 0 _ rfl]
          exact Rp.2.2.1 i j (by omega) hj
        · rw [show i = (f 1 0 7).toInt.toNat + (i - (f 1 0 7).toInt.toNat) by omega, p8.1 _ j (by omega) hj, q6.1 _ j (by omega) hj]
      · rw [k1, p6] at hi
        have b1 : (f 1 1 7).toInt ≤ 12 := (hI 1 1 7).2
        rw [k11, p8.2 (12 + i) j (by omega) (Or.inr (by omega)) hj, k39]
        exact Rp.2.2.2 i j hi hj
