/-! ===== the relation of the two sides between the calls ===== -/
def zRi (f : zM) : Prop := f 0 0 5 = f 25 0 22
def zRc (f : zM) : Prop := f 1 0 6 = f 25 0 2 ∧ f 1 1 6 = f 39 0 1 ∧ f 1 0 8 = f 25 0 6 ∧ f 1 1 8 = f 39 0 3
def zRd (f : zM) : Prop := (∀ i j : Nat, (i : Int) < (f 1 0 6).toInt → j < 5 → f 8 i j = f 27 0 (5 * i + j)) ∧ (∀ i j : Nat, (i : Int) < (f 1 1 6).toInt → j < 5 → f 8 (8 + i) j = f 39 0 (148 + (5 * i + j)))
def zRt (f : zM) : Prop := f 18 0 3 = f 25 0 16 ∧ ∀ i : Nat, (i : Int) < (f 18 0 3).toInt → f 19 0 i = f 36 0 i
def zRs (f : zM) : Prop := ∀ s, s < 4 → f 23 s 1 = f 41 0 s ∧ f 23 s 2 = f 42 0 s ∧ ∀ i, i < 16 → f 24 s i = f 43 0 (16 * s + i)
def zRa (f : zM) : Prop := zRi f ∧ zRc f ∧ zRd f ∧ zRt f ∧ zRs f
theorem zRi_k {f g : zM} (h : zRi f) (a : g 0 0 5 = f 0 0 5) (b : g 25 0 22 = f 25 0 22) : zRi g := by
  unfold zRi; rw [a, b]; exact h
theorem zRc_k {f g : zM} (h : zRc f) (a1 : ∀ n, g 1 n 6 = f 1 n 6) (a2 : ∀ n, g 1 n 8 = f 1 n 8) (b1 : g 25 0 2 = f 25 0 2) (b2 : g 25 0 6 = f 25 0 6) (c : ∀ j, g 39 0 j = f 39 0 j) : zRc g := by
  unfold zRc; rw [a1, a1, a2, a2, b1, b2, c, c]; exact h
theorem zRd_k {f g : zM} (h : zRd f) (a1 : ∀ n, g 1 n 6 = f 1 n 6) (a : ∀ n j, j < 5 → g 8 n j = f 8 n j) (b : ∀ j, g 27 0 j = f 27 0 j) (c : ∀ j, g 39 0 j = f 39 0 j) : zRd g := by
  refine ⟨fun i j hi hj => ?_, fun i j hi hj => ?_⟩
  · rw [a1] at hi; rw [a _ _ hj, b]; exact h.1 i j hi hj
  · rw [a1] at hi; rw [a _ _ hj, c]; exact h.2 i j hi hj
theorem zRt_k {f g : zM} (h : zRt f) (a : g 18 0 3 = f 18 0 3) (b : g 25 0 16 = f 25 0 16) (c : ∀ i, g 19 0 i = f 19 0 i) (d : ∀ i, g 36 0 i = f 36 0 i) : zRt g := by
  refine ⟨by rw [a, b]; exact h.1, fun i hi => ?_⟩
  rw [a] at hi; rw [c, d]; exact h.2 i hi
theorem zRs_k {f g : zM} (h : zRs f) (a : ∀ s, g 23 s 1 = f 23 s 1) (b : ∀ s, g 23 s 2 = f 23 s 2) (c : ∀ s i, g 24 s i = f 24 s i) (d1 : ∀ i, g 41 0 i = f 41 0 i) (d2 : ∀ i, g 42 0 i = f 42 0 i) (d3 : ∀ i, g 43 0 i = f 43 0 i) : zRs g := by
  intro s hs
  obtain ⟨h1, h2, h3⟩ := h s hs
  refine ⟨by rw [a, d1]; exact h1, by rw [b, d2]; exact h2, fun i hi => ?_⟩
  rw [c, d3]; exact h3 i hi
theorem zRa_0 : zRa z0 := by
  refine ⟨rfl, ⟨rfl, rfl, rfl, rfl⟩, ⟨fun i j hi _ => ?_, fun i j hi _ => ?_⟩, ⟨rfl, fun i hi => ?_⟩, fun s hs => ?_⟩
  · rw [show z0 1 0 6 = 0 from rfl] at hi; exact absurd hi (by have : (0 : Int32).toInt = 0 := by decide
                                                               omega)
  · rw [show z0 1 1 6 = 0 from rfl] at hi; exact absurd hi (by have : (0 : Int32).toInt = 0 := by decide
                                                               omega)
  · rw [show z0 18 0 3 = 0 from rfl] at hi; exact absurd hi (by have : (0 : Int32).toInt = 0 := by decide
                                                                omega)
  · rcases (show s = 0 ∨ s = 1 ∨ s = 2 ∨ s = 3 by omega) with rfl | rfl | rfl | rfl <;> exact ⟨rfl, rfl, fun _ _ => rfl⟩

theorem qd_deed {f g g2 : zM} {v v2 : Int32} {a1 a2 a3 a4 : Int32} (hI : zInv f) (hg : zInv g) (Ri : zRi f) (Rc : zRc f) (Rd : zRd f) (Rt : zRt f) (Rs : zRs f) (hF : zFr [(1, some 6), (8, some 0), (8, some 1), (8, some 2), (8, some 3), (8, some 4), (8, some 5), (8, some 6), (8, some 7), (9, none), (10, none)] f g) (hG : zFr [(25, some 2), (27, none)] g g2) (hP : (¬ (1 ≤ a1.toInt ∧ a1.toInt ≤ 63 ∧ 0 ≤ a2.toInt ∧ a2.toInt ≤ 63 ∧ 0 ≤ a3.toInt ∧ a3.toInt ≤ 5 ∧ 0 ≤ a4.toInt ∧ a4.toInt ≤ 99) ∧ v = -1 ∧ g = f) ∨ ((1 ≤ a1.toInt ∧ a1.toInt ≤ 63 ∧ 0 ≤ a2.toInt ∧ a2.toInt ≤ 63 ∧ 0 ≤ a3.toInt ∧ a3.toInt ≤ 5 ∧ 0 ≤ a4.toInt ∧ a4.toInt ≤ 99) ∧ 8 ≤ (f 1 0 6).toInt ∧ v = -3 ∧ g = f) ∨ ((1 ≤ a1.toInt ∧ a1.toInt ≤ 63 ∧ 0 ≤ a2.toInt ∧ a2.toInt ≤ 63 ∧ 0 ≤ a3.toInt ∧ a3.toInt ≤ 5 ∧ 0 ≤ a4.toInt ∧ a4.toInt ≤ 99) ∧ (f 1 0 6).toInt < 8 ∧ v = f 1 0 6 ∧ g 1 0 6 = f 1 0 6 + 1 ∧ g 8 (f 1 0 6).toInt.toNat 0 = a1 ∧ g 8 (f 1 0 6).toInt.toNat 1 = a2 ∧ g 8 (f 1 0 6).toInt.toNat 2 = a3 ∧ g 8 (f 1 0 6).toInt.toNat 3 = a4 ∧ g 8 (f 1 0 6).toInt.toNat 4 = 0 ∧ (∀ i j, i ≠ (f 1 0 6).toInt.toNat → j < 5 → g 8 i j = f 8 i j) ∧ (∀ i j, j ≠ 6 → g 1 i j = f 1 i j) ∧ g 1 1 6 = f 1 1 6)) (hQ : (¬ (1 ≤ a1.toInt ∧ a1.toInt ≤ 63 ∧ 0 ≤ a2.toInt ∧ a2.toInt ≤ 63 ∧ 0 ≤ a3.toInt ∧ a3.toInt ≤ 5 ∧ 0 ≤ a4.toInt ∧ a4.toInt ≤ 99) ∧ v2 = -1 ∧ g2 = g) ∨ ((1 ≤ a1.toInt ∧ a1.toInt ≤ 63 ∧ 0 ≤ a2.toInt ∧ a2.toInt ≤ 63 ∧ 0 ≤ a3.toInt ∧ a3.toInt ≤ 5 ∧ 0 ≤ a4.toInt ∧ a4.toInt ≤ 99) ∧ 8 ≤ (g 25 0 2).toInt ∧ v2 = -3 ∧ g2 = g) ∨ ((1 ≤ a1.toInt ∧ a1.toInt ≤ 63 ∧ 0 ≤ a2.toInt ∧ a2.toInt ≤ 63 ∧ 0 ≤ a3.toInt ∧ a3.toInt ≤ 5 ∧ 0 ≤ a4.toInt ∧ a4.toInt ≤ 99) ∧ (g 25 0 2).toInt < 8 ∧ v2 = g 25 0 2 ∧ g2 25 0 2 = g 25 0 2 + 1 ∧ g2 27 0 (5 * (g 25 0 2).toInt.toNat) = a1 ∧ g2 27 0 (5 * (g 25 0 2).toInt.toNat + 1) = a2 ∧ g2 27 0 (5 * (g 25 0 2).toInt.toNat + 2) = a3 ∧ g2 27 0 (5 * (g 25 0 2).toInt.toNat + 3) = a4 ∧ g2 27 0 (5 * (g 25 0 2).toInt.toNat + 4) = 0 ∧ (∀ q, (q < 5 * (g 25 0 2).toInt.toNat ∨ 5 * (g 25 0 2).toInt.toNat + 5 ≤ q) → g2 27 0 q = g 27 0 q))) : v2 = v ∧ zRc g2 ∧ zRd g2 := by
  have e25 : g 25 0 2 = f 1 0 6 := (hF 25 0 2 rfl).trans Rc.1.symm
  rw [e25] at hQ
  have n0 : 0 ≤ (f 1 0 6).toInt := (hI 1 0 6).1
  rcases hP with ⟨p1, rfl, rfl⟩ | ⟨p1, p2, rfl, rfl⟩ | ⟨p1, p2, rfl, p3, c0, c1, c2, c3, c4, p4, p5, p6⟩ <;> rcases hQ with ⟨q1, rfl, rfl⟩ | ⟨q1, q2, rfl, rfl⟩ | ⟨q1, q2, q3, q4, d0, d1, d2, d3, d4, q5⟩
  · exact ⟨rfl, Rc, Rd⟩
  · exact absurd q1 p1
  · exact absurd q1 p1
  · exact absurd p1 q1
  · exact ⟨rfl, Rc, Rd⟩
  · omega
  · exact absurd p1 q1
  · omega
  · have k1 : ∀ n j, g2 1 n j = g 1 n j := fun n j => hG 1 n j rfl
    have k8 : ∀ n j, g2 8 n j = g 8 n j := fun n j => hG 8 n j rfl
    have k39 : ∀ j, g2 39 0 j = f 39 0 j := fun j => (hG 39 0 j rfl).trans (hF 39 0 j rfl)
    have k27 : ∀ j, g 27 0 j = f 27 0 j := fun j => hF 27 0 j rfl
    have es : (f 1 0 6 + 1 : Int32).toInt = (f 1 0 6).toInt + 1 := zadd_eb (x := f 1 0 6) (hI 1 0 6) (zB.of (x := 1) 1 (by decide)) (by decide) (by decide)
    refine ⟨q3, ⟨?_, ?_, ?_, ?_⟩, fun i j hi hj => ?_, fun i j hi hj => ?_⟩
    · rw [k1, p3, q4]
    · rw [k1, p6, k39]; exact Rc.2.1
    · rw [k1, p5 0 8 (by decide), hG 25 0 6 rfl, hF 25 0 6 rfl]; exact Rc.2.2.1
    · rw [k1, p5 1 8 (by decide), k39]; exact Rc.2.2.2
    · rw [k1, p3, es] at hi
      rw [k8]
      by_cases hn : i = (f 1 0 6).toInt.toNat
      · subst hn
        rcases (show j = 0 ∨ j = 1 ∨ j = 2 ∨ j = 3 ∨ j = 4 by omega) with rfl | rfl | rfl | rfl | rfl
        · rw [c0]; exact d0.symm
        · rw [c1]; exact d1.symm
        · rw [c2]; exact d2.symm
        · rw [c3]; exact d3.symm
        · rw [c4]; exact d4.symm
      · rw [p4 i j hn hj, q5 _ (by omega), k27]
        exact Rd.1 i j (by omega) hj
    · rw [k1, p6] at hi
      have hb : (f 1 1 6).toInt ≤ 8 := (hI 1 1 6).2
      rw [k8, p4 (8 + i) j (by omega) hj, k39]
      exact Rd.2 i j hi hj
theorem qd_judged {f g g2 : zM} {v v2 : Int32} {a1 a2 : Int32} (hI : zInv f) (hg : zInv g) (Ri : zRi f) (Rc : zRc f) (Rd : zRd f) (Rt : zRt f) (Rs : zRs f) (hF : zFr [(8, some 4)] f g) (hG : zFr [(27, none)] g g2) (hP : (¬ (0 ≤ a1.toInt ∧ a1.toInt < (f 1 0 6).toInt) ∧ v = -1 ∧ g = f) ∨ ((0 ≤ a1.toInt ∧ a1.toInt < (f 1 0 6).toInt) ∧ v = f 8 a1.toInt.toNat 4 ∧ g = zup f 8 a1.toInt.toNat 4 a2)) (hQ : (¬ (0 ≤ a1.toInt ∧ a1.toInt < (g 25 0 2).toInt) ∧ v2 = -1 ∧ g2 = g) ∨ ((0 ≤ a1.toInt ∧ a1.toInt < (g 25 0 2).toInt) ∧ v2 = g 27 0 (5 * a1.toInt.toNat + 4) ∧ g2 = zup g 27 0 (5 * a1.toInt.toNat + 4) a2)) : v2 = v ∧ zRd g2 := by
  have e25 : g 25 0 2 = f 1 0 6 := (hF 25 0 2 rfl).trans Rc.1.symm
  rw [e25] at hQ
  have n8 : (f 1 0 6).toInt ≤ 8 := (hI 1 0 6).2
  rcases hP with ⟨p1, rfl, rfl⟩ | ⟨p1, rfl, rfl⟩ <;> rcases hQ with ⟨q1, rfl, rfl⟩ | ⟨q1, rfl, rfl⟩
  · exact ⟨rfl, Rd⟩
  · exact absurd q1 p1
  · exact absurd p1 q1
  · refine ⟨?_, fun i j hi hj => ?_, fun i j hi hj => ?_⟩
    · rw [zup_ne _ _ (by omega)]
      exact (Rd.1 _ 4 (by omega) (by decide)).symm
    · have hi : (i : Int) < (f 1 0 6).toInt := hi
      by_cases h : i = a1.toInt.toNat ∧ j = 4
      · obtain ⟨rfl, rfl⟩ := h
        rw [zup_ne _ _ (by omega), zup_same, zup_same]
      · rw [zup_ne _ _ (by omega), zup_ne _ _ (by omega), zup_ne _ _ (by omega), zup_ne _ _ (by omega)]
        exact Rd.1 i j hi hj
    · have hi : (i : Int) < (f 1 1 6).toInt := hi
      rw [zup_ne _ _ (by omega), zup_ne _ _ (by omega), zup_ne _ _ (by omega), zup_ne _ _ (by omega)]
      exact Rd.2 i j hi hj
theorem qd_item {f g g2 : zM} {v v2 : Int32} {a1 a2 a3 a4 : Int32} (hI : zInv f) (hg : zInv g) (Ri : zRi f) (Rc : zRc f) (Rd : zRd f) (Rt : zRt f) (Rs : zRs f) (hF : zFr [(24, none)] f g) (hG : zFr [(43, none)] g g2) (hP : (¬ ((0 ≤ a1.toInt ∧ a1.toInt ≤ 3) ∧ (0 ≤ a2.toInt ∧ a2.toInt ≤ 2)) ∧ v = -1 ∧ g = f) ∨ (((0 ≤ a1.toInt ∧ a1.toInt ≤ 3) ∧ (0 ≤ a2.toInt ∧ a2.toInt ≤ 2)) ∧ (f 23 a1.toInt.toNat 1).toInt = -1 ∧ v = -11 ∧ g = f) ∨ (((0 ≤ a1.toInt ∧ a1.toInt ≤ 3) ∧ (0 ≤ a2.toInt ∧ a2.toInt ≤ 2)) ∧ ¬ (f 23 a1.toInt.toNat 1).toInt = -1 ∧ ¬ (f 23 a1.toInt.toNat 1) = a2 ∧ v = -12 ∧ g = f) ∨ (((0 ≤ a1.toInt ∧ a1.toInt ≤ 3) ∧ (0 ≤ a2.toInt ∧ a2.toInt ≤ 2)) ∧ ¬ (f 23 a1.toInt.toNat 1).toInt = -1 ∧ (f 23 a1.toInt.toNat 1) = a2 ∧ ¬ (0 ≤ a3.toInt ∧ a3.toInt < (f 23 a1.toInt.toNat 2).toInt) ∧ v = -13 ∧ g = f) ∨ (((0 ≤ a1.toInt ∧ a1.toInt ≤ 3) ∧ (0 ≤ a2.toInt ∧ a2.toInt ≤ 2)) ∧ ¬ (f 23 a1.toInt.toNat 1).toInt = -1 ∧ (f 23 a1.toInt.toNat 1) = a2 ∧ (0 ≤ a3.toInt ∧ a3.toInt < (f 23 a1.toInt.toNat 2).toInt) ∧ v = 1 ∧ g = zup f 24 a1.toInt.toNat a3.toInt.toNat (znar a2 a4))) (hQ : (¬ ((0 ≤ a1.toInt ∧ a1.toInt ≤ 3) ∧ (0 ≤ a2.toInt ∧ a2.toInt ≤ 2)) ∧ v2 = -1 ∧ g2 = g) ∨ (((0 ≤ a1.toInt ∧ a1.toInt ≤ 3) ∧ (0 ≤ a2.toInt ∧ a2.toInt ≤ 2)) ∧ (g 41 0 a1.toInt.toNat).toInt < 0 ∧ v2 = -11 ∧ g2 = g) ∨ (((0 ≤ a1.toInt ∧ a1.toInt ≤ 3) ∧ (0 ≤ a2.toInt ∧ a2.toInt ≤ 2)) ∧ ¬ (g 41 0 a1.toInt.toNat).toInt < 0 ∧ ¬ (g 41 0 a1.toInt.toNat) = a2 ∧ v2 = -12 ∧ g2 = g) ∨ (((0 ≤ a1.toInt ∧ a1.toInt ≤ 3) ∧ (0 ≤ a2.toInt ∧ a2.toInt ≤ 2)) ∧ ¬ (g 41 0 a1.toInt.toNat).toInt < 0 ∧ (g 41 0 a1.toInt.toNat) = a2 ∧ ¬ (0 ≤ a3.toInt ∧ a3.toInt < (g 42 0 a1.toInt.toNat).toInt) ∧ v2 = -13 ∧ g2 = g) ∨ (((0 ≤ a1.toInt ∧ a1.toInt ≤ 3) ∧ (0 ≤ a2.toInt ∧ a2.toInt ≤ 2)) ∧ ¬ (g 41 0 a1.toInt.toNat).toInt < 0 ∧ (g 41 0 a1.toInt.toNat) = a2 ∧ (0 ≤ a3.toInt ∧ a3.toInt < (g 42 0 a1.toInt.toNat).toInt) ∧ v2 = 1 ∧ g2 = zup g 43 0 (16 * a1.toInt.toNat + a3.toInt.toNat) (znar a2 a4))) : v2 = v ∧ zRs g2 := by
  by_cases hs : 0 ≤ a1.toInt ∧ a1.toInt ≤ 3
  · obtain ⟨r1, r2, r3⟩ := Rs a1.toInt.toNat (by omega)
    have e1 : g 41 0 a1.toInt.toNat = f 23 a1.toInt.toNat 1 := (hF 41 0 _ rfl).trans r1.symm
    have e2 : g 42 0 a1.toInt.toNat = f 23 a1.toInt.toNat 2 := (hF 42 0 _ rfl).trans r2.symm
    rw [e1, e2] at hQ
    have b1 : -1 ≤ (f 23 a1.toInt.toNat 1).toInt := (hI 23 a1.toInt.toNat 1).1
    have b2 : (f 23 a1.toInt.toNat 2).toInt ≤ 16 := (hI 23 a1.toInt.toNat 2).2
    rcases hP with ⟨p1, rfl, rfl⟩ | ⟨p1, p2, rfl, rfl⟩ | ⟨p1, p2, p3, rfl, rfl⟩ | ⟨p1, p2, p3, p4, rfl, rfl⟩ | ⟨p1, p2, p3, p4, rfl, rfl⟩ <;> rcases hQ with ⟨q1, rfl, rfl⟩ | ⟨q1, q2, rfl, rfl⟩ | ⟨q1, q2, q3, rfl, rfl⟩ | ⟨q1, q2, q3, q4, rfl, rfl⟩ | ⟨q1, q2, q3, q4, rfl, rfl⟩
    all_goals first
      | exact ⟨rfl, Rs⟩
      | (exfalso; omega)
      | (exact absurd q3 p3)
      | (exact absurd p3 q3)
      | skip
    refine ⟨rfl, fun s hs2 => ?_⟩
    obtain ⟨t1, t2, t3⟩ := Rs s hs2
    refine ⟨?_, ?_, fun i hi => ?_⟩
    · rw [zup_ne _ _ (by omega), zup_ne _ _ (by omega), zup_ne _ _ (by omega), zup_ne _ _ (by omega)]; exact t1
    · rw [zup_ne _ _ (by omega), zup_ne _ _ (by omega), zup_ne _ _ (by omega), zup_ne _ _ (by omega)]; exact t2
    · by_cases h : s = a1.toInt.toNat ∧ i = a3.toInt.toNat
      · obtain ⟨rfl, rfl⟩ := h
        rw [zup_ne _ _ (by omega), zup_same, zup_same]
      · rw [zup_ne _ _ (by omega), zup_ne _ _ (by omega), zup_ne _ _ (by omega), zup_ne _ _ (by omega)]; exact t3 i hi
  · rcases hP with ⟨p1, rfl, rfl⟩ | ⟨p1, _⟩ | ⟨p1, _⟩ | ⟨p1, _⟩ | ⟨p1, _⟩
    · rcases hQ with ⟨q1, rfl, rfl⟩ | ⟨q1, _⟩ | ⟨q1, _⟩ | ⟨q1, _⟩ | ⟨q1, _⟩
      · exact ⟨rfl, Rs⟩
      all_goals exact absurd q1.1 hs
    all_goals exact absurd p1.1 hs
theorem qd_shows {f g g2 : zM} {v v2 : Int32} {a1 a2 a3 a4 : Int32} (hI : zInv f) (hg : zInv g) (Ri : zRi f) (Rc : zRc f) (Rd : zRd f) (Rt : zRt f) (Rs : zRs f) (hF : zFr [(8, some 1), (8, some 5), (8, some 6), (8, some 7), (9, none), (10, none)] f g) (hG : zFr [(27, none)] g g2) (hP : (¬ ((0 ≤ a1.toInt ∧ a1.toInt < (f 1 0 6).toInt) ∧ (0 ≤ a2.toInt ∧ a2.toInt ≤ 3) ∧ (0 ≤ a3.toInt ∧ a3.toInt ≤ 2)) ∧ v = -1 ∧ g = f) ∨ (((0 ≤ a1.toInt ∧ a1.toInt < (f 1 0 6).toInt) ∧ (0 ≤ a2.toInt ∧ a2.toInt ≤ 3) ∧ (0 ≤ a3.toInt ∧ a3.toInt ≤ 2)) ∧ (f 23 a2.toInt.toNat 1).toInt = -1 ∧ v = -11 ∧ g = f) ∨ (((0 ≤ a1.toInt ∧ a1.toInt < (f 1 0 6).toInt) ∧ (0 ≤ a2.toInt ∧ a2.toInt ≤ 3) ∧ (0 ≤ a3.toInt ∧ a3.toInt ≤ 2)) ∧ ¬ (f 23 a2.toInt.toNat 1).toInt = -1 ∧ ¬ (f 23 a2.toInt.toNat 1) = a3 ∧ v = -12 ∧ g = f) ∨ (((0 ≤ a1.toInt ∧ a1.toInt < (f 1 0 6).toInt) ∧ (0 ≤ a2.toInt ∧ a2.toInt ≤ 3) ∧ (0 ≤ a3.toInt ∧ a3.toInt ≤ 2)) ∧ ¬ (f 23 a2.toInt.toNat 1).toInt = -1 ∧ (f 23 a2.toInt.toNat 1) = a3 ∧ ¬ (0 ≤ a4.toInt ∧ a4.toInt ≤ (f 23 a2.toInt.toNat 2).toInt - 6) ∧ v = -13 ∧ g = f) ∨ (((0 ≤ a1.toInt ∧ a1.toInt < (f 1 0 6).toInt) ∧ (0 ≤ a2.toInt ∧ a2.toInt ≤ 3) ∧ (0 ≤ a3.toInt ∧ a3.toInt ≤ 2)) ∧ ¬ (f 23 a2.toInt.toNat 1).toInt = -1 ∧ (f 23 a2.toInt.toNat 1) = a3 ∧ (0 ≤ a4.toInt ∧ a4.toInt ≤ (f 23 a2.toInt.toNat 2).toInt - 6) ∧ v = f 8 a1.toInt.toNat 1 ∧ g 8 a1.toInt.toNat 1 = zmk (f 24 a2.toInt.toNat) a4.toInt.toNat 6 ∧ (∀ i j, ¬ (i = a1.toInt.toNat ∧ j = 1) → j < 5 → g 8 i j = f 8 i j))) (hQ : (¬ ((0 ≤ a1.toInt ∧ a1.toInt < (g 25 0 2).toInt) ∧ (0 ≤ a2.toInt ∧ a2.toInt ≤ 3) ∧ (0 ≤ a3.toInt ∧ a3.toInt ≤ 2)) ∧ v2 = -1 ∧ g2 = g) ∨ (((0 ≤ a1.toInt ∧ a1.toInt < (g 25 0 2).toInt) ∧ (0 ≤ a2.toInt ∧ a2.toInt ≤ 3) ∧ (0 ≤ a3.toInt ∧ a3.toInt ≤ 2)) ∧ (g 41 0 a2.toInt.toNat).toInt < 0 ∧ v2 = -11 ∧ g2 = g) ∨ (((0 ≤ a1.toInt ∧ a1.toInt < (g 25 0 2).toInt) ∧ (0 ≤ a2.toInt ∧ a2.toInt ≤ 3) ∧ (0 ≤ a3.toInt ∧ a3.toInt ≤ 2)) ∧ ¬ (g 41 0 a2.toInt.toNat).toInt < 0 ∧ ¬ (g 41 0 a2.toInt.toNat) = a3 ∧ v2 = -12 ∧ g2 = g) ∨ (((0 ≤ a1.toInt ∧ a1.toInt < (g 25 0 2).toInt) ∧ (0 ≤ a2.toInt ∧ a2.toInt ≤ 3) ∧ (0 ≤ a3.toInt ∧ a3.toInt ≤ 2)) ∧ ¬ (g 41 0 a2.toInt.toNat).toInt < 0 ∧ (g 41 0 a2.toInt.toNat) = a3 ∧ ¬ (0 ≤ a4.toInt ∧ a4.toInt ≤ (g 42 0 a2.toInt.toNat).toInt - 6) ∧ v2 = -13 ∧ g2 = g) ∨ (((0 ≤ a1.toInt ∧ a1.toInt < (g 25 0 2).toInt) ∧ (0 ≤ a2.toInt ∧ a2.toInt ≤ 3) ∧ (0 ≤ a3.toInt ∧ a3.toInt ≤ 2)) ∧ ¬ (g 41 0 a2.toInt.toNat).toInt < 0 ∧ (g 41 0 a2.toInt.toNat) = a3 ∧ (0 ≤ a4.toInt ∧ a4.toInt ≤ (g 42 0 a2.toInt.toNat).toInt - 6) ∧ v2 = g 27 0 (5 * a1.toInt.toNat + 1) ∧ g2 = zup g 27 0 (5 * a1.toInt.toNat + 1) (zmk (g 43 0) (16 * a2.toInt.toNat + a4.toInt.toNat) 6))) : v2 = v ∧ zRd g2 := by
  have e25 : g 25 0 2 = f 1 0 6 := (hF 25 0 2 rfl).trans Rc.1.symm
  rw [e25] at hQ
  have n8 : (f 1 0 6).toInt ≤ 8 := (hI 1 0 6).2
  by_cases hs : 0 ≤ a2.toInt ∧ a2.toInt ≤ 3
  · obtain ⟨r1, r2, r3⟩ := Rs a2.toInt.toNat (by omega)
    have e1 : g 41 0 a2.toInt.toNat = f 23 a2.toInt.toNat 1 := (hF 41 0 _ rfl).trans r1.symm
    have e2 : g 42 0 a2.toInt.toNat = f 23 a2.toInt.toNat 2 := (hF 42 0 _ rfl).trans r2.symm
    rw [e1, e2] at hQ
    have b1 : -1 ≤ (f 23 a2.toInt.toNat 1).toInt := (hI 23 a2.toInt.toNat 1).1
    have b2 : (f 23 a2.toInt.toNat 2).toInt ≤ 16 := (hI 23 a2.toInt.toNat 2).2
    rcases hP with ⟨p1, rfl, rfl⟩ | ⟨p1, p2, rfl, rfl⟩ | ⟨p1, p2, p3, rfl, rfl⟩ | ⟨p1, p2, p3, p4, rfl, rfl⟩ | ⟨p1, p2, p3, p4, rfl, p5, p6⟩ <;> rcases hQ with ⟨q1, rfl, rfl⟩ | ⟨q1, q2, rfl, rfl⟩ | ⟨q1, q2, q3, rfl, rfl⟩ | ⟨q1, q2, q3, q4, rfl, rfl⟩ | ⟨q1, q2, q3, q4, rfl, rfl⟩
    all_goals first
      | exact ⟨rfl, Rd⟩
      | (exfalso; omega)
      | (exact absurd q3 p3)
      | (exact absurd p3 q3)
      | skip
    have k27 : ∀ j, g 27 0 j = f 27 0 j := fun j => hF 27 0 j rfl
    have km : zmk (f 24 a2.toInt.toNat) a4.toInt.toNat 6 = zmk (g 43 0) (16 * a2.toInt.toNat + a4.toInt.toNat) 6 := by
      refine zmk_congr 6 (fun k hk => ?_)
      rw [hF 43 0 _ rfl, r3 _ (by omega)]
      congr 1
      omega
    refine ⟨?_, fun i j hi hj => ?_, fun i j hi hj => ?_⟩
    · rw [k27]; exact (Rd.1 _ 1 (by omega) (by decide)).symm
    · have hi : (i : Int) < (f 1 0 6).toInt := by rw [zup_ne _ _ (by omega), hF 1 0 6 rfl] at hi; exact hi
      rw [zup_ne _ _ (by omega)]
      by_cases h : i = a1.toInt.toNat ∧ j = 1
      · obtain ⟨rfl, rfl⟩ := h
        rw [p5, km, zup_same]
      · rw [p6 i j h hj, zup_ne _ _ (by omega), k27]
        exact Rd.1 i j hi hj
    · have hi : (i : Int) < (f 1 1 6).toInt := by rw [zup_ne _ _ (by omega), hF 1 1 6 rfl] at hi; exact hi
      rw [zup_ne _ _ (by omega), p6 (8 + i) j (by omega) hj, zup_ne _ _ (by omega), hF 39 0 _ rfl]
      exact Rd.2 i j hi hj
  · rcases hP with ⟨p1, rfl, rfl⟩ | ⟨p1, _⟩ | ⟨p1, _⟩ | ⟨p1, _⟩ | ⟨p1, _⟩
    · rcases hQ with ⟨q1, rfl, rfl⟩ | ⟨q1, _⟩ | ⟨q1, _⟩ | ⟨q1, _⟩ | ⟨q1, _⟩
      · exact ⟨rfl, Rd⟩
      all_goals exact absurd q1.2.1 hs
    all_goals exact absurd p1.2.1 hs
theorem qd_demand {f g g2 : zM} {v v2 : Int32} {a1 a2 a3 : Int32} (hI : zInv f) (hg : zInv g) (Ri : zRi f) (Rc : zRc f) (Rd : zRd f) (Rt : zRt f) (Rs : zRs f) (hF : zFr [(1, some 8), (12, some 0), (12, some 1), (12, some 2)] f g) (hG : zFr [(25, some 6), (29, none)] g g2) (hP : (¬ ((0 ≤ a1.toInt ∧ a1.toInt ≤ 5) ∧ (1 ≤ a2.toInt ∧ a2.toInt ≤ ((1 <<< (f 1 0 6 &&& 31)) - 1 : Int32).toInt) ∧ (0 ≤ a3.toInt ∧ a3.toInt ≤ 99)) ∧ v = -1 ∧ g = f) ∨ (((0 ≤ a1.toInt ∧ a1.toInt ≤ 5) ∧ (1 ≤ a2.toInt ∧ a2.toInt ≤ ((1 <<< (f 1 0 6 &&& 31)) - 1 : Int32).toInt) ∧ (0 ≤ a3.toInt ∧ a3.toInt ≤ 99)) ∧ 8 ≤ (f 1 0 8).toInt ∧ v = -3 ∧ g = f) ∨ (((0 ≤ a1.toInt ∧ a1.toInt ≤ 5) ∧ (1 ≤ a2.toInt ∧ a2.toInt ≤ ((1 <<< (f 1 0 6 &&& 31)) - 1 : Int32).toInt) ∧ (0 ≤ a3.toInt ∧ a3.toInt ≤ 99)) ∧ (f 1 0 8).toInt < 8 ∧ v = f 1 0 8 ∧ g = zup (zup (zup (zup f 12 (f 1 0 8).toInt.toNat 0 a1) 12 (f 1 0 8).toInt.toNat 1 a2) 12 (f 1 0 8).toInt.toNat 2 a3) 1 0 8 (f 1 0 8 + 1))) (hQ : (¬ ((0 ≤ a1.toInt ∧ a1.toInt ≤ 5) ∧ (1 ≤ a2.toInt ∧ a2.toInt ≤ ((1 <<< (g 25 0 2 &&& 31)) - 1 : Int32).toInt) ∧ (0 ≤ a3.toInt ∧ a3.toInt ≤ 99)) ∧ v2 = -1 ∧ g2 = g) ∨ (((0 ≤ a1.toInt ∧ a1.toInt ≤ 5) ∧ (1 ≤ a2.toInt ∧ a2.toInt ≤ ((1 <<< (g 25 0 2 &&& 31)) - 1 : Int32).toInt) ∧ (0 ≤ a3.toInt ∧ a3.toInt ≤ 99)) ∧ 8 ≤ (g 25 0 6).toInt ∧ v2 = -3 ∧ g2 = g) ∨ (((0 ≤ a1.toInt ∧ a1.toInt ≤ 5) ∧ (1 ≤ a2.toInt ∧ a2.toInt ≤ ((1 <<< (g 25 0 2 &&& 31)) - 1 : Int32).toInt) ∧ (0 ≤ a3.toInt ∧ a3.toInt ≤ 99)) ∧ (g 25 0 6).toInt < 8 ∧ v2 = g 25 0 6 ∧ g2 25 0 6 = g 25 0 6 + 1 ∧ g2 29 0 (3 * (g 25 0 6).toInt.toNat) = a1 ∧ g2 29 0 (3 * (g 25 0 6).toInt.toNat + 1) = a2 ∧ g2 29 0 (3 * (g 25 0 6).toInt.toNat + 2) = a3 ∧ (∀ q, (q < 3 * (g 25 0 6).toInt.toNat ∨ 3 * (g 25 0 6).toInt.toNat + 3 ≤ q) → g2 29 0 q = g 29 0 q))) : v2 = v ∧ zRc g2 := by
  have e25 : g 25 0 2 = f 1 0 6 := (hF 25 0 2 rfl).trans Rc.1.symm
  have e26 : g 25 0 6 = f 1 0 8 := (hF 25 0 6 rfl).trans Rc.2.2.1.symm
  rw [e25, e26] at hQ
  rcases hP with ⟨p1, rfl, rfl⟩ | ⟨p1, p2, rfl, rfl⟩ | ⟨p1, p2, rfl, p3⟩ <;> rcases hQ with ⟨q1, rfl, rfl⟩ | ⟨q1, q2, rfl, rfl⟩ | ⟨q1, q2, q3, q4, d0, d1, d2, q5⟩
  · exact ⟨rfl, Rc⟩
  · exact absurd q1 p1
  · exact absurd q1 p1
  · exact absurd p1 q1
  · exact ⟨rfl, Rc⟩
  · omega
  · exact absurd p1 q1
  · omega
  · refine ⟨q3, ?_, ?_, ?_, ?_⟩
    · rw [hG 1 0 6 rfl, hF 1 0 6 rfl, hG 25 0 2 rfl, e25]
    · rw [hG 1 1 6 rfl, hF 1 1 6 rfl, hG 39 0 1 rfl, hF 39 0 1 rfl]; exact Rc.2.1
    · rw [hG 1 0 8 rfl, p3, zup_same, q4]
    · have h11 : g 1 1 8 = f 1 1 8 := by rw [p3, zup_ne _ _ (by omega), zup_ne _ _ (by omega), zup_ne _ _ (by omega), zup_ne _ _ (by omega)]
      rw [hG 1 1 8 rfl, h11, hG 39 0 3 rfl, hF 39 0 3 rfl]; exact Rc.2.2.2
