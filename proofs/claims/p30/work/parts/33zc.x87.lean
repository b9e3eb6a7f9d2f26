theorem zRm_e {f : zM} (Rm : zRm f) : f 6 0 0 = f 30 0 0 ∧ f 6 0 1 = f 30 0 1 ∧ f 6 0 2 = f 30 0 2 ∧ f 6 0 3 = f 30 0 6 ∧ f 6 0 4 = f 30 0 3 ∧ f 6 0 5 = f 30 0 4 ∧ f 6 0 6 = f 30 0 5 ∧ ((f 6 0 5).toInt = -4 ∨ 0 ≤ (f 6 0 5).toInt) := Rm.1
theorem zdead_r {f : zM} (hI : zInv f) (Rd : zRd f) (Rq : zRq f) (Rp : zRp f) (Rl : zRl f) {p d : Nat} (hp : (p : Int) < (f 1 0 7).toInt) (hd : (d : Int) < (f 1 0 6).toInt) : bt (f 8 d 7) (f 11 p 2).toInt.toNat = true ↔ zdy (fun k j => f 26 0 (6 * k + j)) (f 27 0 (5 * d + 0)) (f 28 0 (8 * p + 2)) (f 25 0 0).toInt.toNat := by
  have u0 : (f 1 0 5).toInt ≤ 24 := (hI 1 0 5).2
  have r2 : 0 ≤ (f 11 p 2).toInt ∧ (f 11 p 2).toInt ≤ 5 := hI 11 p 2
  obtain ⟨_, _, l3, _, _⟩ := Rl d hd
  have hC : ∀ q j, q < (f 1 0 5).toInt.toNat → j < 6 → (fun k j => f 26 0 (6 * k + j)) q j = (fun k j => f 7 k j) q j := fun i j hi hj => (Rq.2.2.1 i j (by omega) hj).symm
  have hb := zdl_bit (C := fun k j => f 7 k j) (m := f 8 d 0) (a := (f 11 p 2).toInt.toNat) (by omega) (f 1 0 5).toInt.toNat (fun k _ => ⟨hI 7 k 0, hI 7 k 5⟩)
  rw [← (nI_ofI r2.1).1] at hb
  rw [l3, hb, ← Rp.2.2.1 p 2 hp (by decide), ← Rd.1 d 0 hd (by decide), ← Rq.1]
  exact (zdy_congr hC).symm
theorem zbx_r {f : zM} (hI : zInv f) (Rd : zRd f) (Rq : zRq f) (Rp : zRp f) (Rl : zRl f) (Rm : zRm f) {p d : Nat} (hp : (p : Int) < (f 1 0 7).toInt) (hd : (d : Int) < (f 1 0 6).toInt) : zbx f p d = zsr f p d := by
  obtain ⟨m0, m1, m2, m3, m4, m5, m6, m7⟩ := zRm_e Rm
  have e1 := Rp.2.2.1 p 1 hp (by decide)
  have e5 := Rp.2.2.1 p 5 hp (by decide)
  have e6 := Rp.2.2.1 p 6 hp (by decide)
  have e7 := Rp.2.2.1 p 7 hp (by decide)
  have d0 := Rd.1 d 0 hd (by decide)
  have d2 := Rd.1 d 2 hd (by decide)
  have d3 := Rd.1 d 3 hd (by decide)
  have d4 := Rd.1 d 4 hd (by decide)
  have b4 : 0 ≤ (f 8 d 4).toInt ∧ (f 8 d 4).toInt ≤ 1 := hI 8 d 4
  have b6 : 0 ≤ (f 11 p 6).toInt := (hI 11 p 6).1
  have c0 : (0 : Int32).toInt = 0 := by decide
  have c1 : (1 : Int32).toInt = 1 := by decide
  have h2 : (¬ f 8 d 4 = 0) ↔ f 27 0 (5 * d + 4) = 1 := by rw [← d4, z32eq, z32eq, c0, c1]; omega
  have h4 : (bt (f 8 d 7) (f 11 p 2).toInt.toNat = true ∧ f 11 p 7 &&& 1 = 0) ↔ (zdy (fun k j => f 26 0 (6 * k + j)) (f 27 0 (5 * d + 0)) (f 28 0 (8 * p + 2)) (f 25 0 0).toInt.toNat ∧ f 28 0 (8 * p + 7) &&& 1 = 0) := by rw [zdead_r hI Rd Rq Rp Rl hp hd, e7]
  have h6 : (¬ f 11 p 6 = 0 ∧ (f 11 p 6).toInt < (f 6 0 2).toInt - (f 8 d 3).toInt) ↔ (0 < (f 28 0 (8 * p + 6)).toInt ∧ (f 28 0 (8 * p + 6)).toInt < (f 30 0 2).toInt - (f 27 0 (5 * d + 3)).toInt) := by rw [← e6, ← d3, ← m2, z32eq, c0]; omega
  unfold zbx zsr zst
  rw [zt_c h2, zt_c h4, zt_c h6, m0, e1, d0, d2, e5]

theorem qd_barred {f g g2 : zM} {v v2 : Int32} {a1 a2 : Int32} (hI : zInv f) (hg : zInv g) (Rc : zRc f) (Rd : zRd f) (Rq : zRq f) (Rp : zRp f) (Rl : zRl f) (Rn : zRn f) (Rm : zRm f) (hF : zFr [] f g) (hG : zFr [] g g2) (hP : (¬ ((0 ≤ a1.toInt ∧ a1.toInt < (f 1 0 7).toInt) ∧ (0 ≤ a2.toInt ∧ a2.toInt < (f 1 0 6).toInt)) ∧ v = -1) ∨ (((0 ≤ a1.toInt ∧ a1.toInt < (f 1 0 7).toInt) ∧ (0 ≤ a2.toInt ∧ a2.toInt < (f 1 0 6).toInt)) ∧ v = zbx f a1.toInt.toNat a2.toInt.toNat)) (hQ : (¬ ((0 ≤ a1.toInt ∧ a1.toInt < (g 25 0 4).toInt) ∧ (0 ≤ a2.toInt ∧ a2.toInt < (g 25 0 2).toInt)) ∧ v2 = -1) ∨ (((0 ≤ a1.toInt ∧ a1.toInt < (g 25 0 4).toInt) ∧ (0 ≤ a2.toInt ∧ a2.toInt < (g 25 0 2).toInt)) ∧ v2 = zsr g a1.toInt.toNat a2.toInt.toNat)) : v2 = v := by
  obtain rfl := zFr_nil hF
  obtain rfl := zFr_nil hG
  rw [← Rp.1, ← Rc.1] at hQ
  rcases hP with ⟨p1, rfl⟩ | ⟨p1, rfl⟩ <;> rcases hQ with ⟨q1, rfl⟩ | ⟨q1, rfl⟩
  · rfl
  · exact absurd q1 p1
  · exact absurd p1 q1
  · exact (zbx_r hI Rd Rq Rp Rl Rm (by omega) (by omega)).symm
theorem qd_bound {f g g2 : zM} {v v2 : Int32} {a1 : Int32} (hI : zInv f) (hg : zInv g) (Rc : zRc f) (Rd : zRd f) (Rq : zRq f) (Rp : zRp f) (Rl : zRl f) (Rn : zRn f) (Rm : zRm f) (hF : zFr [] f g) (hG : zFr [] g g2) (hP : (a1.toInt = 0 ∧ v = f 6 0 4) ∨ (a1.toInt = 1 ∧ v = f 6 0 5) ∨ (a1.toInt = 2 ∧ v = f 6 0 6 &&& ((1 <<< (f 1 0 6 &&& 31)) - 1)) ∨ (a1.toInt = 3 ∧ v = f 6 0 1) ∨ ((a1.toInt < 0 ∨ 3 < a1.toInt) ∧ v = -1)) (hQ : (a1.toInt = 0 ∧ v2 = g 30 0 3) ∨ (a1.toInt = 1 ∧ v2 = g 30 0 4) ∨ (a1.toInt = 2 ∧ v2 = g 30 0 5 &&& ((1 <<< (g 25 0 2 &&& 31)) - 1)) ∨ (a1.toInt = 3 ∧ v2 = g 30 0 1) ∨ ((a1.toInt < 0 ∨ 3 < a1.toInt) ∧ v2 = -1)) : v2 = v := by
  obtain ⟨m0, m1, m2, m3, m4, m5, m6, m7⟩ := zRm_e Rm
  obtain rfl := zFr_nil hF
  obtain rfl := zFr_nil hG
  rw [← m4, ← m5, ← m6, ← m1, ← Rc.1] at hQ
  rcases hP with ⟨p1, p2⟩ | ⟨p1, p2⟩ | ⟨p1, p2⟩ | ⟨p1, p2⟩ | ⟨p1, p2⟩ <;> rcases hQ with ⟨q1, q2⟩ | ⟨q1, q2⟩ | ⟨q1, q2⟩ | ⟨q1, q2⟩ | ⟨q1, q2⟩ <;> first | exact q2.trans p2.symm | (exfalso; omega)
theorem qd_count {f g g2 : zM} {v v2 : Int32} {a1 : Int32} (hI : zInv f) (hg : zInv g) (Rc : zRc f) (Rd : zRd f) (Rq : zRq f) (Rp : zRp f) (Rl : zRl f) (Rn : zRn f) (Rm : zRm f) (hF : zFr [] f g) (hG : zFr [] g g2) (hP : (a1.toInt = 0 ∧ v = f 1 0 5) ∨ (a1.toInt = 1 ∧ v = f 1 0 6) ∨ (a1.toInt = 2 ∧ v = f 1 0 7) ∨ (a1.toInt = 3 ∧ v = f 1 0 8) ∨ (a1.toInt = 4 ∧ v = f 6 0 3) ∨ ((a1.toInt < 0 ∨ 4 < a1.toInt) ∧ v = -1)) (hQ : (a1.toInt = 0 ∧ v2 = g 25 0 0) ∨ (a1.toInt = 1 ∧ v2 = g 25 0 2) ∨ (a1.toInt = 2 ∧ v2 = g 25 0 4) ∨ (a1.toInt = 3 ∧ v2 = g 25 0 6) ∨ (a1.toInt = 4 ∧ v2 = g 30 0 6) ∨ ((a1.toInt < 0 ∨ 4 < a1.toInt) ∧ v2 = -1)) : v2 = v := by
  obtain ⟨m0, m1, m2, m3, m4, m5, m6, m7⟩ := zRm_e Rm
  obtain rfl := zFr_nil hF
  obtain rfl := zFr_nil hG
  rw [← Rq.1, ← Rc.1, ← Rp.1, ← Rc.2.2.1, ← m3] at hQ
  rcases hP with ⟨p1, p2⟩ | ⟨p1, p2⟩ | ⟨p1, p2⟩ | ⟨p1, p2⟩ | ⟨p1, p2⟩ | ⟨p1, p2⟩ <;> rcases hQ with ⟨q1, q2⟩ | ⟨q1, q2⟩ | ⟨q1, q2⟩ | ⟨q1, q2⟩ | ⟨q1, q2⟩ | ⟨q1, q2⟩ <;> first | exact q2.trans p2.symm | (exfalso; omega)
theorem qd_tried {f g g2 : zM} {v v2 : Int32} (hI : zInv f) (hg : zInv g) (Rc : zRc f) (Rd : zRd f) (Rq : zRq f) (Rp : zRp f) (Rl : zRl f) (Rn : zRn f) (Rm : zRm f) (Ro : zRo f) (hF : zFr [] f g) (hG : zFr [] g g2) (hP : v = zbf (fun i => 0 < (f 9 i (f 6 0 1).toInt.toNat).toInt ∧ f 8 i 4 = 0) (f 1 0 6).toInt.toNat &&& f 6 0 6) (hQ : v2 = zbf (fun i => (¬ zcw (fun k j => g 26 0 (6 * k + j)) (g 27 0 (5 * i + 0)) (g 30 0 1) (g 25 0 0).toInt.toNat = 0 ∧ g 27 0 (5 * i + 4) = 0 ∧ bt (g 30 0 5) i = true)) (g 25 0 2).toInt.toNat) : v2 = v := by
  obtain ⟨m0, m1, m2, m3, m4, m5, m6, m7⟩ := zRm_e Rm
  obtain rfl := zFr_nil hF
  obtain rfl := zFr_nil hG
  have b8 : (f 1 0 6).toInt ≤ 8 := (hI 1 0 6).2
  have u0 : (f 1 0 5).toInt ≤ 24 := (hI 1 0 5).2
  have r1 : 0 ≤ (f 6 0 1).toInt ∧ (f 6 0 1).toInt ≤ 5 := hI 6 0 1
  have hC : ∀ q j, q < (f 1 0 5).toInt.toNat → j < 6 → (fun k j => f 26 0 (6 * k + j)) q j = (fun k j => f 7 k j) q j := fun i j hi hj => (Rq.2.2.1 i j (by omega) hj).symm
  rw [hQ, hP, zbf_and (by omega), ← Rc.1, ← m1, ← m6, ← Rq.1]
  refine (zbf_congr _ (fun k hk => ?_)).symm
  obtain ⟨_, _, _, l4, _⟩ := Rl k (by omega)
  have d0 := Rd.1 k 0 (by omega) (by decide)
  have d4 := Rd.1 k 4 (by omega) (by decide)
  have l4 := l4 (f 6 0 1).toInt.toNat (by omega)
  have hz := zly_pos (C := fun k j => f 7 k j) (m := f 8 k 0) (l := (f 6 0 1).toInt.toNat) (f 1 0 5).toInt.toNat (fun i hi => Ro.1 i (by omega))
  have hw := zcw_ne (C := fun k j => f 7 k j) (m := f 8 k 0) (l := f 6 0 1) (n := (f 1 0 5).toInt.toNat) (by omega)
  rw [← (nI_ofI r1.1).1] at hz
  rw [l4, hz, ← hw, zcw_congr _ hC, ← d0, ← d4, and_assoc]
theorem z1of8 : ∀ k : Fin 8, ((¬ (nI k.val &&& 1 : Int32) = 0) ↔ (nI k.val &&& 1 : Int32) = 1) := by decide +kernel
theorem zlet_r {f : zM} (hI : zInv f) (Rc : zRc f) (Rd : zRd f) (Rq : zRq f) (Rp : zRp f) (Rl : zRl f) (Rn : zRn f) (Rm : zRm f) {p : Nat} (hp : (p : Int) < (f 1 0 7).toInt) : zbf (fun i => (f 6 0 5 = -4 ∨ f 6 0 5 = f 11 p 2) ∧ (zcx f p i ∧ zbx f p i = 0) ∧ bt (f 6 0 6) i = true ∧ (f 6 0 4 = 0 ∨ ¬ f 11 p 7 &&& 1 = 0 ∨ ¬ bt (f 8 i 7) (f 11 p 2).toInt.toNat = true)) (f 1 0 6).toInt.toNat = zbf (fun i => (zcr f p i ∧ zsr f p i = 0) ∧ zmg f p i (f 30 0 3) (f 30 0 4) (f 30 0 5)) (f 25 0 2).toInt.toNat := by
  obtain ⟨m0, m1, m2, m3, m4, m5, m6, m7⟩ := zRm_e Rm
  have e2 := Rp.2.2.1 p 2 hp (by decide)
  have e7 := Rp.2.2.1 p 7 hp (by decide)
  have b7 : 0 ≤ (f 11 p 7).toInt ∧ (f 11 p 7).toInt ≤ 7 := hI 11 p 7
  have h1 := z1of8 ⟨(f 11 p 7).toInt.toNat, by omega⟩
  simp only at h1
  rw [← (nI_ofI b7.1).1] at h1
  have c4 : (-4 : Int32).toInt = -4 := by decide
  have ho : (f 6 0 5 = -4 ∨ f 6 0 5 = f 11 p 2) ↔ ((f 30 0 4).toInt < 0 ∨ f 28 0 (8 * p + 2) = f 30 0 4) := by
    rw [← m5, ← e2]
    constructor
    · rintro (q | q)
      · exact Or.inl (by rw [q, c4]; decide)
      · exact Or.inr q.symm
    · rintro (q | q)
      · exact Or.inl ((z32eq _ _).mpr (by rw [c4]; omega))
      · exact Or.inr q.symm
  rw [← Rc.1]
  refine zbf_congr _ (fun k hk => ?_)
  have hx := zcx_r hI Rd Rq Rp Rl Rn hp (d := k) (by omega)
  have hb := zbx_r hI Rd Rq Rp Rl Rm hp (d := k) (by omega)
  have hd := zdead_r hI Rd Rq Rp Rl hp (d := k) (by omega)
  unfold zmg
  rw [ho, hx, hb, hd, h1, m4, m6, e7]
  constructor
  · rintro ⟨q1, q2, q3, q4⟩; exact ⟨q2, q4, q1, q3⟩
  · rintro ⟨q2, q4, q1, q3⟩; exact ⟨q1, q2, q3, q4⟩

theorem qd_lets {f g g2 : zM} {v v2 : Int32} {a1 : Int32} (hI : zInv f) (hg : zInv g) (Rc : zRc f) (Rd : zRd f) (Rq : zRq f) (Rp : zRp f) (Rl : zRl f) (Rn : zRn f) (Rm : zRm f) (hF : zFr [(11, some 8), (11, some 9)] f g) (hG : zFr [(31, none)] g g2) (hP : (¬ (0 ≤ a1.toInt ∧ a1.toInt < (f 1 0 7).toInt) ∧ v = -1 ∧ g = f) ∨ ((0 ≤ a1.toInt ∧ a1.toInt < (f 1 0 7).toInt) ∧ ¬ f 11 a1.toInt.toNat 1 = f 6 0 1 ∧ v = -2 ∧ g = f) ∨ ((0 ≤ a1.toInt ∧ a1.toInt < (f 1 0 7).toInt) ∧ f 11 a1.toInt.toNat 1 = f 6 0 1 ∧ v = zbf (fun i => (f 6 0 5 = -4 ∨ f 6 0 5 = f 11 a1.toInt.toNat 2) ∧ (zcx f a1.toInt.toNat i ∧ zbx f a1.toInt.toNat i = 0) ∧ bt (f 6 0 6) i = true ∧ (f 6 0 4 = 0 ∨ ¬ f 11 a1.toInt.toNat 7 &&& 1 = 0 ∨ ¬ bt (f 8 i 7) (f 11 a1.toInt.toNat 2).toInt.toNat = true)) (f 1 0 6).toInt.toNat ∧ (∀ a b c, ¬ (a = 11 ∧ b = a1.toInt.toNat ∧ (c = 8 ∨ c = 9)) → g a b c = f a b c))) (hQ : (¬ (0 ≤ a1.toInt ∧ a1.toInt < (g 25 0 4).toInt) ∧ v2 = -1) ∨ ((0 ≤ a1.toInt ∧ a1.toInt < (g 25 0 4).toInt) ∧ ¬ g 28 0 (8 * a1.toInt.toNat + 1) = g 30 0 1 ∧ v2 = -2) ∨ ((0 ≤ a1.toInt ∧ a1.toInt < (g 25 0 4).toInt) ∧ g 28 0 (8 * a1.toInt.toNat + 1) = g 30 0 1 ∧ v2 = zbf (fun i => (zcr g a1.toInt.toNat i ∧ zsr g a1.toInt.toNat i = 0) ∧ zmg g a1.toInt.toNat i (g 30 0 3) (g 30 0 4) (g 30 0 5)) (g 25 0 2).toInt.toNat)) : v2 = v := by
  have k25 : g 25 0 = f 25 0 := funext (fun j => hF 25 0 j rfl)
  have k26 : g 26 0 = f 26 0 := funext (fun j => hF 26 0 j rfl)
  have k27 : g 27 0 = f 27 0 := funext (fun j => hF 27 0 j rfl)
  have k28 : g 28 0 = f 28 0 := funext (fun j => hF 28 0 j rfl)
  have k30 : g 30 0 = f 30 0 := funext (fun j => hF 30 0 j rfl)
  obtain ⟨m0, m1, m2, m3, m4, m5, m6, m7⟩ := zRm_e Rm
  have hq : (fun i => (zcr g a1.toInt.toNat i ∧ zsr g a1.toInt.toNat i = 0) ∧ zmg g a1.toInt.toNat i (g 30 0 3) (g 30 0 4) (g 30 0 5)) = (fun i => (zcr f a1.toInt.toNat i ∧ zsr f a1.toInt.toNat i = 0) ∧ zmg f a1.toInt.toNat i (f 30 0 3) (f 30 0 4) (f 30 0 5)) := funext (fun i => by simp only [zcr_k k25 k26 k27 k28, zsr_k k25 k26 k27 k28 k30, zmg_k k25 k26 k27 k28, k30])
  rw [hq, k25, k28, k30, ← Rp.1] at hQ
  rcases hP with ⟨p1, p2, _⟩ | ⟨p1, p2, p3, _⟩ | ⟨p1, p2, p3, _⟩ <;> rcases hQ with ⟨q1, q2⟩ | ⟨q1, q2, q3⟩ | ⟨q1, q2, q3⟩
  · exact q2.trans p2.symm
  · exact absurd q1 p1
  · exact absurd q1 p1
  · exact absurd p1 q1
  · exact q3.trans p3.symm
  · exact absurd ((Rp.2.2.1 _ 1 (by omega) (by decide)).trans (q2.trans m1.symm)) p2
  · exact absurd p1 q1
  · exact absurd ((Rp.2.2.1 _ 1 (by omega) (by decide)).symm.trans (p2.trans m1)) q2
  · rw [q3, p3]; exact (zlet_r hI Rc Rd Rq Rp Rl Rn Rm (by omega)).symm
theorem qd_send {f g g2 : zM} {v v2 : Int32} {a1 : Int32} (hI : zInv f) (hg : zInv g) (Rc : zRc f) (Rd : zRd f) (Rq : zRq f) (Rp : zRp f) (Rl : zRl f) (Rn : zRn f) (Rm : zRm f) (hF : zFr [(6, some 1), (6, some 3), (6, some 4), (6, some 5), (6, some 6), (11, some 8), (11, some 9)] f g) (hG : zFr [(30, none), (31, none)] g g2) (hP : (¬ (0 ≤ a1.toInt ∧ a1.toInt < (f 1 0 7).toInt) ∧ v = -1 ∧ g = f) ∨ ((0 ≤ a1.toInt ∧ a1.toInt < (f 1 0 7).toInt) ∧ ¬ f 11 a1.toInt.toNat 1 = f 6 0 1 ∧ v = -2 ∧ g = f) ∨ ((0 ≤ a1.toInt ∧ a1.toInt < (f 1 0 7).toInt) ∧ f 11 a1.toInt.toNat 1 = f 6 0 1 ∧ zbf (fun i => (f 6 0 5 = -4 ∨ f 6 0 5 = f 11 a1.toInt.toNat 2) ∧ (zcx f a1.toInt.toNat i ∧ zbx f a1.toInt.toNat i = 0) ∧ bt (f 6 0 6) i = true ∧ (f 6 0 4 = 0 ∨ ¬ f 11 a1.toInt.toNat 7 &&& 1 = 0 ∨ ¬ bt (f 8 i 7) (f 11 a1.toInt.toNat 2).toInt.toNat = true)) (f 1 0 6).toInt.toNat = 0 ∧ v = -4 ∧ (∀ a b c, ¬ (a = 11 ∧ b = a1.toInt.toNat ∧ (c = 8 ∨ c = 9)) → g a b c = f a b c)) ∨ ((0 ≤ a1.toInt ∧ a1.toInt < (f 1 0 7).toInt) ∧ f 11 a1.toInt.toNat 1 = f 6 0 1 ∧ ¬ zbf (fun i => (f 6 0 5 = -4 ∨ f 6 0 5 = f 11 a1.toInt.toNat 2) ∧ (zcx f a1.toInt.toNat i ∧ zbx f a1.toInt.toNat i = 0) ∧ bt (f 6 0 6) i = true ∧ (f 6 0 4 = 0 ∨ ¬ f 11 a1.toInt.toNat 7 &&& 1 = 0 ∨ ¬ bt (f 8 i 7) (f 11 a1.toInt.toNat 2).toInt.toNat = true)) (f 1 0 6).toInt.toNat = 0 ∧ v = zbf (fun i => (f 6 0 5 = -4 ∨ f 6 0 5 = f 11 a1.toInt.toNat 2) ∧ (zcx f a1.toInt.toNat i ∧ zbx f a1.toInt.toNat i = 0) ∧ bt (f 6 0 6) i = true ∧ (f 6 0 4 = 0 ∨ ¬ f 11 a1.toInt.toNat 7 &&& 1 = 0 ∨ ¬ bt (f 8 i 7) (f 11 a1.toInt.toNat 2).toInt.toNat = true)) (f 1 0 6).toInt.toNat ∧ (∀ a b c, ¬ (a = 11 ∧ b = a1.toInt.toNat ∧ (c = 8 ∨ c = 9)) → ¬ (a = 6 ∧ b = 0 ∧ (c = 1 ∨ c = 3 ∨ c = 4 ∨ c = 5 ∨ c = 6)) → g a b c = f a b c) ∧ g 6 0 1 = f 11 a1.toInt.toNat 2 ∧ g 6 0 3 = f 6 0 3 + 1 ∧ zbo (g 6 0 4) (¬ f 11 a1.toInt.toNat 7 &&& 1 = 0) ∧ ((¬ f 11 a1.toInt.toNat 7 &&& 4 = 0 ∧ g 6 0 5 = f 11 a1.toInt.toNat 1) ∨ (f 11 a1.toInt.toNat 7 &&& 4 = 0 ∧ g 6 0 5 = -4)) ∧ ((¬ f 11 a1.toInt.toNat 7 &&& 2 = 0 ∧ g 6 0 6 = v) ∨ (f 11 a1.toInt.toNat 7 &&& 2 = 0 ∧ g 6 0 6 = 255)))) (hQ : (¬ (0 ≤ a1.toInt ∧ a1.toInt < (g 25 0 4).toInt) ∧ v2 = -1 ∧ (∀ j, g2 30 0 j = g 30 0 j)) ∨ ((0 ≤ a1.toInt ∧ a1.toInt < (g 25 0 4).toInt) ∧ ¬ g 28 0 (8 * a1.toInt.toNat + 1) = g 30 0 1 ∧ v2 = -2 ∧ (∀ j, g2 30 0 j = g 30 0 j)) ∨ ((0 ≤ a1.toInt ∧ a1.toInt < (g 25 0 4).toInt) ∧ g 28 0 (8 * a1.toInt.toNat + 1) = g 30 0 1 ∧ zbf (fun i => (zcr g a1.toInt.toNat i ∧ zsr g a1.toInt.toNat i = 0) ∧ zmg g a1.toInt.toNat i (g 30 0 3) (g 30 0 4) (g 30 0 5)) (g 25 0 2).toInt.toNat = 0 ∧ v2 = -4 ∧ (∀ j, g2 30 0 j = g 30 0 j)) ∨ ((0 ≤ a1.toInt ∧ a1.toInt < (g 25 0 4).toInt) ∧ g 28 0 (8 * a1.toInt.toNat + 1) = g 30 0 1 ∧ ¬ zbf (fun i => (zcr g a1.toInt.toNat i ∧ zsr g a1.toInt.toNat i = 0) ∧ zmg g a1.toInt.toNat i (g 30 0 3) (g 30 0 4) (g 30 0 5)) (g 25 0 2).toInt.toNat = 0 ∧ v2 = zbf (fun i => (zcr g a1.toInt.toNat i ∧ zsr g a1.toInt.toNat i = 0) ∧ zmg g a1.toInt.toNat i (g 30 0 3) (g 30 0 4) (g 30 0 5)) (g 25 0 2).toInt.toNat ∧ (g2 30 0 0 = g 30 0 0 ∧ g2 30 0 2 = g 30 0 2) ∧ g2 30 0 1 = g 28 0 (8 * a1.toInt.toNat + 2) ∧ g2 30 0 6 = g 30 0 6 + 1 ∧ g2 30 0 3 = g 28 0 (8 * a1.toInt.toNat + 7) &&& 1 ∧ ((¬ g 28 0 (8 * a1.toInt.toNat + 7) &&& 4 = 0 ∧ g2 30 0 4 = g 28 0 (8 * a1.toInt.toNat + 1)) ∨ (g 28 0 (8 * a1.toInt.toNat + 7) &&& 4 = 0 ∧ g2 30 0 4 = -4)) ∧ ((¬ g 28 0 (8 * a1.toInt.toNat + 7) &&& 2 = 0 ∧ g2 30 0 5 = v2) ∨ (g 28 0 (8 * a1.toInt.toNat + 7) &&& 2 = 0 ∧ g2 30 0 5 = 255)))) : v2 = v ∧ zRm g2 := by
  have k25 : g 25 0 = f 25 0 := funext (fun j => hF 25 0 j rfl)
  have k26 : g 26 0 = f 26 0 := funext (fun j => hF 26 0 j rfl)
  have k27 : g 27 0 = f 27 0 := funext (fun j => hF 27 0 j rfl)
  have k28 : g 28 0 = f 28 0 := funext (fun j => hF 28 0 j rfl)
  have k30 : g 30 0 = f 30 0 := funext (fun j => hF 30 0 j rfl)
  obtain ⟨m0, m1, m2, m3, m4, m5, m6, m7⟩ := zRm_e Rm
  have hq : (fun i => (zcr g a1.toInt.toNat i ∧ zsr g a1.toInt.toNat i = 0) ∧ zmg g a1.toInt.toNat i (g 30 0 3) (g 30 0 4) (g 30 0 5)) = (fun i => (zcr f a1.toInt.toNat i ∧ zsr f a1.toInt.toNat i = 0) ∧ zmg f a1.toInt.toNat i (f 30 0 3) (f 30 0 4) (f 30 0 5)) := funext (fun i => by simp only [zcr_k k25 k26 k27 k28, zsr_k k25 k26 k27 k28 k30, zmg_k k25 k26 k27 k28, k30])
  rw [hq, k25, k28, k30, ← Rp.1] at hQ
  have k6g : ∀ n j, g2 6 n j = g 6 n j := fun n j => hG 6 n j rfl
  have a1f : ∀ q : Nat, (q : Int) < (f 1 0 7).toInt → ∀ j, j < 8 → f 11 q j = f 28 0 (8 * q + j) := fun q hq j hj => Rp.2.2.1 q j hq hj
  rcases hP with ⟨p1, p2, rfl⟩ | ⟨p1, p2, p3, rfl⟩ | ⟨p1, p2, p3, p4, p5⟩ | ⟨p1, p2, p3, p4, p5, p6, p7, p8, p9, p10⟩ <;> rcases hQ with ⟨q1, q2, q3⟩ | ⟨q1, q2, q3, q4⟩ | ⟨q1, q2, q3, q4, q5⟩ | ⟨q1, q2, q3, q4, q5, q6, q7, q8, q9, q10⟩
  · exact ⟨q2.trans p2.symm, zRm_k Rm (fun n j _ _ => (k6g n j).trans (rfl)) (fun j => q3 j) (fun j => (hG 39 0 j rfl).trans (hF 39 0 j rfl)) ((hG 0 0 5 rfl).trans (hF 0 0 5 rfl))⟩
  · exact absurd q1 p1
  · exact absurd q1 p1
  · exact absurd q1 p1
  · exact absurd p1 q1
  · exact ⟨q3.trans p3.symm, zRm_k Rm (fun n j _ _ => (k6g n j).trans (rfl)) (fun j => q4 j) (fun j => (hG 39 0 j rfl).trans (hF 39 0 j rfl)) ((hG 0 0 5 rfl).trans (hF 0 0 5 rfl))⟩
  · exact absurd ((a1f _ (by omega) 1 (by decide)).trans (q2.trans m1.symm)) p2
  · exact absurd ((a1f _ (by omega) 1 (by decide)).trans (q2.trans m1.symm)) p2
  · exact absurd p1 q1
  · exact absurd ((a1f _ (by omega) 1 (by decide)).symm.trans (p2.trans m1)) q2
  · exact ⟨q4.trans p4.symm, zRm_k Rm (fun n j _ _ => (k6g n j).trans (p5 6 n j (by omega))) (fun j => q5 j) (fun j => (hG 39 0 j rfl).trans (hF 39 0 j rfl)) ((hG 0 0 5 rfl).trans (hF 0 0 5 rfl))⟩
  · exact absurd ((zlet_r hI Rc Rd Rq Rp Rl Rn Rm (by omega)).symm.trans p3) q3
  · exact absurd p1 q1
  · exact absurd ((a1f _ (by omega) 1 (by decide)).symm.trans (p2.trans m1)) q2
  · exact absurd ((zlet_r hI Rc Rd Rq Rp Rl Rn Rm (by omega)).trans q3) p3
  · have hv : v2 = v := by rw [q4, p4]; exact (zlet_r hI Rc Rd Rq Rp Rl Rn Rm (by omega)).symm
    have e1 := a1f a1.toInt.toNat (by omega) 1 (by decide)
    have e2 := a1f a1.toInt.toNat (by omega) 2 (by decide)
    have e7 := a1f a1.toInt.toNat (by omega) 7 (by decide)
    have b7 : 0 ≤ (f 11 a1.toInt.toNat 7).toInt ∧ (f 11 a1.toInt.toNat 7).toInt ≤ 7 := hI 11 _ 7
    have b1 : 0 ≤ (f 11 a1.toInt.toNat 1).toInt := (hI 11 _ 1).1
    have h1 := z1of8 ⟨(f 11 a1.toInt.toNat 7).toInt.toNat, by omega⟩
    simp only at h1
    rw [← (nI_ofI b7.1).1] at h1
    rw [← e7] at q8 q9 q10
    rw [← e1] at q9
    refine ⟨hv, ⟨?_, ?_, ?_, ?_, ?_, ?_, ?_, ?_⟩, fun hfl => ?_⟩
    · rw [k6g, p5 6 0 0 (by omega) (by omega)]; exact m0.trans q5.1.symm
    · rw [k6g, p6]; exact e2.trans q6.symm
    · rw [k6g, p5 6 0 2 (by omega) (by omega)]; exact m2.trans q5.2.symm
    · rw [k6g, p7, m3]; exact q7.symm
    · rw [k6g]
      rcases p8 with ⟨y1, y2⟩ | ⟨y1, y2⟩
      · rw [y1]; exact ((q8.trans (h1.mp y2))).symm
      · rw [y1]; exact (q8.trans (Classical.byContradiction y2)).symm
    · rw [k6g]
      rcases p9 with ⟨y1, y2⟩ | ⟨y1, y2⟩ <;> rcases q9 with ⟨w1, w2⟩ | ⟨w1, w2⟩
      · exact y2.trans w2.symm
      · exact absurd w1 y1
      · exact absurd y1 w1
      · exact y2.trans w2.symm
    · rw [k6g]
      rcases p10 with ⟨y1, y2⟩ | ⟨y1, y2⟩ <;> rcases q10 with ⟨w1, w2⟩ | ⟨w1, w2⟩
      · exact y2.trans (hv.symm.trans w2.symm)
      · exact absurd w1 y1
      · exact absurd y1 w1
      · exact y2.trans w2.symm
    · rw [k6g]
      rcases p9 with ⟨y1, y2⟩ | ⟨y1, y2⟩
      · rw [y2]; exact Or.inr b1
      · rw [y2]; exact Or.inl (by decide)
    · refine zMn_k (Rm.2 (by rw [hG 0 0 5 rfl, hF 0 0 5 rfl] at hfl; exact hfl)) (fun j _ => (k6g _ _).trans (p5 6 1 j (by omega) (by omega))) (fun j _ => (hG 39 0 _ rfl).trans (hF 39 0 _ rfl))
theorem qd_man {f g g2 : zM} {v v2 : Int32} {a1 a2 : Int32} (hI : zInv f) (hg : zInv g) (Rc : zRc f) (Rd : zRd f) (Rq : zRq f) (Rp : zRp f) (Rl : zRl f) (Rn : zRn f) (Rm : zRm f) (hF : zFr [(6, some 0), (6, some 1), (6, some 2), (6, some 4), (6, some 5), (6, some 6)] f g) (hG : zFr [(30, none)] g g2) (hP : ((a1.toInt = 0 ∧ (0 ≤ a2.toInt ∧ a2.toInt ≤ 5)) ∧ v = f 6 0 0 ∧ g = zup f 6 0 0 a2) ∨ ((a1.toInt = 1 ∧ (0 ≤ a2.toInt ∧ a2.toInt ≤ 5)) ∧ v = f 6 0 1 ∧ g = zup (zup (zup (zup f 6 0 1 a2) 6 0 4 0) 6 0 5 (-4)) 6 0 6 255) ∨ ((a1.toInt = 2 ∧ (0 ≤ a2.toInt ∧ a2.toInt ≤ 99)) ∧ v = f 6 0 2 ∧ g = zup f 6 0 2 a2) ∨ (¬ ((a1.toInt = 0 ∧ (0 ≤ a2.toInt ∧ a2.toInt ≤ 5)) ∨ (a1.toInt = 1 ∧ (0 ≤ a2.toInt ∧ a2.toInt ≤ 5)) ∨ (a1.toInt = 2 ∧ (0 ≤ a2.toInt ∧ a2.toInt ≤ 99))) ∧ v = -1 ∧ g = f)) (hQ : ((a1.toInt = 0 ∧ (0 ≤ a2.toInt ∧ a2.toInt ≤ 5)) ∧ v2 = g 30 0 0 ∧ g2 = zup g 30 0 0 a2) ∨ ((a1.toInt = 1 ∧ (0 ≤ a2.toInt ∧ a2.toInt ≤ 5)) ∧ v2 = g 30 0 1 ∧ g2 = zup (zup (zup (zup g 30 0 1 a2) 30 0 3 0) 30 0 4 (-4)) 30 0 5 255) ∨ ((a1.toInt = 2 ∧ (0 ≤ a2.toInt ∧ a2.toInt ≤ 99)) ∧ v2 = g 30 0 2 ∧ g2 = zup g 30 0 2 a2) ∨ (¬ ((a1.toInt = 0 ∧ (0 ≤ a2.toInt ∧ a2.toInt ≤ 5)) ∨ (a1.toInt = 1 ∧ (0 ≤ a2.toInt ∧ a2.toInt ≤ 5)) ∨ (a1.toInt = 2 ∧ (0 ≤ a2.toInt ∧ a2.toInt ≤ 99))) ∧ v2 = -1 ∧ g2 = g)) : v2 = v ∧ zRm g2 := by
  obtain ⟨m0, m1, m2, m3, m4, m5, m6, m7⟩ := zRm_e Rm
  rcases hP with ⟨p1, rfl, rfl⟩ | ⟨p1, rfl, rfl⟩ | ⟨p1, rfl, rfl⟩ | ⟨p1, rfl, rfl⟩ <;> rcases hQ with ⟨q1, rfl, rfl⟩ | ⟨q1, rfl, rfl⟩ | ⟨q1, rfl, rfl⟩ | ⟨q1, rfl, rfl⟩
  · skip
    refine ⟨?_, ⟨?_, ?_, ?_, ?_, ?_, ?_, ?_, ?_⟩, fun hfl => ?_⟩
    · first | exact m0.symm | rfl
    · first | exact m0 | rfl
    · first | exact m1 | rfl
    · first | exact m2 | rfl
    · first | exact m3 | rfl
    · first | exact m4 | rfl
    · first | exact m5 | rfl
    · first | exact m6 | rfl
    · exact m7
    · refine zMn_k (Rm.2 (by rw [zup_ne _ _ (by omega), zup_ne _ _ (by omega)] at hfl; exact hfl)) (fun j _ => by rw [zup_ne _ _ (by omega), zup_ne _ _ (by omega)]) (fun j _ => by rw [zup_ne _ _ (by omega), zup_ne _ _ (by omega)])
  · exfalso; omega
  · exfalso; omega
  · exact absurd (Or.inl p1) q1
  · exfalso; omega
  · skip
    refine ⟨?_, ⟨?_, ?_, ?_, ?_, ?_, ?_, ?_, ?_⟩, fun hfl => ?_⟩
    · first | exact m1.symm | rfl
    · first | exact m0 | rfl
    · first | exact m1 | rfl
    · first | exact m2 | rfl
    · first | exact m3 | rfl
    · first | exact m4 | rfl
    · first | exact m5 | rfl
    · first | exact m6 | rfl
    · exact Or.inl (show ((-4 : Int32)).toInt = -4 by decide)
    · refine zMn_k (Rm.2 (by rw [zup_ne _ _ (by omega), zup_ne _ _ (by omega), zup_ne _ _ (by omega), zup_ne _ _ (by omega), zup_ne _ _ (by omega), zup_ne _ _ (by omega), zup_ne _ _ (by omega), zup_ne _ _ (by omega)] at hfl; exact hfl)) (fun j _ => by rw [zup_ne _ _ (by omega), zup_ne _ _ (by omega), zup_ne _ _ (by omega), zup_ne _ _ (by omega), zup_ne _ _ (by omega), zup_ne _ _ (by omega), zup_ne _ _ (by omega), zup_ne _ _ (by omega)]) (fun j _ => by rw [zup_ne _ _ (by omega), zup_ne _ _ (by omega), zup_ne _ _ (by omega), zup_ne _ _ (by omega), zup_ne _ _ (by omega), zup_ne _ _ (by omega), zup_ne _ _ (by omega), zup_ne _ _ (by omega)])
  · exfalso; omega
  · exact absurd (Or.inr (Or.inl p1)) q1
  · exfalso; omega
  · exfalso; omega
  · skip
    refine ⟨?_, ⟨?_, ?_, ?_, ?_, ?_, ?_, ?_, ?_⟩, fun hfl => ?_⟩
    · first | exact m2.symm | rfl
    · first | exact m0 | rfl
    · first | exact m1 | rfl
    · first | exact m2 | rfl
    · first | exact m3 | rfl
    · first | exact m4 | rfl
    · first | exact m5 | rfl
    · first | exact m6 | rfl
    · exact m7
    · refine zMn_k (Rm.2 (by rw [zup_ne _ _ (by omega), zup_ne _ _ (by omega)] at hfl; exact hfl)) (fun j _ => by rw [zup_ne _ _ (by omega), zup_ne _ _ (by omega)]) (fun j _ => by rw [zup_ne _ _ (by omega), zup_ne _ _ (by omega)])
  · exact absurd (Or.inr (Or.inr p1)) q1
  · exact absurd (Or.inl q1) p1
  · exact absurd (Or.inr (Or.inl q1)) p1
  · exact absurd (Or.inr (Or.inr q1)) p1
  · exact ⟨rfl, Rm⟩
