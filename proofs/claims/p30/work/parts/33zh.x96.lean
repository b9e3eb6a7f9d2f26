/-- one step of relaxing: from a cost s, by those that follow, as far as n -/
noncomputable def zrx (F : Nat → Prop) (W : Nat → Int) (s : Int) (c : Nat → Int) (n j : Nat) : Int := @ite Int (j < n ∧ F j ∧ s + W j < c j) (Classical.propDecidable _) (s + W j) (c j)
theorem zrx_y {F : Nat → Prop} {W : Nat → Int} {s : Int} {c : Nat → Int} {n j : Nat} (h : j < n ∧ F j ∧ s + W j < c j) : zrx F W s c n j = s + W j := by unfold zrx; exact if_pos h
theorem zrx_n {F : Nat → Prop} {W : Nat → Int} {s : Int} {c : Nat → Int} {n j : Nat} (h : ¬ (j < n ∧ F j ∧ s + W j < c j)) : zrx F W s c n j = c j := by unfold zrx; exact if_neg h
theorem zrx_o {F : Nat → Prop} {W : Nat → Int} {s : Int} {c : Nat → Int} {n j : Nat} (h : j ≠ n) : zrx F W s c (n + 1) j = zrx F W s c n j := by
  by_cases q : j < n ∧ F j ∧ s + W j < c j
  · rw [zrx_y q, zrx_y ⟨by omega, q.2⟩]
  · rw [zrx_n q, zrx_n (fun z => q ⟨by omega, z.2⟩)]
theorem zrx_le {F : Nat → Prop} {W : Nat → Int} {s : Int} {c : Nat → Int} {n j : Nat} : zrx F W s c n j ≤ c j := by
  by_cases q : j < n ∧ F j ∧ s + W j < c j
  · rw [zrx_y q]; omega
  · rw [zrx_n q]; omega
theorem zrx_congr {F G : Nat → Prop} {W V : Nat → Int} {s t : Int} {c e : Nat → Int} {n j : Nat} (hs : s = t) (hF : j < n → (F j ↔ G j)) (hW : j < n → W j = V j) (hc : c j = e j) : zrx F W s c n j = zrx G V t e n j := by
  subst hs
  by_cases q : j < n ∧ F j ∧ s + W j < c j
  · rw [zrx_y q, zrx_y ⟨q.1, (hF q.1).mp q.2.1, by rw [← hW q.1, ← hc]; exact q.2.2⟩, hW q.1]
  · rw [zrx_n q, zrx_n (fun z => q ⟨z.1, (hF z.1).mpr z.2.1, by rw [hW z.1, hc]; exact z.2.2⟩), hc]
/-- a round over the first k, rounds -/
noncomputable def zrd (F : Nat → Nat → Prop) (W : Nat → Int) (n : Nat) (c : Nat → Int) : Nat → Nat → Int
  | 0 => c
  | k + 1 => zrx (F k) W (zrd F W n c k k) (zrd F W n c k) n
noncomputable def zit (F : Nat → Nat → Prop) (W : Nat → Int) (n : Nat) (c : Nat → Int) : Nat → Nat → Int
  | 0 => c
  | r + 1 => zrd F W n (zit F W n c r) n
theorem zrd_le {F : Nat → Nat → Prop} {W : Nat → Int} {n : Nat} {c : Nat → Int} : ∀ k j, zrd F W n c k j ≤ c j
  | 0, j => Int.le_refl _
  | k + 1, j => Int.le_trans zrx_le (zrd_le k j)
theorem zit_le {F : Nat → Nat → Prop} {W : Nat → Int} {n : Nat} {c : Nat → Int} : ∀ r j, zit F W n c r j ≤ c j
  | 0, j => Int.le_refl _
  | r + 1, j => Int.le_trans (zrd_le n j) (zit_le r j)
theorem zrd_congr {F : Nat → Nat → Prop} {W : Nat → Int} {n : Nat} {c e : Nat → Int} (h : ∀ j, j < n → c j = e j) : ∀ k, k ≤ n → ∀ j, j < n → zrd F W n c k j = zrd F W n e k j
  | 0, _, j, hj => h j hj
  | k + 1, hk, j, hj => zrx_congr (zrd_congr h k (by omega) k (by omega)) (fun _ => Iff.rfl) (fun _ => rfl) (zrd_congr h k (by omega) j hj)
/-- where a round changes nothing, no later one does -/
theorem zit_fix {F : Nat → Nat → Prop} {W : Nat → Int} {n : Nat} {c : Nat → Int} {r : Nat} (h : ∀ j, j < n → zrd F W n (zit F W n c r) n j = zit F W n c r j) : ∀ s, ∀ j, j < n → zit F W n c (r + s) j = zit F W n c r j
  | 0, j, _ => rfl
  | s + 1, j, hj => by
    show zrd F W n (zit F W n c (r + s)) n j = _
    rw [zrd_congr (zit_fix h s) n (Nat.le_refl n) j hj]
    exact h j hj
/-- the class's costs and the reference's: alike below a bound, or far on both sides -/
def zSim (n : Nat) (b : Int) (c e : Nat → Int) : Prop := ∀ j, j < n → (c j = e j ∧ 0 ≤ c j ∧ c j ≤ b) ∨ (c j = 1000 ∧ e j = 9999)
theorem zSim_x {n : Nat} {b : Int} {c e : Nat → Int} {F G : Nat → Prop} {W V : Nat → Int} {i : Nat} (h : zSim n b c e) (hi : i < n) (hb : b + 6 < 1000) (hF : ∀ j, j < n → (F j ↔ G j)) (hW : ∀ j, j < n → W j = V j ∧ 0 ≤ W j ∧ W j ≤ 6) : zSim n (b + 6) (zrx F W (c i) c n) (zrx G V (e i) e n) := by
  intro j hj
  obtain ⟨w1, w2, w3⟩ := hW j hj
  have hf := hF j hj
  have hij := h i hi
  have hjj := h j hj
  rcases hij with ⟨a1, a2, a3⟩ | ⟨a1, a2⟩
  · by_cases q : F j
    · by_cases z : c i + W j < c j
      · rw [zrx_y ⟨hj, q, z⟩, zrx_y ⟨hj, hf.mp q, by omega⟩]
        left; omega
      · rw [zrx_n (fun y => z y.2.2), zrx_n (fun y => by have := y.2.2; omega)]
        omega
    · rw [zrx_n (fun y => q y.2.1), zrx_n (fun y => q (hf.mpr y.2.1))]
      omega
  · rw [zrx_n (fun y => by have := y.2.2; omega), zrx_n (fun y => by have := y.2.2; omega)]
    omega
theorem zSim_d {n : Nat} {b : Int} {c e : Nat → Int} {F G : Nat → Nat → Prop} {W V : Nat → Int} (h : zSim n b c e) (hF : ∀ i j, i < n → j < n → (F i j ↔ G i j)) (hW : ∀ j, j < n → W j = V j ∧ 0 ≤ W j ∧ W j ≤ 6) : ∀ k : Nat, k ≤ n → b + 6 * k < 1000 → zSim n (b + 6 * k) (zrd F W n c k) (zrd G V n e k)
  | 0, _, _ => by simpa [zrd] using h
  | k + 1, hk, hb => by
    have ih := zSim_d h hF hW k (by omega) (by omega)
    have hx := zSim_x ih (i := k) (by omega) (by omega) (fun j hj => hF k j (by omega) hj) hW
    intro j hj
    have hz := hx j hj
    show (zrx (F k) W (zrd F W n c k k) (zrd F W n c k) n j = zrx (G k) V (zrd G V n e k k) (zrd G V n e k) n j ∧ _) ∨ _
    rcases hz with ⟨z1, z2, z3⟩ | z
    · exact Or.inl ⟨z1, z2, by show zrx (F k) W (zrd F W n c k k) (zrd F W n c k) n j ≤ _; omega⟩
    · exact Or.inr z
theorem zSim_w {n : Nat} {b d : Int} {c e : Nat → Int} (h : zSim n b c e) (hd : b ≤ d) : zSim n d c e := fun j hj => by
  rcases h j hj with q | q
  · exact Or.inl ⟨q.1, q.2.1, by omega⟩
  · exact Or.inr q
theorem zSim_t {n : Nat} {b : Int} {c e : Nat → Int} {F G : Nat → Nat → Prop} {W V : Nat → Int} (hn : n ≤ 12) (h : zSim n b c e) (hF : ∀ i j, i < n → j < n → (F i j ↔ G i j)) (hW : ∀ j, j < n → W j = V j ∧ 0 ≤ W j ∧ W j ≤ 6) : ∀ r : Nat, b + 72 * r < 1000 → zSim n (b + 72 * r) (zit F W n c r) (zit G V n e r)
  | 0, _ => by simpa [zit] using h
  | r + 1, hb => by
    have ih := zSim_t hn h hF hW r (by omega)
    exact zSim_w (zSim_d ih hF hW n (Nat.le_refl n) (by omega)) (by omega)
/-- the least cost of those that are so -/
noncomputable def zmn (L : Nat → Prop) (c : Nat → Int) (b : Int) : Nat → Int
  | 0 => b
  | k + 1 => @ite Int (L k ∧ c k < zmn L c b k) (Classical.propDecidable _) (c k) (zmn L c b k)
theorem zmn_y {L : Nat → Prop} {c : Nat → Int} {b : Int} {k : Nat} (h : L k ∧ c k < zmn L c b k) : zmn L c b (k + 1) = c k := by rw [zmn, if_pos h]
theorem zmn_n {L : Nat → Prop} {c : Nat → Int} {b : Int} {k : Nat} (h : ¬ (L k ∧ c k < zmn L c b k)) : zmn L c b (k + 1) = zmn L c b k := by rw [zmn, if_neg h]
theorem zmn_r {L M : Nat → Prop} {c e : Nat → Int} {n : Nat} {b : Int} (hb : b < 1000) (h : zSim n b c e) (hL : ∀ k, k < n → (L k ↔ M k)) : ∀ k, k ≤ n → (zmn L c 1000 k = zmn M e 9999 k ∧ 0 ≤ zmn L c 1000 k ∧ zmn L c 1000 k ≤ b) ∨ (zmn L c 1000 k = 1000 ∧ zmn M e 9999 k = 9999)
  | 0, _ => Or.inr ⟨rfl, rfl⟩
  | k + 1, hk => by
    have ih := zmn_r hb h hL k (by omega)
    have hl := hL k (by omega)
    have hj := h k (by omega)
    by_cases q : L k
    · by_cases z : c k < zmn L c 1000 k
      · rw [zmn_y ⟨q, z⟩, zmn_y ⟨hl.mp q, by omega⟩]; omega
      · rw [zmn_n (fun y => z y.2), zmn_n (fun y => by have := y.2; omega)]; exact ih
    · rw [zmn_n (fun y => q y.1), zmn_n (fun y => q (hl.mpr y.1))]; exact ih
theorem zmn_0 {L : Nat → Prop} {c : Nat → Int} : ∀ k, (∀ j, j < k → 0 ≤ c j) → zmn L c 0 k = 0
  | 0, _ => rfl
  | k + 1, h => by
    have ih := zmn_0 (L := L) k (fun j hj => h j (by omega))
    rw [zmn_n (fun y => by have h1 := y.2; rw [ih] at h1; have := h k (by omega); omega)]; exact ih
/-- weighed for one DEED alone -/
def zWa (g : zM) (d : Nat) : Prop := ∀ q : Nat, (q : Int) < (g 1 0 7).toInt → g 11 q 8 = zbf (fun i => i = d ∧ zcx g q i) 8 ∧ g 11 q 9 = zbf (fun i => i = d ∧ bt (g 8 i 7) (g 11 q 2).toInt.toNat = true) 8
theorem zone_y {d : Nat} {P : Nat → Prop} (hd : d < 8) (h : P d) : (1 : Int32) <<< (nI d &&& 31) = zbf (fun i => i = d ∧ P i) 8 :=
  zbf_ext (by decide) (fun i hi => by
    rw [b_one d (by omega) i hi, decide_eq_true_iff]
    constructor
    · intro q; subst q; exact ⟨hd, rfl, h⟩
    · intro q; exact q.2.1)
theorem zone_n {d : Nat} {P : Nat → Prop} (h : ¬ P d) : (0 : Int32) = zbf (fun i => i = d ∧ P i) 8 := (zbf_0 8 (fun k _ q => h (by rw [← q.1]; exact q.2))).symm
theorem zbf_ne {P : Nat → Prop} {n : Nat} (hn : n ≤ 32) : ¬ zbf P n = 0 ↔ ∃ i, i < n ∧ P i := by
  constructor
  · intro h
    refine Classical.byContradiction (fun q => h (zbf_0 n (fun k hk p => q ⟨k, hk, p⟩)))
  · rintro ⟨i, h1, h2⟩ h
    have hb := (zbf_bit (P := P) (i := i) (by omega) n hn).mpr ⟨h1, h2⟩
    rw [h, b_0] at hb; cases hb
/-- one paper behind another, for one DEED: the class, the reference -/
def zfa (f : zM) (p d : Nat) (a di o b : Int32) : Prop := (f 11 p 1 = a ∧ (o = -4 ∨ o = f 11 p 2)) ∧ zcx f p d ∧ bt b d = true ∧ (¬ (¬ di = 0 ∧ f 11 p 7 &&& 1 = 0) ∨ ¬ bt (f 8 d 7) (f 11 p 2).toInt.toNat = true)
def zfm (f : zM) (p d : Nat) (a di o b : Int32) : Prop := f 28 0 (8 * p + 1) = a ∧ zcr f p d ∧ zmg f p d di o b
theorem zfa_r {f : zM} (hI : zInv f) (Rd : zRd f) (Rq : zRq f) (Rp : zRp f) (Rl : zRl f) (Rn : zRn f) {p i : Nat} {a d o b : Int32} (ho : o.toInt = -4 ∨ 0 ≤ o.toInt) (hp : (p : Int) < (f 1 0 7).toInt) (hi : (i : Int) < (f 1 0 6).toInt) : zfa f p i a d o b ↔ zfm f p i a d o b := by
  have e1 := Rp.2.2.1 p 1 hp (by decide)
  have e2 := Rp.2.2.1 p 2 hp (by decide)
  have e7 := Rp.2.2.1 p 7 hp (by decide)
  have b7 : 0 ≤ (f 11 p 7).toInt ∧ (f 11 p 7).toInt ≤ 7 := hI 11 p 7
  have h1 := z1of8 ⟨(f 11 p 7).toInt.toNat, by omega⟩
  simp only at h1
  rw [← (nI_ofI b7.1).1] at h1
  have c4 : (-4 : Int32).toInt = -4 := by decide
  have ho2 : (o = -4 ∨ o = f 11 p 2) ↔ (o.toInt < 0 ∨ f 28 0 (8 * p + 2) = o) := by
    rw [← e2]
    constructor
    · rintro (q | q)
      · exact Or.inl (by rw [q, c4]; decide)
      · exact Or.inr q.symm
    · rintro (q | q)
      · exact Or.inl ((z32eq _ _).mpr (by rw [c4]; omega))
      · exact Or.inr q.symm
  have hx := zcx_r hI Rd Rq Rp Rl Rn hp (d := i) hi
  have hd := zdead_r hI Rd Rq Rp Rl hp (d := i) hi
  unfold zfa zfm zmg
  rw [ho2, hx, hd, e1]
  constructor
  · rintro ⟨⟨q0, q1⟩, q2, q3, q4⟩
    refine ⟨q0, q2, ?_, q1, q3⟩
    rcases q4 with q4 | q4
    · by_cases z : d = 0
      · exact Or.inl z
      · exact Or.inr (Or.inl (by rw [← e7]; exact h1.mp (fun y => q4 ⟨z, y⟩)))
    · exact Or.inr (Or.inr q4)
  · rintro ⟨q0, q2, q4, q1, q3⟩
    refine ⟨⟨q0, q1⟩, q2, q3, ?_⟩
    rcases q4 with q4 | q4 | q4
    · exact Or.inl (fun y => y.1 q4)
    · exact Or.inl (fun y => by rw [← e7] at q4; exact h1.mpr q4 y.2)
    · exact Or.inr q4
theorem zgw {f m : zM} {w p d : Nat} {v : Int32} (hd : d < 8) (hW : zWa f d) (hp : (p : Int) < (f 1 0 7).toInt) (k11 : ∀ j, m 11 p j = f 11 p j) (h : (¬ (m 11 p 1 = m 6 w 1 ∧ (m 6 w 5 = -4 ∨ m 6 w 5 = m 11 p 2)) ∧ v = 0) ∨ ((m 11 p 1 = m 6 w 1 ∧ (m 6 w 5 = -4 ∨ m 6 w 5 = m 11 p 2)) ∧ ¬ (¬ m 6 w 4 = 0 ∧ m 11 p 7 &&& 1 = 0) ∧ v = m 11 p 8 &&& m 6 w 6) ∨ ((m 11 p 1 = m 6 w 1 ∧ (m 6 w 5 = -4 ∨ m 6 w 5 = m 11 p 2)) ∧ (¬ m 6 w 4 = 0 ∧ m 11 p 7 &&& 1 = 0) ∧ v = (m 11 p 8 &&& m 6 w 6) &&& (m 11 p 9 ^^^ -1))) : ¬ v = 0 ↔ zfa f p d (m 6 w 1) (m 6 w 4) (m 6 w 5) (m 6 w 6) := by
  obtain ⟨w8, w9⟩ := hW p hp
  rw [k11, k11, k11, k11, k11, w8, w9] at h
  have hv := zgo_eq (n := 8) (by decide) h
  rw [hv, zbf_ne (by decide)]
  unfold zfa
  constructor
  · rintro ⟨i, h1, h2, ⟨h3, h4⟩, h5, h6⟩
    subst h3
    refine ⟨h2, h4, h5, ?_⟩
    rcases h6 with h6 | h6
    · exact Or.inl h6
    · exact Or.inr (fun y => h6 ⟨rfl, y⟩)
  · rintro ⟨h2, h4, h5, h6⟩
    refine ⟨d, hd, h2, ⟨rfl, h4⟩, h5, ?_⟩
    rcases h6 with h6 | h6
    · exact Or.inl h6
    · exact Or.inr (fun y => h6 y.2)
/-- from where a paper leaves him -/
noncomputable def zoi (f : zM) (i : Nat) : Int32 := @ite Int32 (¬ f 11 i 7 &&& 4 = 0) (Classical.propDecidable _) (f 11 i 1) (-4)
noncomputable def zom (f : zM) (i : Nat) : Int32 := @ite Int32 (¬ f 28 0 (8 * i + 7) &&& 4 = 0) (Classical.propDecidable _) (f 28 0 (8 * i + 1)) (-4)
def zFx (f : zM) (d i j : Nat) : Prop := zfa f j d (f 11 i 2) (f 11 i 7 &&& 1) (zoi f i) 255
def zFm (f : zM) (d i j : Nat) : Prop := zfm f j d (f 28 0 (8 * i + 2)) (f 28 0 (8 * i + 7) &&& 1) (zom f i) 255
noncomputable def zWx_ (f : zM) (d j : Nat) : Int := (zpn (zbx f j d) : Int)
noncomputable def zWm_ (f : zM) (d j : Nat) : Int := (zpn (zsr f j d) : Int)
theorem zpn_6 (x : Int32) : zpn x ≤ 6 := by unfold zpn; omega
theorem zfa_b {f : zM} {p d : Nat} {a di o b b' : Int32} (h : bt b d = true) (h' : bt b' d = true) : zfa f p d a di o b ↔ zfa f p d a di o b' := by unfold zfa; rw [h, h']
theorem zfa_z {f : zM} {p d : Nat} {a di di' o b : Int32} (h : di = 0 ↔ di' = 0) : zfa f p d a di o b ↔ zfa f p d a di' o b := by unfold zfa; rw [h]
theorem zb255d : ∀ d, d < 8 → bt 255 d = true := by decide
theorem zfa_k {f g : zM} {p i : Nat} {x y z w : Int32} (a : ∀ j, j < 8 → g 11 p j = f 11 p j) (b : ∀ n j, g 8 n j = f 8 n j) (c : ∀ n j, g 9 n j = f 9 n j) (e : ∀ n j, g 10 n j = f 10 n j) : zfa g p i x y z w ↔ zfa f p i x y z w := by
  unfold zfa
  rw [zcx_k a b c e, a 1 (by decide), a 2 (by decide), a 7 (by decide), b]
theorem zFx_k {f g : zM} {d i j : Nat} (a : ∀ p j, j < 8 → g 11 p j = f 11 p j) (b : ∀ n j, g 8 n j = f 8 n j) (c : ∀ n j, g 9 n j = f 9 n j) (e : ∀ n j, g 10 n j = f 10 n j) : zFx g d i j ↔ zFx f d i j := by
  unfold zFx zoi
  rw [zfa_k (a j) b c e, a i 1 (by decide), a i 2 (by decide), a i 7 (by decide)]

set_option maxRecDepth 100000 in
set_option maxHeartbeats 4000000 in
theorem x_X8_weighAlone (d : Nat) (f : zM) (a1 : Int32) (b1 : zB a1 0 7) (hI : zInv f) : ZM (d + 1) yX8_weighAlone cX8_weighAlone 4 none [zr 1 0, zi a1] f (fun r g => r = none ∧ zInv g ∧ zFr [(11, some 8), (11, some 9)] f g ∧ (zWa g a1.toInt.toNat)) := by
  refine ZM.intro (by decide +kernel) (Nat.le_of_ble_eq_true rfl) ?_
  intro X C hr hn
  have hF : zFr [(11, some 8), (11, some 9)] f f := zFr.rf _ _
  have ct1_0_7 : zB (f 1 0 7) 0 12 := hI 1 0 7
  have J : ∀ t : Nat, (∀ a2_2 : Int32, zB a2_2 0 12 → ∀ g : zM, zInv g → zFr [(11, some 8), (11, some 9)] f g → zB (g 1 0 7) 0 12 → ((∀ q, q < a2_2.toInt.toNat → g 11 q 8 = zbf (fun i => i = a1.toInt.toNat ∧ zcx f q i) 8 ∧ g 11 q 9 = zbf (fun i => i = a1.toInt.toNat ∧ bt (f 8 i 7) (f 11 q 2).toInt.toNat = true) 8)) → (a2_2.toInt ≤ (f 1 0 7).toInt) → ((g 1 0 7).toInt = (f 1 0 7).toInt) → (0 + 3 * (12 - a2_2.toInt) : Int) < t → Z X 2 [some (zr 1 0), some (zi a1), some (zi a2_2), none] [] g) := by
    intro t
    induction t with
    | zero =>
      intros; exfalso; omega
    | succ t ih =>
      have ih0 := ih
      intro a2_2 b2_2 g2_ hI2_ hF2_ f2_1_0_7 hR2_0 hR2_1 hR2_2 hM2_
      refine z_iload_n (pc := 2) C dX8_weighAlone_2 rfl ?_
      refine z_aload_n (pc := 3) C dX8_weighAlone_3 rfl ?_
      refine z_getI (pc := 4) C zf_X8_64 rfl rfl (by decide) dX8_weighAlone_4 ?_
      refine w_gp (fun v => v = g2_ 1 0 7) rfl (fun v1 q1 => ?_)
      have e1 : v1.toInt = (g2_ 1 0 7).toInt := by rw [q1]
      have b1x : zB v1 0 12 := by first | exact zB.eqv e1 f2_1_0_7 | (have q9 := f2_1_0_7; constructor <;> omega)
      refine z_icmp_ge (pc := 7) 74 C dX8_weighAlone_7 (by decide) (fun h7_1 => ?_) (fun h7_1 => ?_)
      · skip
        have rr3 : a2_2.toInt ≥ v1.toInt := by simp only [z32lt, z32le, z32eq] at h7_1; omega
        exact z_vret (pc := 74) C hr dX8_weighAlone_74 ⟨rfl, hI2_, hF2_, (by
                                                                                          have k11 : ∀ q j, j < 8 → g2_ 11 q j = f 11 q j := fun q j hj => by rcases (show j = 0 ∨ j = 1 ∨ j = 2 ∨ j = 3 ∨ j = 4 ∨ j = 5 ∨ j = 6 ∨ j = 7 by omega) with rfl | rfl | rfl | rfl | rfl | rfl | rfl | rfl <;> exact hF2_ 11 q _ rfl
                                                                                          have k8 : ∀ n j, g2_ 8 n j = f 8 n j := fun n j => hF2_ 8 n j rfl
                                                                                          have k9 : ∀ n j, g2_ 9 n j = f 9 n j := fun n j => hF2_ 9 n j rfl
                                                                                          have k10 : ∀ n j, g2_ 10 n j = f 10 n j := fun n j => hF2_ 10 n j rfl
                                                                                          have k6 : ∀ n j, g2_ 6 n j = f 6 n j := fun n j => hF2_ 6 n j rfl
                                                                                          intro q hq
                                                                                          have hp := hR2_0 q (by omega)
                                                                                          refine ⟨hp.1.trans ?_, hp.2.trans ?_⟩
                                                                                          · exact zbf_congr _ (fun i _ => by rw [zcx_k (k11 _) k8 k9 k10])
                                                                                          · exact zbf_congr _ (fun i _ => by rw [k8, k11 _ 2 (by decide)]))⟩
      · skip
        have rr4 : a2_2.toInt < v1.toInt := by simp only [z32lt, z32le, z32eq] at h7_1; omega
        have b5x : zB a2_2 0 11 := by have q1 := b2_2; have q2 := b1x; simp only [z32lt, z32le, z32eq, Int32.reduceToInt, Int32.toInt_zero] at h7_1; constructor <;> omega
        have b6x : zB v1 1 12 := by have q1 := b2_2; have q2 := b1x; simp only [z32lt, z32le, z32eq, Int32.reduceToInt, Int32.toInt_zero] at h7_1; constructor <;> omega
        have c7x : zB (g2_ 1 0 7) 1 12 := by first | assumption | (constructor <;> omega)
        refine z_aload_n (pc := 10) C dX8_weighAlone_10 rfl ?_
        refine z_getR (pc := 11) C zf_X8_25 rfl rfl (by decide) dX8_weighAlone_11 ?_
        refine z_iload_n (pc := 14) C dX8_weighAlone_14 rfl ?_
        refine z_aald (pc := 15) C rfl ⟨rfl, by decide⟩ (by decide) (zIx b5x (by decide) (by decide)) dX8_weighAlone_15 ?_
        refine w_grx (by have hq := zN b5x (by decide); show 12 * 0 + a2_2.toNatClampNeg < 36; omega) (fun m8 q8r h8x => ?_)
        have q8r : m8 = 12 * 0 + a2_2.toNatClampNeg := q8r
        have k8r : a2_2.toNatClampNeg = a2_2.toInt.toNat := rfl
        refine z_astore_n (pc := 16) C dX8_weighAlone_16 (by rw [hn]; decide) rfl ?_
        refine z_aload_n (pc := 17) C dX8_weighAlone_17 rfl ?_
        refine z_aload_n (pc := 18) C dX8_weighAlone_18 rfl ?_
        refine z_aload_n (pc := 19) C dX8_weighAlone_19 rfl ?_
        refine z_getR (pc := 20) C zf_X8_19 rfl rfl (by decide) dX8_weighAlone_20 ?_
        refine z_iload_n (pc := 23) C dX8_weighAlone_23 rfl ?_
        refine z_aald (pc := 24) C rfl ⟨rfl, by decide⟩ (by decide) (zIx b1 (by decide) (by decide)) dX8_weighAlone_24 ?_
        refine w_grx (by have hq := zN b1 (by decide); show 8 * 0 + a1.toNatClampNeg < 16; omega) (fun m9 q9r h9x => ?_)
        have q9r : m9 = 8 * 0 + a1.toNatClampNeg := q9r
        have k9r : a1.toNatClampNeg = a1.toInt.toNat := rfl
        refine z_callV (pc := 25) C zk_X8_100 (x_X4_isFor _ _ m8 h8x m9 h9x hI2_) rfl rfl h8x rfl rfl (Nat.le_of_ble_eq_true rfl) dX8_weighAlone_25 (fun r10 g10 q10 => ?_)
        obtain ⟨⟨v10, rfl, b10x⟩, hI10, hF10q, hp10_0⟩ := q10
        have hp10_0 := hp10_0 _ rfl
        obtain rfl := zFr_nil hF10q
        simp only [Option.toList, List.cons_append, List.nil_append]
        refine z_if_eq (pc := 28) 37 C dX8_weighAlone_28 (by decide) (fun h28_10 => ?_) (fun h28_10 => ?_)
        · skip
          have b12x : zB v10 0 0 := by have q1 := b10x; have q2 := (zB.of (x := 0) 0 (by decide)); simp only [z32lt, z32le, z32eq, Int32.reduceToInt, Int32.toInt_zero] at h28_10; constructor <;> omega
          refine z_iconst (pc := 37) (v := 0) C dX8_weighAlone_37 (by decide) ?_
          refine z_putI (pc := 38) C zf_X8_137 zp_4_8 rfl rfl h8x dX8_weighAlone_38 ?_
          refine w_memx hI2_ hF2_ (zB.wk (a' := 0) (b' := 255) (zB.of (x := 0) 0 (by decide)) (by decide) (by decide)) rfl (fun g13 qm13 hI13 hF13 hq13 hx13 => ?_)
          have ek13_1_0_7 : (g13 1 0 7).toInt = (g2_ 1 0 7).toInt := by rw [hq13 1 0 7 (by omega)]
          have c13_1_0_7x : zB (g13 1 0 7) 1 12 := by rw [hq13 1 0 7 (by omega)]; exact c7x
          refine z_aload_n (pc := 41) C dX8_weighAlone_41 rfl ?_
          refine z_aload_n (pc := 42) C dX8_weighAlone_42 rfl ?_
          refine z_getR (pc := 43) C zf_X8_19 rfl rfl (by decide) dX8_weighAlone_43 ?_
          refine z_iload_n (pc := 46) C dX8_weighAlone_46 rfl ?_
          refine z_aald (pc := 47) C rfl ⟨rfl, by decide⟩ (by decide) (zIx b1 (by decide) (by decide)) dX8_weighAlone_47 ?_
          refine w_grx (by have hq := zN b1 (by decide); show 8 * 0 + a1.toNatClampNeg < 16; omega) (fun m14 q14r h14x => ?_)
          have q14r : m14 = 8 * 0 + a1.toNatClampNeg := q14r
          have k14r : a1.toNatClampNeg = a1.toInt.toNat := rfl
          refine z_aload_n (pc := 48) C dX8_weighAlone_48 rfl ?_
          refine z_getI (pc := 49) C zf_X8_117 rfl rfl h8x dX8_weighAlone_49 ?_
          refine w_gp (fun v => v = g13 11 m8 2) rfl (fun v16 q16 => ?_)
          have b16x : zB v16 0 5 := by rw [q16]; exact (hI13 11 m8 2)
          refine z_callV (pc := 52) C zk_X8_120 (x_X1_isDeadly _ _ m14 h14x v16 b16x hI13) rfl rfl h14x rfl rfl (Nat.le_of_ble_eq_true rfl) dX8_weighAlone_52 (fun r17 g17 q17 => ?_)
          obtain ⟨⟨v17, rfl, b17x⟩, hI17, hF17q, hp17_0⟩ := q17
          have hp17_0 := hp17_0 _ rfl
          obtain rfl := zFr_nil hF17q
          simp only [Option.toList, List.cons_append, List.nil_append]
          refine z_if_eq (pc := 55) 64 C dX8_weighAlone_55 (by decide) (fun h55_17 => ?_) (fun h55_17 => ?_)
          · skip
            have b19x : zB v17 0 0 := by have q1 := b17x; have q2 := (zB.of (x := 0) 0 (by decide)); simp only [z32lt, z32le, z32eq, Int32.reduceToInt, Int32.toInt_zero] at h55_17; constructor <;> omega
            refine z_iconst (pc := 64) (v := 0) C dX8_weighAlone_64 (by decide) ?_
            refine z_putI (pc := 65) C zf_X8_140 zp_4_9 rfl rfl h8x dX8_weighAlone_65 ?_
            refine w_memx hI13 hF13 (zB.wk (a' := 0) (b' := 255) (zB.of (x := 0) 0 (by decide)) (by decide) (by decide)) rfl (fun g20 qm20 hI20 hF20 hq20 hx20 => ?_)
            have ek20_1_0_7 : (g20 1 0 7).toInt = (g13 1 0 7).toInt := by rw [hq20 1 0 7 (by omega)]
            have c20_1_0_7x : zB (g20 1 0 7) 1 12 := by rw [hq20 1 0 7 (by omega)]; exact c13_1_0_7x
            refine z_iinc (pc := 68) (v := 1) C dX8_weighAlone_68 rfl (by decide) (by rw [hn]; decide) rfl ?_
            obtain ⟨v21, hv21, e21⟩ : ∃ v : Int32, v = a2_2 + 1 ∧ v.toInt = a2_2.toInt + 1 := ⟨_, rfl, zadd_eb b5x (zB.of (x := 1) 1 (by decide)) (by decide) (by decide)⟩
            rw [← hv21]
            have b21x : zB v21 1 12 := by have q9 := b5x; constructor <;> omega
            refine z_goto (pc := 71) 2 C dX8_weighAlone_71 (by decide) ?_
            refine w_mask [3] ?_
            exact ih0 v21 (zB.wk (a' := 0) (b' := 12) b21x (by decide) (by decide)) g20 hI20 hF20 (zB.wk c20_1_0_7x (by decide) (by decide)) (by
                                                                                          have hx : m8 = a2_2.toInt.toNat := by omega
                                                                                          have hx2 : m9 = a1.toInt.toNat := by omega
                                                                                          have hx3 : m14 = a1.toInt.toNat := by omega
                                                                                          have hn : (v21).toInt.toNat = a2_2.toInt.toNat + 1 := by omega
                                                                                          have hi : a1 = nI a1.toInt.toNat := (nI_ofI (by omega)).1
                                                                                          have k11 : ∀ q j, j < 8 → g2_ 11 q j = f 11 q j := fun q j hj => by rcases (show j = 0 ∨ j = 1 ∨ j = 2 ∨ j = 3 ∨ j = 4 ∨ j = 5 ∨ j = 6 ∨ j = 7 by omega) with rfl | rfl | rfl | rfl | rfl | rfl | rfl | rfl <;> exact hF2_ 11 q _ rfl
                                                                                          have k8 : ∀ n j, g2_ 8 n j = f 8 n j := fun n j => hF2_ 8 n j rfl
                                                                                          have k9 : ∀ n j, g2_ 9 n j = f 9 n j := fun n j => hF2_ 9 n j rfl
                                                                                          have k10 : ∀ n j, g2_ 10 n j = f 10 n j := fun n j => hF2_ 10 n j rfl
                                                                                          have k6 : ∀ n j, g2_ 6 n j = f 6 n j := fun n j => hF2_ 6 n j rfl
                                                                                          have g0 : ∀ a b c, ¬ (a = 11 ∧ b = a2_2.toInt.toNat ∧ c = 8) → g13 a b c = g2_ a b c := fun a b c h => by rw [qm13, hx]; exact zup_ne _ _ h
                                                                                          have ha := hp10_0
                                                                                          rw [hx, hx2, zcx_k (k11 _) k8 k9 k10] at ha
                                                                                          have hb := hp17_0
                                                                                          have r49 := q16
                                                                                          rw [hx, g0 11 _ 2 (by omega), k11 _ 2 (by decide)] at r49
                                                                                          rw [hx3, g0 8 _ 7 (by omega), k8, r49] at hb
                                                                                          intro q hq
                                                                                          rw [hn] at hq
                                                                                          by_cases e : q = a2_2.toInt.toNat
                                                                                          · rw [e]
                                                                                            refine ⟨?_, ?_⟩
                                                                                            · rw [qm20, zup_ne _ _ (by omega), qm13, hx, zup_same]
                                                                                              exact zone_n (zbo_n ha (by omega))
                                                                                            · rw [qm20, hx, zup_same]
                                                                                              exact zone_n (zbo_n hb (by omega))
                                                                                          · have hp := hR2_0 q (by omega)
                                                                                            have e1 : ∀ j, g20 11 q j = g2_ 11 q j := fun j => by rw [qm20, zup_ne _ _ (by omega), g0 11 q j (by omega)]
                                                                                            rw [e1, e1]; exact hp) (by omega) (by omega) (by omega)
          · skip
            have b22x : zB v17 1 1 := by have q1 := b17x; have q2 := (zB.of (x := 0) 0 (by decide)); simp only [z32lt, z32le, z32eq, Int32.reduceToInt, Int32.toInt_zero] at h55_17; constructor <;> omega
            refine z_iconst (pc := 58) (v := 1) C dX8_weighAlone_58 (by decide) ?_
            refine z_iload_n (pc := 59) C dX8_weighAlone_59 rfl ?_
            refine z_ishl (pc := 60) C dX8_weighAlone_60 ?_
            refine w_gp (fun v => v = (1 : Int32) <<< (a1 &&& 31)) rfl (fun v23 q23 => ?_)
            have b23x : zB v23 0 128 := by rw [q23]; exact (zshl_b b1 7 (by decide) (by decide))
            refine z_goto (pc := 61) 65 C dX8_weighAlone_61 (by decide) ?_
            refine z_putI (pc := 65) C zf_X8_140 zp_4_9 rfl rfl h8x dX8_weighAlone_65 ?_
            refine w_memx hI13 hF13 (zB.wk (a' := 0) (b' := 255) b23x (by decide) (by decide)) rfl (fun g24 qm24 hI24 hF24 hq24 hx24 => ?_)
            have ek24_1_0_7 : (g24 1 0 7).toInt = (g13 1 0 7).toInt := by rw [hq24 1 0 7 (by omega)]
            have c24_1_0_7x : zB (g24 1 0 7) 1 12 := by rw [hq24 1 0 7 (by omega)]; exact c13_1_0_7x
            refine z_iinc (pc := 68) (v := 1) C dX8_weighAlone_68 rfl (by decide) (by rw [hn]; decide) rfl ?_
            obtain ⟨v25, hv25, e25⟩ : ∃ v : Int32, v = a2_2 + 1 ∧ v.toInt = a2_2.toInt + 1 := ⟨_, rfl, zadd_eb b5x (zB.of (x := 1) 1 (by decide)) (by decide) (by decide)⟩
            rw [← hv25]
            have b25x : zB v25 1 12 := by have q9 := b5x; constructor <;> omega
            refine z_goto (pc := 71) 2 C dX8_weighAlone_71 (by decide) ?_
            refine w_mask [3] ?_
            exact ih0 v25 (zB.wk (a' := 0) (b' := 12) b25x (by decide) (by decide)) g24 hI24 hF24 (zB.wk c24_1_0_7x (by decide) (by decide)) (by
                                                                                          have hx : m8 = a2_2.toInt.toNat := by omega
                                                                                          have hx2 : m9 = a1.toInt.toNat := by omega
                                                                                          have hx3 : m14 = a1.toInt.toNat := by omega
                                                                                          have hn : (v25).toInt.toNat = a2_2.toInt.toNat + 1 := by omega
                                                                                          have hi : a1 = nI a1.toInt.toNat := (nI_ofI (by omega)).1
                                                                                          have k11 : ∀ q j, j < 8 → g2_ 11 q j = f 11 q j := fun q j hj => by rcases (show j = 0 ∨ j = 1 ∨ j = 2 ∨ j = 3 ∨ j = 4 ∨ j = 5 ∨ j = 6 ∨ j = 7 by omega) with rfl | rfl | rfl | rfl | rfl | rfl | rfl | rfl <;> exact hF2_ 11 q _ rfl
                                                                                          have k8 : ∀ n j, g2_ 8 n j = f 8 n j := fun n j => hF2_ 8 n j rfl
                                                                                          have k9 : ∀ n j, g2_ 9 n j = f 9 n j := fun n j => hF2_ 9 n j rfl
                                                                                          have k10 : ∀ n j, g2_ 10 n j = f 10 n j := fun n j => hF2_ 10 n j rfl
                                                                                          have k6 : ∀ n j, g2_ 6 n j = f 6 n j := fun n j => hF2_ 6 n j rfl
                                                                                          have g0 : ∀ a b c, ¬ (a = 11 ∧ b = a2_2.toInt.toNat ∧ c = 8) → g13 a b c = g2_ a b c := fun a b c h => by rw [qm13, hx]; exact zup_ne _ _ h
                                                                                          have ha := hp10_0
                                                                                          rw [hx, hx2, zcx_k (k11 _) k8 k9 k10] at ha
                                                                                          have hb := hp17_0
                                                                                          have r49 := q16
                                                                                          rw [hx, g0 11 _ 2 (by omega), k11 _ 2 (by decide)] at r49
                                                                                          rw [hx3, g0 8 _ 7 (by omega), k8, r49] at hb
                                                                                          intro q hq
                                                                                          rw [hn] at hq
                                                                                          by_cases e : q = a2_2.toInt.toNat
                                                                                          · rw [e]
                                                                                            refine ⟨?_, ?_⟩
                                                                                            · rw [qm24, zup_ne _ _ (by omega), qm13, hx, zup_same]
                                                                                              exact zone_n (zbo_n ha (by omega))
                                                                                            · rw [qm24, hx, zup_same]
                                                                                              rw [q23, show (1 : Int32) <<< (a1 &&& 31) = 1 <<< (nI a1.toInt.toNat &&& 31) by rw [← hi]]; exact zone_y (by omega) (zbo_y hb (by omega))
                                                                                          · have hp := hR2_0 q (by omega)
                                                                                            have e1 : ∀ j, g24 11 q j = g2_ 11 q j := fun j => by rw [qm24, zup_ne _ _ (by omega), g0 11 q j (by omega)]
                                                                                            rw [e1, e1]; exact hp) (by omega) (by omega) (by omega)
        · skip
          have b26x : zB v10 1 1 := by have q1 := b10x; have q2 := (zB.of (x := 0) 0 (by decide)); simp only [z32lt, z32le, z32eq, Int32.reduceToInt, Int32.toInt_zero] at h28_10; constructor <;> omega
          refine z_iconst (pc := 31) (v := 1) C dX8_weighAlone_31 (by decide) ?_
          refine z_iload_n (pc := 32) C dX8_weighAlone_32 rfl ?_
          refine z_ishl (pc := 33) C dX8_weighAlone_33 ?_
          refine w_gp (fun v => v = (1 : Int32) <<< (a1 &&& 31)) rfl (fun v27 q27 => ?_)
          have b27x : zB v27 0 128 := by rw [q27]; exact (zshl_b b1 7 (by decide) (by decide))
          refine z_goto (pc := 34) 38 C dX8_weighAlone_34 (by decide) ?_
          refine z_putI (pc := 38) C zf_X8_137 zp_4_8 rfl rfl h8x dX8_weighAlone_38 ?_
          refine w_memx hI2_ hF2_ (zB.wk (a' := 0) (b' := 255) b27x (by decide) (by decide)) rfl (fun g28 qm28 hI28 hF28 hq28 hx28 => ?_)
          have ek28_1_0_7 : (g28 1 0 7).toInt = (g2_ 1 0 7).toInt := by rw [hq28 1 0 7 (by omega)]
          have c28_1_0_7x : zB (g28 1 0 7) 1 12 := by rw [hq28 1 0 7 (by omega)]; exact c7x
          refine z_aload_n (pc := 41) C dX8_weighAlone_41 rfl ?_
          refine z_aload_n (pc := 42) C dX8_weighAlone_42 rfl ?_
          refine z_getR (pc := 43) C zf_X8_19 rfl rfl (by decide) dX8_weighAlone_43 ?_
          refine z_iload_n (pc := 46) C dX8_weighAlone_46 rfl ?_
          refine z_aald (pc := 47) C rfl ⟨rfl, by decide⟩ (by decide) (zIx b1 (by decide) (by decide)) dX8_weighAlone_47 ?_
          refine w_grx (by have hq := zN b1 (by decide); show 8 * 0 + a1.toNatClampNeg < 16; omega) (fun m29 q29r h29x => ?_)
          have q29r : m29 = 8 * 0 + a1.toNatClampNeg := q29r
          have k29r : a1.toNatClampNeg = a1.toInt.toNat := rfl
          refine z_aload_n (pc := 48) C dX8_weighAlone_48 rfl ?_
          refine z_getI (pc := 49) C zf_X8_117 rfl rfl h8x dX8_weighAlone_49 ?_
          refine w_gp (fun v => v = g28 11 m8 2) rfl (fun v31 q31 => ?_)
          have b31x : zB v31 0 5 := by rw [q31]; exact (hI28 11 m8 2)
          refine z_callV (pc := 52) C zk_X8_120 (x_X1_isDeadly _ _ m29 h29x v31 b31x hI28) rfl rfl h29x rfl rfl (Nat.le_of_ble_eq_true rfl) dX8_weighAlone_52 (fun r32 g32 q32 => ?_)
          obtain ⟨⟨v32, rfl, b32x⟩, hI32, hF32q, hp32_0⟩ := q32
          have hp32_0 := hp32_0 _ rfl
          obtain rfl := zFr_nil hF32q
          simp only [Option.toList, List.cons_append, List.nil_append]
          refine z_if_eq (pc := 55) 64 C dX8_weighAlone_55 (by decide) (fun h55_32 => ?_) (fun h55_32 => ?_)
          · skip
            have b34x : zB v32 0 0 := by have q1 := b32x; have q2 := (zB.of (x := 0) 0 (by decide)); simp only [z32lt, z32le, z32eq, Int32.reduceToInt, Int32.toInt_zero] at h55_32; constructor <;> omega
            refine z_iconst (pc := 64) (v := 0) C dX8_weighAlone_64 (by decide) ?_
            refine z_putI (pc := 65) C zf_X8_140 zp_4_9 rfl rfl h8x dX8_weighAlone_65 ?_
            refine w_memx hI28 hF28 (zB.wk (a' := 0) (b' := 255) (zB.of (x := 0) 0 (by decide)) (by decide) (by decide)) rfl (fun g35 qm35 hI35 hF35 hq35 hx35 => ?_)
            have ek35_1_0_7 : (g35 1 0 7).toInt = (g28 1 0 7).toInt := by rw [hq35 1 0 7 (by omega)]
            have c35_1_0_7x : zB (g35 1 0 7) 1 12 := by rw [hq35 1 0 7 (by omega)]; exact c28_1_0_7x
            refine z_iinc (pc := 68) (v := 1) C dX8_weighAlone_68 rfl (by decide) (by rw [hn]; decide) rfl ?_
            obtain ⟨v36, hv36, e36⟩ : ∃ v : Int32, v = a2_2 + 1 ∧ v.toInt = a2_2.toInt + 1 := ⟨_, rfl, zadd_eb b5x (zB.of (x := 1) 1 (by decide)) (by decide) (by decide)⟩
            rw [← hv36]
            have b36x : zB v36 1 12 := by have q9 := b5x; constructor <;> omega
            refine z_goto (pc := 71) 2 C dX8_weighAlone_71 (by decide) ?_
            refine w_mask [3] ?_
            exact ih0 v36 (zB.wk (a' := 0) (b' := 12) b36x (by decide) (by decide)) g35 hI35 hF35 (zB.wk c35_1_0_7x (by decide) (by decide)) (by
                                                                                          have hx : m8 = a2_2.toInt.toNat := by omega
                                                                                          have hx2 : m9 = a1.toInt.toNat := by omega
                                                                                          have hx3 : m29 = a1.toInt.toNat := by omega
                                                                                          have hn : (v36).toInt.toNat = a2_2.toInt.toNat + 1 := by omega
                                                                                          have hi : a1 = nI a1.toInt.toNat := (nI_ofI (by omega)).1
                                                                                          have k11 : ∀ q j, j < 8 → g2_ 11 q j = f 11 q j := fun q j hj => by rcases (show j = 0 ∨ j = 1 ∨ j = 2 ∨ j = 3 ∨ j = 4 ∨ j = 5 ∨ j = 6 ∨ j = 7 by omega) with rfl | rfl | rfl | rfl | rfl | rfl | rfl | rfl <;> exact hF2_ 11 q _ rfl
                                                                                          have k8 : ∀ n j, g2_ 8 n j = f 8 n j := fun n j => hF2_ 8 n j rfl
                                                                                          have k9 : ∀ n j, g2_ 9 n j = f 9 n j := fun n j => hF2_ 9 n j rfl
                                                                                          have k10 : ∀ n j, g2_ 10 n j = f 10 n j := fun n j => hF2_ 10 n j rfl
                                                                                          have k6 : ∀ n j, g2_ 6 n j = f 6 n j := fun n j => hF2_ 6 n j rfl
                                                                                          have g0 : ∀ a b c, ¬ (a = 11 ∧ b = a2_2.toInt.toNat ∧ c = 8) → g28 a b c = g2_ a b c := fun a b c h => by rw [qm28, hx]; exact zup_ne _ _ h
                                                                                          have ha := hp10_0
                                                                                          rw [hx, hx2, zcx_k (k11 _) k8 k9 k10] at ha
                                                                                          have hb := hp32_0
                                                                                          have r49 := q31
                                                                                          rw [hx, g0 11 _ 2 (by omega), k11 _ 2 (by decide)] at r49
                                                                                          rw [hx3, g0 8 _ 7 (by omega), k8, r49] at hb
                                                                                          intro q hq
                                                                                          rw [hn] at hq
                                                                                          by_cases e : q = a2_2.toInt.toNat
                                                                                          · rw [e]
                                                                                            refine ⟨?_, ?_⟩
                                                                                            · rw [qm35, zup_ne _ _ (by omega), qm28, hx, zup_same]
                                                                                              rw [q27, show (1 : Int32) <<< (a1 &&& 31) = 1 <<< (nI a1.toInt.toNat &&& 31) by rw [← hi]]; exact zone_y (by omega) (zbo_y ha (by omega))
                                                                                            · rw [qm35, hx, zup_same]
                                                                                              exact zone_n (zbo_n hb (by omega))
                                                                                          · have hp := hR2_0 q (by omega)
                                                                                            have e1 : ∀ j, g35 11 q j = g2_ 11 q j := fun j => by rw [qm35, zup_ne _ _ (by omega), g0 11 q j (by omega)]
                                                                                            rw [e1, e1]; exact hp) (by omega) (by omega) (by omega)
          · skip
            have b37x : zB v32 1 1 := by have q1 := b32x; have q2 := (zB.of (x := 0) 0 (by decide)); simp only [z32lt, z32le, z32eq, Int32.reduceToInt, Int32.toInt_zero] at h55_32; constructor <;> omega
            refine z_iconst (pc := 58) (v := 1) C dX8_weighAlone_58 (by decide) ?_
            refine z_iload_n (pc := 59) C dX8_weighAlone_59 rfl ?_
            refine z_ishl (pc := 60) C dX8_weighAlone_60 ?_
            refine w_gp (fun v => v = (1 : Int32) <<< (a1 &&& 31)) rfl (fun v38 q38 => ?_)
            have b38x : zB v38 0 128 := by rw [q38]; exact (zshl_b b1 7 (by decide) (by decide))
            refine z_goto (pc := 61) 65 C dX8_weighAlone_61 (by decide) ?_
            refine z_putI (pc := 65) C zf_X8_140 zp_4_9 rfl rfl h8x dX8_weighAlone_65 ?_
            refine w_memx hI28 hF28 (zB.wk (a' := 0) (b' := 255) b38x (by decide) (by decide)) rfl (fun g39 qm39 hI39 hF39 hq39 hx39 => ?_)
            have ek39_1_0_7 : (g39 1 0 7).toInt = (g28 1 0 7).toInt := by rw [hq39 1 0 7 (by omega)]
            have c39_1_0_7x : zB (g39 1 0 7) 1 12 := by rw [hq39 1 0 7 (by omega)]; exact c28_1_0_7x
            refine z_iinc (pc := 68) (v := 1) C dX8_weighAlone_68 rfl (by decide) (by rw [hn]; decide) rfl ?_
            obtain ⟨v40, hv40, e40⟩ : ∃ v : Int32, v = a2_2 + 1 ∧ v.toInt = a2_2.toInt + 1 := ⟨_, rfl, zadd_eb b5x (zB.of (x := 1) 1 (by decide)) (by decide) (by decide)⟩
            rw [← hv40]
            have b40x : zB v40 1 12 := by have q9 := b5x; constructor <;> omega
            refine z_goto (pc := 71) 2 C dX8_weighAlone_71 (by decide) ?_
            refine w_mask [3] ?_
            exact ih0 v40 (zB.wk (a' := 0) (b' := 12) b40x (by decide) (by decide)) g39 hI39 hF39 (zB.wk c39_1_0_7x (by decide) (by decide)) (by
                                                                                          have hx : m8 = a2_2.toInt.toNat := by omega
                                                                                          have hx2 : m9 = a1.toInt.toNat := by omega
                                                                                          have hx3 : m29 = a1.toInt.toNat := by omega
                                                                                          have hn : (v40).toInt.toNat = a2_2.toInt.toNat + 1 := by omega
                                                                                          have hi : a1 = nI a1.toInt.toNat := (nI_ofI (by omega)).1
                                                                                          have k11 : ∀ q j, j < 8 → g2_ 11 q j = f 11 q j := fun q j hj => by rcases (show j = 0 ∨ j = 1 ∨ j = 2 ∨ j = 3 ∨ j = 4 ∨ j = 5 ∨ j = 6 ∨ j = 7 by omega) with rfl | rfl | rfl | rfl | rfl | rfl | rfl | rfl <;> exact hF2_ 11 q _ rfl
                                                                                          have k8 : ∀ n j, g2_ 8 n j = f 8 n j := fun n j => hF2_ 8 n j rfl
                                                                                          have k9 : ∀ n j, g2_ 9 n j = f 9 n j := fun n j => hF2_ 9 n j rfl
                                                                                          have k10 : ∀ n j, g2_ 10 n j = f 10 n j := fun n j => hF2_ 10 n j rfl
                                                                                          have k6 : ∀ n j, g2_ 6 n j = f 6 n j := fun n j => hF2_ 6 n j rfl
                                                                                          have g0 : ∀ a b c, ¬ (a = 11 ∧ b = a2_2.toInt.toNat ∧ c = 8) → g28 a b c = g2_ a b c := fun a b c h => by rw [qm28, hx]; exact zup_ne _ _ h
                                                                                          have ha := hp10_0
                                                                                          rw [hx, hx2, zcx_k (k11 _) k8 k9 k10] at ha
                                                                                          have hb := hp32_0
                                                                                          have r49 := q31
                                                                                          rw [hx, g0 11 _ 2 (by omega), k11 _ 2 (by decide)] at r49
                                                                                          rw [hx3, g0 8 _ 7 (by omega), k8, r49] at hb
                                                                                          intro q hq
                                                                                          rw [hn] at hq
                                                                                          by_cases e : q = a2_2.toInt.toNat
                                                                                          · rw [e]
                                                                                            refine ⟨?_, ?_⟩
                                                                                            · rw [qm39, zup_ne _ _ (by omega), qm28, hx, zup_same]
                                                                                              rw [q27, show (1 : Int32) <<< (a1 &&& 31) = 1 <<< (nI a1.toInt.toNat &&& 31) by rw [← hi]]; exact zone_y (by omega) (zbo_y ha (by omega))
                                                                                            · rw [qm39, hx, zup_same]
                                                                                              rw [q38, show (1 : Int32) <<< (a1 &&& 31) = 1 <<< (nI a1.toInt.toNat &&& 31) by rw [← hi]]; exact zone_y (by omega) (zbo_y hb (by omega))
                                                                                          · have hp := hR2_0 q (by omega)
                                                                                            have e1 : ∀ j, g39 11 q j = g2_ 11 q j := fun j => by rw [qm39, zup_ne _ _ (by omega), g0 11 q j (by omega)]
                                                                                            rw [e1, e1]; exact hp) (by omega) (by omega) (by omega)
  have J0 := J 51
  show Z X 0 [some (zr 1 0), some (zi a1), none, none] [] f
  refine z_iconst (pc := 0) (v := 0) C dX8_weighAlone_0 (by decide) ?_
  refine z_istore_n (pc := 1) C dX8_weighAlone_1 (by rw [hn]; decide) rfl ?_
  exact J0 0 (zB.wk (a' := 0) (b' := 12) (zB.of (x := 0) 0 (by decide)) (by decide) (by decide)) f hI hF ct1_0_7 (by intro q hq; exact absurd hq (Nat.not_lt_zero q)) (by have qc0 : (0 : Int32).toInt = 0 := (by decide); omega) (by have qc0 : (0 : Int32).toInt = 0 := (by decide); omega) (by have qc0 : (0 : Int32).toInt = 0 := (by decide); omega)

set_option maxRecDepth 100000 in
set_option maxHeartbeats 4000000 in
theorem x_X5_relax (d : Nat) (f : zM) (a1 : Int32) (b1 : zB a1 0 2000) (a2 : Int32) (b2 : zB a2 0 7) (hp0 : zWa f a2.toInt.toNat) (hI : zInv f) : ZM (d + 2) yX5_relax cX5_relax 7 (some .boolean) [zr 13 0, zi a1, zi a2] f (fun r g => (∃ v, r = some (zi v) ∧ zB v 0 1) ∧ zInv g ∧ zFr [(17, none)] f g ∧ (∀ v : Int32, r = some (zi v) → (∀ j, j < (f 1 0 7).toInt.toNat → (g 17 0 j).toInt = zrx (fun j => zfa f j a2.toInt.toNat (f 6 2 1) (f 6 2 4) (f 6 2 5) (f 6 2 6)) (zWx_ f a2.toInt.toNat) a1.toInt (fun j => (f 17 0 j).toInt) (f 1 0 7).toInt.toNat j)) ∧ (∀ v : Int32, r = some (zi v) → (v = 0 → ∀ j, j < (f 1 0 7).toInt.toNat → (g 17 0 j).toInt = (f 17 0 j).toInt))) := by
  refine ZM.intro (by decide +kernel) (Nat.le_of_ble_eq_true rfl) ?_
  intro X C hr hn
  have hF : zFr [(17, none)] f f := zFr.rf _ _
  have ct1_0_7 : zB (f 1 0 7) 0 12 := hI 1 0 7
  have J : ∀ t : Nat, (∀ a5_3 : Int32, zB a5_3 0 1 → ∀ a5_4 : Int32, zB a5_4 0 12 → ∀ g : zM, zInv g → zFr [(17, none)] f g → zB (g 1 0 7) 0 12 → ((∀ j, j < (f 1 0 7).toInt.toNat → (g 17 0 j).toInt = zrx (fun j => zfa f j a2.toInt.toNat (f 6 2 1) (f 6 2 4) (f 6 2 5) (f 6 2 6)) (zWx_ f a2.toInt.toNat) a1.toInt (fun j => (f 17 0 j).toInt) a5_4.toInt.toNat j)) → ((a5_3 = 0 → ∀ j, j < (f 1 0 7).toInt.toNat → (g 17 0 j).toInt = (f 17 0 j).toInt)) → (a5_4.toInt ≤ (f 1 0 7).toInt) → ((g 1 0 7).toInt = (f 1 0 7).toInt) → (0 + 3 * (12 - a5_4.toInt) : Int) < t → Z X 5 [some (zr 13 0), some (zi a1), some (zi a2), some (zi a5_3), some (zi a5_4), none, none] [] g) := by
    intro t
    induction t with
    | zero =>
      intros; exfalso; omega
    | succ t ih =>
      have ih0 := ih
      intro a5_3 b5_3 a5_4 b5_4 g5_ hI5_ hF5_ f5_1_0_7 hR5_0 hR5_1 hR5_2 hR5_3 hM5_
      refine z_iload (pc := 5) C dX5_relax_5 rfl ?_
      refine z_aload_n (pc := 7) C dX5_relax_7 rfl ?_
      refine z_getR (pc := 8) C zf_X5_31 rfl rfl (by decide) dX5_relax_8 ?_
      refine z_getI (pc := 11) C zf_X5_76 rfl rfl (by decide) dX5_relax_11 ?_
      refine w_gp (fun v => v = g5_ 1 0 7) rfl (fun v1 q1 => ?_)
      have e1 : v1.toInt = (g5_ 1 0 7).toInt := by rw [q1]
      have b1x : zB v1 0 12 := by first | exact zB.eqv e1 f5_1_0_7 | (have q9 := f5_1_0_7; constructor <;> omega)
      refine z_icmp_ge (pc := 14) 95 C dX5_relax_14 (by decide) (fun h14_1 => ?_) (fun h14_1 => ?_)
      · skip
        have rr3 : a5_4.toInt ≥ v1.toInt := by simp only [z32lt, z32le, z32eq] at h14_1; omega
        refine z_iload_n (pc := 95) C dX5_relax_95 rfl ?_
        exact z_zret (pc := 96) C hr (z01 b5_3) dX5_relax_96 ⟨⟨_, rfl, b5_3⟩, hI5_, hF5_, (by
                                                                                          intro v hv; cases hv
                                                                                          have hn : (f 1 0 7).toInt.toNat = a5_4.toInt.toNat := by omega
                                                                                          rw [hn] at hR5_0 ⊢
                                                                                          exact hR5_0), (by intro v hv; cases hv; exact hR5_1)⟩
      · skip
        have rr4 : a5_4.toInt < v1.toInt := by simp only [z32lt, z32le, z32eq] at h14_1; omega
        have b5x : zB a5_4 0 11 := by have q1 := b5_4; have q2 := b1x; simp only [z32lt, z32le, z32eq, Int32.reduceToInt, Int32.toInt_zero] at h14_1; constructor <;> omega
        have b6x : zB v1 1 12 := by have q1 := b5_4; have q2 := b1x; simp only [z32lt, z32le, z32eq, Int32.reduceToInt, Int32.toInt_zero] at h14_1; constructor <;> omega
        have c7x : zB (g5_ 1 0 7) 1 12 := by first | assumption | (constructor <;> omega)
        refine z_aload_n (pc := 17) C dX5_relax_17 rfl ?_
        refine z_getR (pc := 18) C zf_X5_31 rfl rfl (by decide) dX5_relax_18 ?_
        refine z_getR (pc := 21) C zf_X5_68 rfl rfl (by decide) dX5_relax_21 ?_
        refine z_iload (pc := 24) C dX5_relax_24 rfl ?_
        refine z_aald (pc := 26) C rfl ⟨rfl, by decide⟩ (by decide) (zIx b5x (by decide) (by decide)) dX5_relax_26 ?_
        refine w_grx (by have hq := zN b5x (by decide); show 12 * 0 + a5_4.toNatClampNeg < 36; omega) (fun m8 q8r h8x => ?_)
        have q8r : m8 = 12 * 0 + a5_4.toNatClampNeg := q8r
        have k8r : a5_4.toNatClampNeg = a5_4.toInt.toNat := rfl
        refine z_astore (pc := 27) C dX5_relax_27 (by rw [hn]; decide) rfl ?_
        refine z_iload_n (pc := 29) C dX5_relax_29 rfl ?_
        refine z_aload_n (pc := 30) C dX5_relax_30 rfl ?_
        refine z_getR (pc := 31) C zf_X5_31 rfl rfl (by decide) dX5_relax_31 ?_
        refine z_aload (pc := 34) C dX5_relax_34 rfl ?_
        refine z_aload_n (pc := 36) C dX5_relax_36 rfl ?_
        refine z_getR (pc := 37) C zf_X5_31 rfl rfl (by decide) dX5_relax_37 ?_
        refine z_getR (pc := 40) C zf_X5_111 rfl rfl (by decide) dX5_relax_40 ?_
        refine z_iload_n (pc := 43) C dX5_relax_43 rfl ?_
        refine z_aald (pc := 44) C rfl ⟨rfl, by decide⟩ (by decide) (zIx b2 (by decide) (by decide)) dX5_relax_44 ?_
        refine w_grx (by have hq := zN b2 (by decide); show 8 * 0 + a2.toNatClampNeg < 16; omega) (fun m9 q9r h9x => ?_)
        have q9r : m9 = 8 * 0 + a2.toNatClampNeg := q9r
        have k9r : a2.toNatClampNeg = a2.toInt.toNat := rfl
        refine z_callV (pc := 45) C zk_X5_124 (x_X8_barsAgainst _ _ m8 h8x m9 h9x hI5_) rfl rfl (by decide) rfl rfl (Nat.le_of_ble_eq_true rfl) dX5_relax_45 (fun r10 g10 q10 => ?_)
        obtain ⟨⟨v10, rfl, b10x⟩, hI10, hF10q, hp10_0⟩ := q10
        have hp10_0 := hp10_0 _ rfl
        obtain rfl := zFr_nil hF10q
        simp only [Option.toList, List.cons_append, List.nil_append]
        refine z_callS (pc := 48) C zk_X5_128 (x_J6_bitCount_0f7a4 _ _ v10 b10x hI5_) rfl rfl (Nat.le_of_ble_eq_true rfl) dX5_relax_48 (fun r11 g11 q11 => ?_)
        obtain ⟨⟨v11, rfl, b11x⟩, hI11, hF11q, hp11_0⟩ := q11
        have hp11_0 := hp11_0 _ rfl
        obtain rfl := zFr_nil hF11q
        simp only [Option.toList, List.cons_append, List.nil_append]
        refine z_iadd (pc := 51) C dX5_relax_51 ?_
        refine w_gp (fun v => v = a1 + v11) rfl (fun v12 q12 => ?_)
        have e12 : v12.toInt = a1.toInt + v11.toInt := by rw [q12]; exact (zadd_eb b1 b11x (by decide) (by decide))
        have b12x : zB v12 0 2063 := by have q1 := b1; have q2 := b11x; constructor <;> omega
        refine z_istore (pc := 52) C dX5_relax_52 (by rw [hn]; decide) rfl ?_
        refine z_iload (pc := 54) C dX5_relax_54 rfl ?_
        refine z_aload_n (pc := 56) C dX5_relax_56 rfl ?_
        refine z_getR (pc := 57) C zf_X5_28 rfl rfl (by decide) dX5_relax_57 ?_
        refine z_iload (pc := 60) C dX5_relax_60 rfl ?_
        refine z_iald (pc := 62) C rfl (by decide) (zIx b5x (by decide) (by decide)) dX5_relax_62 ?_
        have kq62_12 : a5_4.toNatClampNeg = a5_4.toInt.toNat := rfl
        refine w_gp (fun v => v = g5_ 17 0 a5_4.toNatClampNeg) rfl (fun v13 q13 => ?_)
        have b13x : zB v13 0 2000 := by rw [q13]; exact (hI5_ 17 0 a5_4.toNatClampNeg)
        refine z_icmp_ge (pc := 63) 89 C dX5_relax_63 (by decide) (fun h63_13 => ?_) (fun h63_13 => ?_)
        · skip
          have rr15 : v12.toInt ≥ v13.toInt := by simp only [z32lt, z32le, z32eq] at h63_13; omega
          refine z_iinc (pc := 89) (v := 1) C dX5_relax_89 rfl (by decide) (by rw [hn]; decide) rfl ?_
          obtain ⟨v16, hv16, e16⟩ : ∃ v : Int32, v = a5_4 + 1 ∧ v.toInt = a5_4.toInt + 1 := ⟨_, rfl, zadd_eb b5x (zB.of (x := 1) 1 (by decide)) (by decide) (by decide)⟩
          rw [← hv16]
          have b16x : zB v16 1 12 := by have q9 := b5x; constructor <;> omega
          refine z_goto (pc := 92) 5 C dX5_relax_92 (by decide) ?_
          refine w_mask [5, 6] ?_
          exact ih0 a5_3 b5_3 v16 (zB.wk (a' := 0) (b' := 12) b16x (by decide) (by decide)) g5_ hI5_ hF5_ (zB.wk c7x (by decide) (by decide)) (by
                                                                                          have hx : m8 = a5_4.toInt.toNat := by omega
                                                                                          have hx2 : m9 = a2.toInt.toNat := by omega
                                                                                          have hn : (v16).toInt.toNat = a5_4.toInt.toNat + 1 := by omega
                                                                                          have hq5 : a5_4.toNatClampNeg = a5_4.toInt.toNat := rfl
                                                                                          have k11 : ∀ q j, g5_ 11 q j = f 11 q j := fun q j => hF5_ 11 q j rfl
                                                                                          have k8 : ∀ n j, g5_ 8 n j = f 8 n j := fun n j => hF5_ 8 n j rfl
                                                                                          have k9 : ∀ n j, g5_ 9 n j = f 9 n j := fun n j => hF5_ 9 n j rfl
                                                                                          have k10 : ∀ n j, g5_ 10 n j = f 10 n j := fun n j => hF5_ 10 n j rfl
                                                                                          have k6 : ∀ n j, g5_ 6 n j = f 6 n j := fun n j => hF5_ 6 n j rfl
                                                                                          have hb := hp10_0
                                                                                          rw [hx, hx2, zbx_k0 (fun j _ => k11 _ j) k8 (k6 0 0) (k6 0 2)] at hb
                                                                                          have ho := hp11_0
                                                                                          rw [hb] at ho
                                                                                          have hw : (zWx_ f a2.toInt.toNat a5_4.toInt.toNat) = (zpn (zbx f a5_4.toInt.toNat a2.toInt.toNat) : Int) := rfl
                                                                                          have r62 : (v13).toInt = (f 17 0 a5_4.toInt.toNat).toInt := by
                                                                                            have h := q13
                                                                                            rw [hq5] at h
                                                                                            rw [h, hR5_0 _ (by omega), zrx_n (fun z => absurd z.1 (Nat.lt_irrefl _))]
                                                                                          intro j hj
                                                                                          rw [hn]
                                                                                          by_cases e : j = a5_4.toInt.toNat
                                                                                          · subst e
                                                                                            rw [hR5_0 _ hj, zrx_n (fun z => absurd z.1 (Nat.lt_irrefl _)), zrx_n (fun z => by have z2 := z.2.2; rw [hw] at z2; omega)]
                                                                                          · rw [hR5_0 j hj, zrx_o e]) (by exact hR5_1) (by omega) (by omega) (by omega)
        · skip
          have rr17 : v12.toInt < v13.toInt := by simp only [z32lt, z32le, z32eq] at h63_13; omega
          have b18x : zB v12 0 1999 := by have q1 := b12x; have q2 := b13x; simp only [z32lt, z32le, z32eq, Int32.reduceToInt, Int32.toInt_zero] at h63_13; constructor <;> omega
          have b19x : zB v13 1 2000 := by have q1 := b12x; have q2 := b13x; simp only [z32lt, z32le, z32eq, Int32.reduceToInt, Int32.toInt_zero] at h63_13; constructor <;> omega
          refine z_aload_n (pc := 66) C dX5_relax_66 rfl ?_
          refine z_getR (pc := 67) C zf_X5_12 rfl rfl (by decide) dX5_relax_67 ?_
          refine z_aload (pc := 70) C dX5_relax_70 rfl ?_
          refine z_callV (pc := 72) C zk_X5_79 (x_X3_goesBy _ _ 2 (by decide) m8 h8x hI5_) rfl rfl (by decide) rfl rfl (Nat.le_of_ble_eq_true rfl) dX5_relax_72 (fun r20 g20 q20 => ?_)
          obtain ⟨⟨v20, rfl, b20x⟩, hI20, hF20q, hp20_0⟩ := q20
          have hp20_0 := hp20_0 _ rfl
          obtain rfl := zFr_nil hF20q
          simp only [Option.toList, List.cons_append, List.nil_append]
          refine z_if_eq (pc := 75) 89 C dX5_relax_75 (by decide) (fun h75_20 => ?_) (fun h75_20 => ?_)
          · skip
            have b22x : zB v20 0 0 := by have q1 := b20x; have q2 := (zB.of (x := 0) 0 (by decide)); simp only [z32lt, z32le, z32eq, Int32.reduceToInt, Int32.toInt_zero] at h75_20; constructor <;> omega
            refine z_iinc (pc := 89) (v := 1) C dX5_relax_89 rfl (by decide) (by rw [hn]; decide) rfl ?_
            obtain ⟨v23, hv23, e23⟩ : ∃ v : Int32, v = a5_4 + 1 ∧ v.toInt = a5_4.toInt + 1 := ⟨_, rfl, zadd_eb b5x (zB.of (x := 1) 1 (by decide)) (by decide) (by decide)⟩
            rw [← hv23]
            have b23x : zB v23 1 12 := by have q9 := b5x; constructor <;> omega
            refine z_goto (pc := 92) 5 C dX5_relax_92 (by decide) ?_
            refine w_mask [5, 6] ?_
            exact ih0 a5_3 b5_3 v23 (zB.wk (a' := 0) (b' := 12) b23x (by decide) (by decide)) g5_ hI5_ hF5_ (zB.wk c7x (by decide) (by decide)) (by
                                                                                          have hx : m8 = a5_4.toInt.toNat := by omega
                                                                                          have hx2 : m9 = a2.toInt.toNat := by omega
                                                                                          have hn : (v23).toInt.toNat = a5_4.toInt.toNat + 1 := by omega
                                                                                          have hq5 : a5_4.toNatClampNeg = a5_4.toInt.toNat := rfl
                                                                                          have k11 : ∀ q j, g5_ 11 q j = f 11 q j := fun q j => hF5_ 11 q j rfl
                                                                                          have k8 : ∀ n j, g5_ 8 n j = f 8 n j := fun n j => hF5_ 8 n j rfl
                                                                                          have k9 : ∀ n j, g5_ 9 n j = f 9 n j := fun n j => hF5_ 9 n j rfl
                                                                                          have k10 : ∀ n j, g5_ 10 n j = f 10 n j := fun n j => hF5_ 10 n j rfl
                                                                                          have k6 : ∀ n j, g5_ 6 n j = f 6 n j := fun n j => hF5_ 6 n j rfl
                                                                                          have hb := hp10_0
                                                                                          rw [hx, hx2, zbx_k0 (fun j _ => k11 _ j) k8 (k6 0 0) (k6 0 2)] at hb
                                                                                          have ho := hp11_0
                                                                                          rw [hb] at ho
                                                                                          have hw : (zWx_ f a2.toInt.toNat a5_4.toInt.toNat) = (zpn (zbx f a5_4.toInt.toNat a2.toInt.toNat) : Int) := rfl
                                                                                          have r62 : (v13).toInt = (f 17 0 a5_4.toInt.toNat).toInt := by
                                                                                            have h := q13
                                                                                            rw [hq5] at h
                                                                                            rw [h, hR5_0 _ (by omega), zrx_n (fun z => absurd z.1 (Nat.lt_irrefl _))]
                                                                                          intro j hj
                                                                                          rw [hn]
                                                                                          by_cases e : j = a5_4.toInt.toNat
                                                                                          · subst e
                                                                                            have hg := hp20_0
                                                                                            rw [hx] at hg
                                                                                            have hf := zgw (f := f) (by omega) hp0 (by omega) (fun j => k11 _ j) hg
                                                                                            rw [k6, k6, k6, k6] at hf
                                                                                            rw [hR5_0 _ hj, zrx_n (fun z => absurd z.1 (Nat.lt_irrefl _)), zrx_n (fun z => hf.mpr z.2.1 (by assumption))]
                                                                                          · rw [hR5_0 j hj, zrx_o e]) (by exact hR5_1) (by omega) (by omega) (by omega)
          · skip
            have b24x : zB v20 1 255 := by have q1 := b20x; have q2 := (zB.of (x := 0) 0 (by decide)); simp only [z32lt, z32le, z32eq, Int32.reduceToInt, Int32.toInt_zero] at h75_20; constructor <;> omega
            refine z_aload_n (pc := 78) C dX5_relax_78 rfl ?_
            refine z_getR (pc := 79) C zf_X5_28 rfl rfl (by decide) dX5_relax_79 ?_
            refine z_iload (pc := 82) C dX5_relax_82 rfl ?_
            refine z_iload (pc := 84) C dX5_relax_84 rfl ?_
            have kw86_24 : a5_4.toNatClampNeg = a5_4.toInt.toNat := rfl
            refine z_iast (pc := 86) C rfl (by decide) (zIx b5x (by decide) (by decide)) dX5_relax_86 ?_
            refine w_memx hI5_ hF5_ (zB.wk (a' := 0) (b' := 2000) b18x (by decide) (by decide)) rfl (fun g25 qm25 hI25 hF25 hq25 hx25 => ?_)
            have ek25_1_0_7 : (g25 1 0 7).toInt = (g5_ 1 0 7).toInt := by rw [hq25 1 0 7 (by omega)]
            have c25_1_0_7x : zB (g25 1 0 7) 1 12 := by rw [hq25 1 0 7 (by omega)]; exact c7x
            refine z_iconst (pc := 87) (v := 1) C dX5_relax_87 (by decide) ?_
            refine z_istore_n (pc := 88) C dX5_relax_88 (by rw [hn]; decide) rfl ?_
            refine z_iinc (pc := 89) (v := 1) C dX5_relax_89 rfl (by decide) (by rw [hn]; decide) rfl ?_
            obtain ⟨v26, hv26, e26⟩ : ∃ v : Int32, v = a5_4 + 1 ∧ v.toInt = a5_4.toInt + 1 := ⟨_, rfl, zadd_eb b5x (zB.of (x := 1) 1 (by decide)) (by decide) (by decide)⟩
            rw [← hv26]
            have b26x : zB v26 1 12 := by have q9 := b5x; constructor <;> omega
            refine z_goto (pc := 92) 5 C dX5_relax_92 (by decide) ?_
            refine w_mask [5, 6] ?_
            exact ih0 1 (zB.wk (a' := 0) (b' := 1) (zB.of (x := 1) 1 (by decide)) (by decide) (by decide)) v26 (zB.wk (a' := 0) (b' := 12) b26x (by decide) (by decide)) g25 hI25 hF25 (zB.wk c25_1_0_7x (by decide) (by decide)) (by
                                                                                          have hx : m8 = a5_4.toInt.toNat := by omega
                                                                                          have hx2 : m9 = a2.toInt.toNat := by omega
                                                                                          have hn : (v26).toInt.toNat = a5_4.toInt.toNat + 1 := by omega
                                                                                          have hq5 : a5_4.toNatClampNeg = a5_4.toInt.toNat := rfl
                                                                                          have k11 : ∀ q j, g5_ 11 q j = f 11 q j := fun q j => hF5_ 11 q j rfl
                                                                                          have k8 : ∀ n j, g5_ 8 n j = f 8 n j := fun n j => hF5_ 8 n j rfl
                                                                                          have k9 : ∀ n j, g5_ 9 n j = f 9 n j := fun n j => hF5_ 9 n j rfl
                                                                                          have k10 : ∀ n j, g5_ 10 n j = f 10 n j := fun n j => hF5_ 10 n j rfl
                                                                                          have k6 : ∀ n j, g5_ 6 n j = f 6 n j := fun n j => hF5_ 6 n j rfl
                                                                                          have hb := hp10_0
                                                                                          rw [hx, hx2, zbx_k0 (fun j _ => k11 _ j) k8 (k6 0 0) (k6 0 2)] at hb
                                                                                          have ho := hp11_0
                                                                                          rw [hb] at ho
                                                                                          have hw : (zWx_ f a2.toInt.toNat a5_4.toInt.toNat) = (zpn (zbx f a5_4.toInt.toNat a2.toInt.toNat) : Int) := rfl
                                                                                          have r62 : (v13).toInt = (f 17 0 a5_4.toInt.toNat).toInt := by
                                                                                            have h := q13
                                                                                            rw [hq5] at h
                                                                                            rw [h, hR5_0 _ (by omega), zrx_n (fun z => absurd z.1 (Nat.lt_irrefl _))]
                                                                                          intro j hj
                                                                                          rw [hn]
                                                                                          by_cases e : j = a5_4.toInt.toNat
                                                                                          · subst e
                                                                                            have hg := hp20_0
                                                                                            rw [hx] at hg
                                                                                            have hf := zgw (f := f) (by omega) hp0 (by omega) (fun j => k11 _ j) hg
                                                                                            rw [k6, k6, k6, k6] at hf
                                                                                            rw [qm25, hq5, zup_same, zrx_y ⟨by omega, hf.mp (by assumption), by rw [hw]; omega⟩, hw]
                                                                                            omega
                                                                                          · rw [qm25, zup_ne _ _ (by omega), hR5_0 j hj, zrx_o e]) (by intro h; exact absurd h (by decide)) (by have qc0 : (1 : Int32).toInt = 1 := (by decide); omega) (by have qc0 : (1 : Int32).toInt = 1 := (by decide); omega) (by have qc0 : (1 : Int32).toInt = 1 := (by decide); omega)
  have J0 := J 51
  show Z X 0 [some (zr 13 0), some (zi a1), some (zi a2), none, none, none, none] [] f
  refine z_iconst (pc := 0) (v := 0) C dX5_relax_0 (by decide) ?_
  refine z_istore_n (pc := 1) C dX5_relax_1 (by rw [hn]; decide) rfl ?_
  refine z_iconst (pc := 2) (v := 0) C dX5_relax_2 (by decide) ?_
  refine z_istore (pc := 3) C dX5_relax_3 (by rw [hn]; decide) rfl ?_
  exact J0 0 (zB.wk (a' := 0) (b' := 1) (zB.of (x := 0) 0 (by decide)) (by decide) (by decide)) 0 (zB.wk (a' := 0) (b' := 12) (zB.of (x := 0) 0 (by decide)) (by decide) (by decide)) f hI hF ct1_0_7 (by intro j hj; unfold zrx; exact (if_neg (fun z => absurd z.1 (Nat.not_lt_zero j))).symm) (by intro _ j _; rfl) (by have qc0 : (0 : Int32).toInt = 0 := (by decide); omega) (by have qc0 : (0 : Int32).toInt = 0 := (by decide); omega) (by have qc0 : (0 : Int32).toInt = 0 := (by decide); omega)

theorem imin_e2 (a b : Int32) : (imin a b).toInt = (if b.toInt < a.toInt then b.toInt else a.toInt) := by
  unfold imin
  by_cases h : b < a
  · rw [if_pos h, if_pos ((z32lt _ _).mp h)]
  · rw [if_neg h, if_neg (fun q => h ((z32lt _ _).mpr q))]
/-- the class's words of MENDED -/
def zTRx (f : zM) (a : Int32) (d : Nat) : Prop := f 6 0 1 = a ∧ bt (zbf (fun i => 0 < (f 9 i (f 6 0 1).toInt.toNat).toInt ∧ f 8 i 4 = 0) (f 1 0 6).toInt.toNat &&& f 6 0 6) d = true
def zMTx (f : zM) (a : Int32) (d : Nat) : Prop := 0 < (f 9 d a.toInt.toNat).toInt ∧ f 8 d 4 = 0
def zF0x (f : zM) (d j : Nat) : Prop := zfa f j d (f 6 0 1) (f 6 0 4) (f 6 0 5) (f 6 0 6)
noncomputable def zc0x (f : zM) (d j : Nat) : Int := zrx (zF0x f d) (zWx_ f d) 0 (fun _ => 1000) (f 1 0 7).toInt.toNat j
noncomputable def zCx (f : zM) (d r j : Nat) : Int := zit (zFx f d) (zWx_ f d) (f 1 0 7).toInt.toNat (zc0x f d) r j
noncomputable def zBEx (f : zM) (a : Int32) (d k : Nat) : Int := zmn (fun k => f 11 k 2 = a) (zCx f d (f 1 0 7).toInt.toNat) 1000 k
def zFBx (f : zM) (a : Int32) (d : Nat) (v : Int32) : Prop := (zTRx f a d ∧ v = 0) ∨ (¬ zTRx f a d ∧ (zMTx f a d ∧ zBEx f a d (f 1 0 7).toInt.toNat < 1000) ∧ v.toInt = zBEx f a d (f 1 0 7).toInt.toNat) ∨ (¬ zTRx f a d ∧ ¬ (zMTx f a d ∧ zBEx f a d (f 1 0 7).toInt.toNat < 1000) ∧ v = -4)
theorem zCx_le (f : zM) (d r j : Nat) : zCx f d r j ≤ 1000 := Int.le_trans (zit_le r j) zrx_le
theorem zWa_k {f g : zM} {d : Nat} (h : zWa f d) (k1 : g 1 0 7 = f 1 0 7) (k11 : ∀ p j, g 11 p j = f 11 p j) (k8 : ∀ n j, g 8 n j = f 8 n j) (k9 : ∀ n j, g 9 n j = f 9 n j) (k10 : ∀ n j, g 10 n j = f 10 n j) : zWa g d := by
  intro q hq
  rw [k1] at hq
  obtain ⟨h1, h2⟩ := h q hq
  rw [k11, k11]
  refine ⟨h1.trans ?_, h2.trans ?_⟩
  · exact zbf_congr _ (fun i _ => by rw [zcx_k (fun j _ => k11 q j) k8 k9 k10])
  · exact zbf_congr _ (fun i _ => by rw [k8, k11])
theorem zFBx_k {f g : zM} {a v : Int32} {d : Nat} (k1 : ∀ j, g 1 0 j = f 1 0 j) (k11 : ∀ p j, j < 8 → g 11 p j = f 11 p j) (k8 : ∀ n j, g 8 n j = f 8 n j) (k9 : ∀ n j, g 9 n j = f 9 n j) (k10 : ∀ n j, g 10 n j = f 10 n j) (k6 : ∀ n j, g 6 n j = f 6 n j) : zFBx g a d v ↔ zFBx f a d v := by
  have hW : zWx_ g d = zWx_ f d := funext (fun j => by unfold zWx_; rw [zbx_k0 (k11 j) k8 (k6 0 0) (k6 0 2)])
  have hF : zFx g d = zFx f d := funext (fun i => funext (fun j => propext (zFx_k k11 k8 k9 k10)))
  have h0 : zF0x g d = zF0x f d := funext (fun j => propext (by unfold zF0x; rw [zfa_k (k11 j) k8 k9 k10, k6, k6, k6, k6]))
  have hc0 : zc0x g d = zc0x f d := funext (fun j => by unfold zc0x; rw [hW, h0, k1])
  have hC : ∀ r, zCx g d r = zCx f d r := fun r => funext (fun j => by unfold zCx; rw [hW, hF, hc0, k1])
  have h2 : ∀ p, g 11 p 2 = f 11 p 2 := fun p => k11 p 2 (by decide)
  have hB : ∀ k, zBEx g a d k = zBEx f a d k := fun k => by unfold zBEx; simp only [hC, k1, h2]
  have hT : zTRx g a d ↔ zTRx f a d := by unfold zTRx; simp only [k6, k1, k8, k9]
  have hM : zMTx g a d ↔ zMTx f a d := by unfold zMTx; rw [k8, k9]
  unfold zFBx
  rw [hT, hM, hB, k1]
theorem zWx_0 (f : zM) (d j : Nat) : 0 ≤ zWx_ f d j := Int.natCast_nonneg _

set_option maxRecDepth 100000 in
set_option maxHeartbeats 4000000 in
theorem y_X5_fewestBars (d : Nat) (f : zM) (a1 : Int32) (b1 : zB a1 0 5) (a2 : Int32) (b2 : zB a2 0 7) (hp0 : zWa f a2.toInt.toNat) (hI : zInv f) : ZM (d + 3) yX5_fewestBars cX5_fewestBars 6 (some .int) [zr 13 0, zi a1, zi a2] f (fun r g => (∃ v, r = some (zi v) ∧ zB v (-4) 999) ∧ zInv g ∧ zFr [(6, some 1), (6, some 4), (6, some 5), (6, some 6), (17, none)] f g ∧ (∀ v : Int32, r = some (zi v) → zFBx f a1 a2.toInt.toNat v) ∧ (∀ v : Int32, r = some (zi v) → (∀ n j, n ≠ 2 → g 6 n j = f 6 n j))) := by
  refine ZM.intro (by decide +kernel) (Nat.le_of_ble_eq_true rfl) ?_
  intro X C hr hn
  have hF : zFr [(6, some 1), (6, some 4), (6, some 5), (6, some 6), (17, none)] f f := zFr.rf _ _
  have ct1_0_7 : zB (f 1 0 7) 0 12 := hI 1 0 7
  have J : ∀ t : Nat, (∀ a67_3 : Int32, zB a67_3 0 1 → ∀ a67_4 : Int32, zB a67_4 0 12 → ∀ g : zM, zInv g → zFr [(6, some 1), (6, some 4), (6, some 5), (6, some 6), (17, none)] f g → zB (g 1 0 7) 0 12 → ((∀ n j, n ≠ 2 → g 6 n j = f 6 n j)) → ((∀ j, j < (f 1 0 7).toInt.toNat → (g 17 0 j).toInt = zCx f a2.toInt.toNat a67_4.toInt.toNat j)) → ((a67_3 = 0 → ∀ j, j < (f 1 0 7).toInt.toNat → zrd (zFx f a2.toInt.toNat) (zWx_ f a2.toInt.toNat) (f 1 0 7).toInt.toNat (zCx f a2.toInt.toNat a67_4.toInt.toNat) (f 1 0 7).toInt.toNat j = zCx f a2.toInt.toNat a67_4.toInt.toNat j)) → (¬ zTRx f a1 a2.toInt.toNat) → (a67_4.toInt ≤ (f 1 0 7).toInt) → ((g 1 0 7).toInt = (f 1 0 7).toInt) → (977 + 980 * (12 - a67_4.toInt) : Int) < t → Z X 67 [some (zr 13 0), some (zi a1), some (zi a2), some (zi a67_3), some (zi a67_4), none] [] g) ∧ (∀ a88_3 : Int32, zB a88_3 0 1 → ∀ a88_4 : Int32, zB a88_4 0 11 → ∀ a88_5 : Int32, zB a88_5 0 12 → ∀ g : zM, zInv g → zFr [(6, some 1), (6, some 4), (6, some 5), (6, some 6), (17, none)] f g → zB (g 1 0 7) 1 12 → ((∀ n j, n ≠ 2 → g 6 n j = f 6 n j)) → ((∀ j, j < (f 1 0 7).toInt.toNat → (g 17 0 j).toInt = zrd (zFx f a2.toInt.toNat) (zWx_ f a2.toInt.toNat) (f 1 0 7).toInt.toNat (zCx f a2.toInt.toNat a88_4.toInt.toNat) a88_5.toInt.toNat j)) → ((a88_3 = 0 → ∀ j, j < (f 1 0 7).toInt.toNat → zrd (zFx f a2.toInt.toNat) (zWx_ f a2.toInt.toNat) (f 1 0 7).toInt.toNat (zCx f a2.toInt.toNat a88_4.toInt.toNat) a88_5.toInt.toNat j = zCx f a2.toInt.toNat a88_4.toInt.toNat j)) → (¬ zTRx f a1 a2.toInt.toNat) → (a88_4.toInt < (f 1 0 7).toInt) → (a88_5.toInt ≤ (f 1 0 7).toInt) → ((g 1 0 7).toInt = (f 1 0 7).toInt) → (66 + 70 * (12 - a88_5.toInt) + 980 * (12 - a88_4.toInt) : Int) < t → Z X 88 [some (zr 13 0), some (zi a1), some (zi a2), some (zi a88_3), some (zi a88_4), some (zi a88_5)] [] g) ∧ (∀ a178_3 : Int32, zB a178_3 0 1 → ∀ a178_4 : Int32, zB a178_4 0 1000 → ∀ a178_5 : Int32, zB a178_5 0 12 → ∀ g : zM, zInv g → zFr [(6, some 1), (6, some 4), (6, some 5), (6, some 6), (17, none)] f g → zB (g 1 0 7) 0 12 → ((∀ n j, n ≠ 2 → g 6 n j = f 6 n j)) → ((∀ j, j < (f 1 0 7).toInt.toNat → (g 17 0 j).toInt = zCx f a2.toInt.toNat (f 1 0 7).toInt.toNat j)) → (a178_4.toInt = zBEx f a1 a2.toInt.toNat a178_5.toInt.toNat) → (¬ zTRx f a1 a2.toInt.toNat) → (a178_5.toInt ≤ (f 1 0 7).toInt) → ((g 1 0 7).toInt = (f 1 0 7).toInt) → (0 + 5 * (12 - a178_5.toInt) : Int) < t → Z X 178 [some (zr 13 0), some (zi a1), some (zi a2), some (zi a178_3), some (zi a178_4), some (zi a178_5)] [] g) := by
    intro t
    induction t with
    | zero =>
      refine ⟨?_, ?_, ?_⟩ <;> (intros; exfalso; omega)
    | succ t ih =>
      obtain ⟨ih0, ih1, ih2⟩ := ih
      refine ⟨?_, ?_, ?_⟩
      · skip
        intro a67_3 b67_3 a67_4 b67_4 g67_ hI67_ hF67_ f67_1_0_7 hR67_0 hR67_1 hR67_2 hR67_3 hR67_4 hR67_5 hM67_
        refine z_iload_n (pc := 67) C dX5_fewestBars_67 rfl ?_
        refine z_if_eq (pc := 68) 170 C dX5_fewestBars_68 (by decide) (fun h68_0 => ?_) (fun h68_0 => ?_)
        · skip
          have b2x : zB a67_3 0 0 := by have q1 := b67_3; have q2 := (zB.of (x := 0) 0 (by decide)); simp only [z32lt, z32le, z32eq, Int32.reduceToInt, Int32.toInt_zero] at h68_0; constructor <;> omega
          refine z_sipush (pc := 170) (v := 1000) C dX5_fewestBars_170 (by decide) ?_
          refine z_istore (pc := 173) C dX5_fewestBars_173 (by rw [hn]; decide) rfl ?_
          refine z_iconst (pc := 175) (v := 0) C dX5_fewestBars_175 (by decide) ?_
          refine z_istore (pc := 176) C dX5_fewestBars_176 (by rw [hn]; decide) rfl ?_
          exact ih2 a67_3 (zB.wk (a' := 0) (b' := 1) b2x (by decide) (by decide)) 1000 (zB.wk (a' := 0) (b' := 1000) (zB.of (x := 1000) 1000 (by decide)) (by decide) (by decide)) 0 (zB.wk (a' := 0) (b' := 12) (zB.of (x := 0) 0 (by decide)) (by decide) (by decide)) g67_ hI67_ hF67_ f67_1_0_7 (by intro n j hn; exact hR67_0 n j hn) (by
                                                                                          intro j hj
                                                                                          rw [hR67_1 j hj]
                                                                                          first
                                                                                            | (have e : (f 1 0 7).toInt.toNat = a67_4.toInt.toNat := by omega
                                                                                               rw [e])
                                                                                            | (have e : (f 1 0 7).toInt.toNat = a67_4.toInt.toNat + ((f 1 0 7).toInt.toNat - a67_4.toInt.toNat) := by omega
                                                                                               have hz := zit_fix (F := zFx f a2.toInt.toNat) (W := zWx_ f a2.toInt.toNat) (n := (f 1 0 7).toInt.toNat) (c := zc0x f a2.toInt.toNat) (r := a67_4.toInt.toNat) (hR67_2 (by assumption)) ((f 1 0 7).toInt.toNat - a67_4.toInt.toNat) j hj
                                                                                               rw [← e] at hz
                                                                                               exact hz.symm)) (by rfl) (by exact hR67_3) (by have qc0 : (0 : Int32).toInt = 0 := (by decide); have qc1 : (1000 : Int32).toInt = 1000 := (by decide); omega) (by have qc0 : (0 : Int32).toInt = 0 := (by decide); have qc1 : (1000 : Int32).toInt = 1000 := (by decide); omega) (by have qc0 : (0 : Int32).toInt = 0 := (by decide); have qc1 : (1000 : Int32).toInt = 1000 := (by decide); omega)
        · skip
          have b3x : zB a67_3 1 1 := by have q1 := b67_3; have q2 := (zB.of (x := 0) 0 (by decide)); simp only [z32lt, z32le, z32eq, Int32.reduceToInt, Int32.toInt_zero] at h68_0; constructor <;> omega
          refine z_iload (pc := 71) C dX5_fewestBars_71 rfl ?_
          refine z_aload_n (pc := 73) C dX5_fewestBars_73 rfl ?_
          refine z_getR (pc := 74) C zf_X5_31 rfl rfl (by decide) dX5_fewestBars_74 ?_
          refine z_getI (pc := 77) C zf_X5_76 rfl rfl (by decide) dX5_fewestBars_77 ?_
          refine w_gp (fun v => v = g67_ 1 0 7) rfl (fun v4 q4 => ?_)
          have e4 : v4.toInt = (g67_ 1 0 7).toInt := by rw [q4]
          have b4x : zB v4 0 12 := by first | exact zB.eqv e4 f67_1_0_7 | (have q9 := f67_1_0_7; constructor <;> omega)
          refine z_icmp_ge (pc := 80) 170 C dX5_fewestBars_80 (by decide) (fun h80_4 => ?_) (fun h80_4 => ?_)
          · skip
            have rr6 : a67_4.toInt ≥ v4.toInt := by simp only [z32lt, z32le, z32eq] at h80_4; omega
            refine z_sipush (pc := 170) (v := 1000) C dX5_fewestBars_170 (by decide) ?_
            refine z_istore (pc := 173) C dX5_fewestBars_173 (by rw [hn]; decide) rfl ?_
            refine z_iconst (pc := 175) (v := 0) C dX5_fewestBars_175 (by decide) ?_
            refine z_istore (pc := 176) C dX5_fewestBars_176 (by rw [hn]; decide) rfl ?_
            exact ih2 a67_3 (zB.wk (a' := 0) (b' := 1) b3x (by decide) (by decide)) 1000 (zB.wk (a' := 0) (b' := 1000) (zB.of (x := 1000) 1000 (by decide)) (by decide) (by decide)) 0 (zB.wk (a' := 0) (b' := 12) (zB.of (x := 0) 0 (by decide)) (by decide) (by decide)) g67_ hI67_ hF67_ f67_1_0_7 (by intro n j hn; exact hR67_0 n j hn) (by
                                                                                          intro j hj
                                                                                          rw [hR67_1 j hj]
                                                                                          first
                                                                                            | (have e : (f 1 0 7).toInt.toNat = a67_4.toInt.toNat := by omega
                                                                                               rw [e])
                                                                                            | (have e : (f 1 0 7).toInt.toNat = a67_4.toInt.toNat + ((f 1 0 7).toInt.toNat - a67_4.toInt.toNat) := by omega
                                                                                               have hz := zit_fix (F := zFx f a2.toInt.toNat) (W := zWx_ f a2.toInt.toNat) (n := (f 1 0 7).toInt.toNat) (c := zc0x f a2.toInt.toNat) (r := a67_4.toInt.toNat) (hR67_2 (by assumption)) ((f 1 0 7).toInt.toNat - a67_4.toInt.toNat) j hj
                                                                                               rw [← e] at hz
                                                                                               exact hz.symm)) (by rfl) (by exact hR67_3) (by have qc0 : (0 : Int32).toInt = 0 := (by decide); have qc1 : (1000 : Int32).toInt = 1000 := (by decide); omega) (by have qc0 : (0 : Int32).toInt = 0 := (by decide); have qc1 : (1000 : Int32).toInt = 1000 := (by decide); omega) (by have qc0 : (0 : Int32).toInt = 0 := (by decide); have qc1 : (1000 : Int32).toInt = 1000 := (by decide); omega)
          · skip
            have rr7 : a67_4.toInt < v4.toInt := by simp only [z32lt, z32le, z32eq] at h80_4; omega
            have b8x : zB a67_4 0 11 := by have q1 := b67_4; have q2 := b4x; simp only [z32lt, z32le, z32eq, Int32.reduceToInt, Int32.toInt_zero] at h80_4; constructor <;> omega
            have b9x : zB v4 1 12 := by have q1 := b67_4; have q2 := b4x; simp only [z32lt, z32le, z32eq, Int32.reduceToInt, Int32.toInt_zero] at h80_4; constructor <;> omega
            have c10x : zB (g67_ 1 0 7) 1 12 := by first | assumption | (constructor <;> omega)
            refine z_iconst (pc := 83) (v := 0) C dX5_fewestBars_83 (by decide) ?_
            refine z_istore_n (pc := 84) C dX5_fewestBars_84 (by rw [hn]; decide) rfl ?_
            refine z_iconst (pc := 85) (v := 0) C dX5_fewestBars_85 (by decide) ?_
            refine z_istore (pc := 86) C dX5_fewestBars_86 (by rw [hn]; decide) rfl ?_
            exact ih1 0 (zB.wk (a' := 0) (b' := 1) (zB.of (x := 0) 0 (by decide)) (by decide) (by decide)) a67_4 b8x 0 (zB.wk (a' := 0) (b' := 12) (zB.of (x := 0) 0 (by decide)) (by decide) (by decide)) g67_ hI67_ hF67_ c10x (by intro n j hn; exact hR67_0 n j hn) (by intro j hj; exact hR67_1 j hj) (by intro _ j _; rfl) (by exact hR67_3) (by have qc0 : (0 : Int32).toInt = 0 := (by decide); omega) (by have qc0 : (0 : Int32).toInt = 0 := (by decide); omega) (by have qc0 : (0 : Int32).toInt = 0 := (by decide); omega) (by have qc0 : (0 : Int32).toInt = 0 := (by decide); omega)
      · skip
        intro a88_3 b88_3 a88_4 b88_4 a88_5 b88_5 g88_ hI88_ hF88_ f88_1_0_7 hR88_0 hR88_1 hR88_2 hR88_3 hR88_4 hR88_5 hR88_6 hM88_
        refine z_iload (pc := 88) C dX5_fewestBars_88 rfl ?_
        refine z_aload_n (pc := 90) C dX5_fewestBars_90 rfl ?_
        refine z_getR (pc := 91) C zf_X5_31 rfl rfl (by decide) dX5_fewestBars_91 ?_
        refine z_getI (pc := 94) C zf_X5_76 rfl rfl (by decide) dX5_fewestBars_94 ?_
        refine w_gp (fun v => v = g88_ 1 0 7) rfl (fun v11 q11 => ?_)
        have e11 : v11.toInt = (g88_ 1 0 7).toInt := by rw [q11]
        have b11x : zB v11 1 12 := by first | exact zB.eqv e11 f88_1_0_7 | (have q9 := f88_1_0_7; constructor <;> omega)
        refine z_icmp_ge (pc := 97) 164 C dX5_fewestBars_97 (by decide) (fun h97_11 => ?_) (fun h97_11 => ?_)
        · skip
          have rr13 : a88_5.toInt ≥ v11.toInt := by simp only [z32lt, z32le, z32eq] at h97_11; omega
          have b14x : zB a88_5 1 12 := by have q1 := b88_5; have q2 := b11x; simp only [z32lt, z32le, z32eq, Int32.reduceToInt, Int32.toInt_zero] at h97_11; constructor <;> omega
          refine z_iinc (pc := 164) (v := 1) C dX5_fewestBars_164 rfl (by decide) (by rw [hn]; decide) rfl ?_
          obtain ⟨v15, hv15, e15⟩ : ∃ v : Int32, v = a88_4 + 1 ∧ v.toInt = a88_4.toInt + 1 := ⟨_, rfl, zadd_eb b88_4 (zB.of (x := 1) 1 (by decide)) (by decide) (by decide)⟩
          rw [← hv15]
          have b15x : zB v15 1 12 := by have q9 := b88_4; constructor <;> omega
          refine z_goto (pc := 167) 67 C dX5_fewestBars_167 (by decide) ?_
          refine w_mask [5] ?_
          exact ih0 a88_3 b88_3 v15 (zB.wk (a' := 0) (b' := 12) b15x (by decide) (by decide)) g88_ hI88_ hF88_ (zB.wk f88_1_0_7 (by decide) (by decide)) (by intro n j hn; exact hR88_0 n j hn) (by
                                                                                          have hn : (v15).toInt.toNat = a88_4.toInt.toNat + 1 := by omega
                                                                                          have hk : (f 1 0 7).toInt.toNat = a88_5.toInt.toNat := by omega
                                                                                          have hs : ∀ j, zCx f a2.toInt.toNat (a88_4.toInt.toNat + 1) j = zrd (zFx f a2.toInt.toNat) (zWx_ f a2.toInt.toNat) (f 1 0 7).toInt.toNat (zCx f a2.toInt.toNat a88_4.toInt.toNat) (f 1 0 7).toInt.toNat j := fun j => rfl
                                                                                          intro j hj
                                                                                          have h := hR88_1 j hj
                                                                                          rw [← hk] at h
                                                                                          rw [hn, hs]; exact h) (by
                                                                                          have hn : (v15).toInt.toNat = a88_4.toInt.toNat + 1 := by omega
                                                                                          have hk : (f 1 0 7).toInt.toNat = a88_5.toInt.toNat := by omega
                                                                                          have hs : ∀ j, zCx f a2.toInt.toNat (a88_4.toInt.toNat + 1) j = zrd (zFx f a2.toInt.toNat) (zWx_ f a2.toInt.toNat) (f 1 0 7).toInt.toNat (zCx f a2.toInt.toNat a88_4.toInt.toNat) (f 1 0 7).toInt.toNat j := fun j => rfl
                                                                                          intro h0 j hj
                                                                                          have hx := hR88_2 h0
                                                                                          rw [← hk] at hx
                                                                                          rw [hn, hs, zrd_congr (e := zCx f a2.toInt.toNat a88_4.toInt.toNat) (fun q hq => (hs q).trans (hx q hq)) _ (Nat.le_refl _) j hj]) (by exact hR88_3) (by omega) (by omega) (by omega)
        · skip
          have rr16 : a88_5.toInt < v11.toInt := by simp only [z32lt, z32le, z32eq] at h97_11; omega
          have b17x : zB a88_5 0 11 := by have q1 := b88_5; have q2 := b11x; simp only [z32lt, z32le, z32eq, Int32.reduceToInt, Int32.toInt_zero] at h97_11; constructor <;> omega
          refine z_aload_n (pc := 100) C dX5_fewestBars_100 rfl ?_
          refine z_getR (pc := 101) C zf_X5_28 rfl rfl (by decide) dX5_fewestBars_101 ?_
          refine z_iload (pc := 104) C dX5_fewestBars_104 rfl ?_
          refine z_iald (pc := 106) C rfl (by decide) (zIx b17x (by decide) (by decide)) dX5_fewestBars_106 ?_
          have kq106_17 : a88_5.toNatClampNeg = a88_5.toInt.toNat := rfl
          refine w_gp (fun v => v = g88_ 17 0 a88_5.toNatClampNeg) rfl (fun v18 q18 => ?_)
          have b18x : zB v18 0 2000 := by rw [q18]; exact (hI88_ 17 0 a88_5.toNatClampNeg)
          refine z_sipush (pc := 107) (v := 1000) C dX5_fewestBars_107 (by decide) ?_
          refine z_icmp_ge (pc := 110) 158 C dX5_fewestBars_110 (by decide) (fun h110_18 => ?_) (fun h110_18 => ?_)
          · skip
            have b20x : zB v18 1000 2000 := by have q1 := b18x; have q2 := (zB.of (x := 1000) 1000 (by decide)); simp only [z32lt, z32le, z32eq, Int32.reduceToInt, Int32.toInt_zero] at h110_18; constructor <;> omega
            refine z_iinc (pc := 158) (v := 1) C dX5_fewestBars_158 rfl (by decide) (by rw [hn]; decide) rfl ?_
            obtain ⟨v21, hv21, e21⟩ : ∃ v : Int32, v = a88_5 + 1 ∧ v.toInt = a88_5.toInt + 1 := ⟨_, rfl, zadd_eb b17x (zB.of (x := 1) 1 (by decide)) (by decide) (by decide)⟩
            rw [← hv21]
            have b21x : zB v21 1 12 := by have q9 := b17x; constructor <;> omega
            refine z_goto (pc := 161) 88 C dX5_fewestBars_161 (by decide) ?_
            exact ih1 a88_3 b88_3 a88_4 b88_4 v21 (zB.wk (a' := 0) (b' := 12) b21x (by decide) (by decide)) g88_ hI88_ hF88_ f88_1_0_7 (by intro n j hn; exact hR88_0 n j hn) (by
                                                                                          have hn : (v21).toInt.toNat = a88_5.toInt.toNat + 1 := by omega
                                                                                          have hq5 : a88_5.toNatClampNeg = a88_5.toInt.toNat := rfl
                                                                                          have r106 : (v18).toInt = zrd (zFx f a2.toInt.toNat) (zWx_ f a2.toInt.toNat) (f 1 0 7).toInt.toNat (zCx f a2.toInt.toNat a88_4.toInt.toNat) a88_5.toInt.toNat a88_5.toInt.toNat := by
                                                                                            have h := q18
                                                                                            rw [hq5] at h
                                                                                            rw [h]; exact hR88_1 _ (by omega)
                                                                                          have hst : ∀ j, j < (f 1 0 7).toInt.toNat → zrd (zFx f a2.toInt.toNat) (zWx_ f a2.toInt.toNat) (f 1 0 7).toInt.toNat (zCx f a2.toInt.toNat a88_4.toInt.toNat) (a88_5.toInt.toNat + 1) j = zrd (zFx f a2.toInt.toNat) (zWx_ f a2.toInt.toNat) (f 1 0 7).toInt.toNat (zCx f a2.toInt.toNat a88_4.toInt.toNat) a88_5.toInt.toNat j := fun j hj => by
                                                                                            rw [zrd]
                                                                                            refine zrx_n (fun z => ?_)
                                                                                            have z2 := z.2.2
                                                                                            have z3 := Int.le_trans (zrd_le (F := zFx f a2.toInt.toNat) (W := zWx_ f a2.toInt.toNat) (n := (f 1 0 7).toInt.toNat) (c := zCx f a2.toInt.toNat a88_4.toInt.toNat) a88_5.toInt.toNat j) (zCx_le f a2.toInt.toNat a88_4.toInt.toNat j)
                                                                                            have z4 := zWx_0 f a2.toInt.toNat j
                                                                                            omega
                                                                                          intro j hj
                                                                                          rw [hn, hst j hj]; exact hR88_1 j hj) (by
                                                                                          have hn : (v21).toInt.toNat = a88_5.toInt.toNat + 1 := by omega
                                                                                          have hq5 : a88_5.toNatClampNeg = a88_5.toInt.toNat := rfl
                                                                                          have r106 : (v18).toInt = zrd (zFx f a2.toInt.toNat) (zWx_ f a2.toInt.toNat) (f 1 0 7).toInt.toNat (zCx f a2.toInt.toNat a88_4.toInt.toNat) a88_5.toInt.toNat a88_5.toInt.toNat := by
                                                                                            have h := q18
                                                                                            rw [hq5] at h
                                                                                            rw [h]; exact hR88_1 _ (by omega)
                                                                                          have hst : ∀ j, j < (f 1 0 7).toInt.toNat → zrd (zFx f a2.toInt.toNat) (zWx_ f a2.toInt.toNat) (f 1 0 7).toInt.toNat (zCx f a2.toInt.toNat a88_4.toInt.toNat) (a88_5.toInt.toNat + 1) j = zrd (zFx f a2.toInt.toNat) (zWx_ f a2.toInt.toNat) (f 1 0 7).toInt.toNat (zCx f a2.toInt.toNat a88_4.toInt.toNat) a88_5.toInt.toNat j := fun j hj => by
                                                                                            rw [zrd]
                                                                                            refine zrx_n (fun z => ?_)
                                                                                            have z2 := z.2.2
                                                                                            have z3 := Int.le_trans (zrd_le (F := zFx f a2.toInt.toNat) (W := zWx_ f a2.toInt.toNat) (n := (f 1 0 7).toInt.toNat) (c := zCx f a2.toInt.toNat a88_4.toInt.toNat) a88_5.toInt.toNat j) (zCx_le f a2.toInt.toNat a88_4.toInt.toNat j)
                                                                                            have z4 := zWx_0 f a2.toInt.toNat j
                                                                                            omega
                                                                                          intro h j hj
                                                                                          rw [hn, hst j hj]; exact hR88_2 h j hj) (by exact hR88_3) (by omega) (by omega) (by omega) (by omega)
          · skip
            have b22x : zB v18 0 999 := by have q1 := b18x; have q2 := (zB.of (x := 1000) 1000 (by decide)); simp only [z32lt, z32le, z32eq, Int32.reduceToInt, Int32.toInt_zero] at h110_18; constructor <;> omega
            refine z_aload_n (pc := 113) C dX5_fewestBars_113 rfl ?_
            refine z_getR (pc := 114) C zf_X5_12 rfl rfl (by decide) dX5_fewestBars_114 ?_
            refine z_aload_n (pc := 117) C dX5_fewestBars_117 rfl ?_
            refine z_getR (pc := 118) C zf_X5_31 rfl rfl (by decide) dX5_fewestBars_118 ?_
            refine z_getR (pc := 121) C zf_X5_68 rfl rfl (by decide) dX5_fewestBars_121 ?_
            refine z_iload (pc := 124) C dX5_fewestBars_124 rfl ?_
            refine z_aald (pc := 126) C rfl ⟨rfl, by decide⟩ (by decide) (zIx b17x (by decide) (by decide)) dX5_fewestBars_126 ?_
            refine w_grx (by have hq := zN b17x (by decide); show 12 * 0 + a88_5.toNatClampNeg < 36; omega) (fun m23 q23r h23x => ?_)
            have q23r : m23 = 12 * 0 + a88_5.toNatClampNeg := q23r
            have k23r : a88_5.toNatClampNeg = a88_5.toInt.toNat := rfl
            refine z_iconst (pc := 127) (v := 1) C dX5_fewestBars_127 (by decide) ?_
            refine z_iload_n (pc := 128) C dX5_fewestBars_128 rfl ?_
            refine z_ishl (pc := 129) C dX5_fewestBars_129 ?_
            refine w_gp (fun v => v = (1 : Int32) <<< (a2 &&& 31)) rfl (fun v24 q24 => ?_)
            have b24x : zB v24 0 128 := by rw [q24]; exact (zshl_b b2 7 (by decide) (by decide))
            refine z_callV (pc := 130) C zk_X5_72 (x_X3_go _ _ 2 (by decide) m23 h23x v24 (zB.wk (a' := 0) (b' := 255) b24x (by decide) (by decide)) hI88_) rfl rfl (by decide) rfl rfl (Nat.le_of_ble_eq_true rfl) dX5_fewestBars_130 (fun r25 g25 q25 => ?_)
            obtain ⟨rfl, hI25, hF25q, hp25_0, hp25_1, hp25_2, hp25_3, hp25_4⟩ := q25
            have hF25 := zFr.tr hF88_ hF25q (by decide)
            simp only [Option.toList, List.cons_append, List.nil_append]
            have ek25_1_0_7 : (g25 1 0 7).toInt = (g88_ 1 0 7).toInt := by rw [hF25q 1 0 7 rfl]
            have c25_1_0_7x : zB (g25 1 0 7) 1 12 := by rw [hF25q 1 0 7 rfl]; exact f88_1_0_7
            refine z_aload_n (pc := 133) C dX5_fewestBars_133 rfl ?_
            refine z_aload_n (pc := 134) C dX5_fewestBars_134 rfl ?_
            refine z_getR (pc := 135) C zf_X5_28 rfl rfl (by decide) dX5_fewestBars_135 ?_
            refine z_iload (pc := 138) C dX5_fewestBars_138 rfl ?_
            refine z_iald (pc := 140) C rfl (by decide) (zIx b17x (by decide) (by decide)) dX5_fewestBars_140 ?_
            have kq140_25 : a88_5.toNatClampNeg = a88_5.toInt.toNat := rfl
            refine w_gp (fun v => v = g25 17 0 a88_5.toNatClampNeg) rfl (fun v26 q26 => ?_)
            have b26x : zB v26 0 2000 := by rw [q26]; exact (hI25 17 0 a88_5.toNatClampNeg)
            refine z_iload_n (pc := 141) C dX5_fewestBars_141 rfl ?_
            refine z_callV (pc := 142) C zk_X5_98 (x_X5_relax _ _ v26 b26x a2 b2 (by exact zWa_k hp0 (hF25 1 0 7 rfl) (fun p j => hF25 11 p j rfl) (fun n j => hF25 8 n j rfl) (fun n j => hF25 9 n j rfl) (fun n j => hF25 10 n j rfl)) hI25) rfl rfl (by decide) rfl rfl (Nat.le_of_ble_eq_true rfl) dX5_fewestBars_142 (fun r27 g27 q27 => ?_)
            obtain ⟨⟨v27, rfl, b27x⟩, hI27, hF27q, hp27_0, hp27_1⟩ := q27
            have hp27_0 := hp27_0 _ rfl
            have hp27_1 := hp27_1 _ rfl
            have hF27 := zFr.tr hF25 hF27q (by decide)
            simp only [Option.toList, List.cons_append, List.nil_append]
            have ek27_1_0_7 : (g27 1 0 7).toInt = (g25 1 0 7).toInt := by rw [hF27q 1 0 7 rfl]
            have c27_1_0_7x : zB (g27 1 0 7) 1 12 := by rw [hF27q 1 0 7 rfl]; exact c25_1_0_7x
            refine z_if_ne (pc := 145) 152 C dX5_fewestBars_145 (by decide) (fun h145_27 => ?_) (fun h145_27 => ?_)
            · skip
              have b29x : zB v27 1 1 := by have q1 := b27x; have q2 := (zB.of (x := 0) 0 (by decide)); simp only [z32lt, z32le, z32eq, Int32.reduceToInt, Int32.toInt_zero] at h145_27; constructor <;> omega
              refine z_iconst (pc := 152) (v := 1) C dX5_fewestBars_152 (by decide) ?_
              refine z_goto (pc := 153) 157 C dX5_fewestBars_153 (by decide) ?_
              refine z_istore_n (pc := 157) C dX5_fewestBars_157 (by rw [hn]; decide) rfl ?_
              refine z_iinc (pc := 158) (v := 1) C dX5_fewestBars_158 rfl (by decide) (by rw [hn]; decide) rfl ?_
              obtain ⟨v30, hv30, e30⟩ : ∃ v : Int32, v = a88_5 + 1 ∧ v.toInt = a88_5.toInt + 1 := ⟨_, rfl, zadd_eb b17x (zB.of (x := 1) 1 (by decide)) (by decide) (by decide)⟩
              rw [← hv30]
              have b30x : zB v30 1 12 := by have q9 := b17x; constructor <;> omega
              refine z_goto (pc := 161) 88 C dX5_fewestBars_161 (by decide) ?_
              exact ih1 1 (zB.wk (a' := 0) (b' := 1) (zB.of (x := 1) 1 (by decide)) (by decide) (by decide)) a88_4 b88_4 v30 (zB.wk (a' := 0) (b' := 12) b30x (by decide) (by decide)) g27 hI27 hF27 c27_1_0_7x (by intro n j hn; exact ((hF27q 6 n j rfl)).trans (((hp25_0 6 n j (by omega))).trans (hR88_0 n j hn))) (by
                                                                                          have hn : (v30).toInt.toNat = a88_5.toInt.toNat + 1 := by omega
                                                                                          have hq5 : a88_5.toNatClampNeg = a88_5.toInt.toNat := rfl
                                                                                          have r106 : (v18).toInt = zrd (zFx f a2.toInt.toNat) (zWx_ f a2.toInt.toNat) (f 1 0 7).toInt.toNat (zCx f a2.toInt.toNat a88_4.toInt.toNat) a88_5.toInt.toNat a88_5.toInt.toNat := by
                                                                                            have h := q18
                                                                                            rw [hq5] at h
                                                                                            rw [h]; exact hR88_1 _ (by omega)
                                                                                          have hx : m23 = a88_5.toInt.toNat := by omega
                                                                                          have hd2 : a2 = nI a2.toInt.toNat := (nI_ofI (by omega)).1
                                                                                          have o0 := hp25_0
                                                                                          have o1 := hp25_1
                                                                                          have o2 := hp25_2
                                                                                          have o3 := hp25_3
                                                                                          have o4 := hp25_4
                                                                                          rw [hx] at o1 o2 o3 o4
                                                                                          have m11 : ∀ q j, g88_ 11 q j = f 11 q j := fun q j => hF88_ 11 q j rfl
                                                                                          rw [m11] at o1 o2 o3 o4
                                                                                          rw [m11] at o3
                                                                                          have k11 : ∀ q j, g25 11 q j = f 11 q j := fun q j => (o0 _ _ _ (by omega)).trans (m11 q j)
                                                                                          have k8 : ∀ q j, g25 8 q j = f 8 q j := fun q j => (o0 _ _ _ (by omega)).trans (hF88_ 8 q j rfl)
                                                                                          have k9 : ∀ q j, g25 9 q j = f 9 q j := fun q j => (o0 _ _ _ (by omega)).trans (hF88_ 9 q j rfl)
                                                                                          have k10 : ∀ q j, g25 10 q j = f 10 q j := fun q j => (o0 _ _ _ (by omega)).trans (hF88_ 10 q j rfl)
                                                                                          have k1 : g25 1 0 7 = f 1 0 7 := (o0 _ _ _ (by omega)).trans (hF88_ 1 0 7 rfl)
                                                                                          have c0 : g25 6 0 0 = f 6 0 0 := (o0 _ _ _ (by omega)).trans (hR88_0 _ _ (by decide))
                                                                                          have c2 : g25 6 0 2 = f 6 0 2 := (o0 _ _ _ (by omega)).trans (hR88_0 _ _ (by decide))
                                                                                          have k17 : ∀ j, g25 17 0 j = g88_ 17 0 j := fun j => o0 _ _ _ (by omega)
                                                                                          have d4 : g25 6 2 4 = 0 ↔ f 11 a88_5.toInt.toNat 7 &&& 1 = 0 := by
                                                                                            rcases o2 with ⟨y1, y2⟩ | ⟨y1, y2⟩
                                                                                            · rw [y1]; exact ⟨fun h => absurd h (by decide), fun h => absurd h y2⟩
                                                                                            · rw [y1]; exact ⟨fun _ => Classical.byContradiction y2, fun _ => rfl⟩
                                                                                          have d5 : g25 6 2 5 = zoi f a88_5.toInt.toNat := by
                                                                                            unfold zoi
                                                                                            rcases o3 with ⟨y1, y2⟩ | ⟨y1, y2⟩
                                                                                            · rw [if_pos y1]; exact y2
                                                                                            · rw [if_neg (fun h => h y1)]; exact y2
                                                                                          have d6 : bt (g25 6 2 6) a2.toInt.toNat = true := by
                                                                                            rcases o4 with ⟨y1, y2⟩ | ⟨y1, y2⟩
                                                                                            · rw [y2, q24]
                                                                                              have hb := b_one a2.toInt.toNat (by omega) a2.toInt.toNat (by omega)
                                                                                              rw [← hd2] at hb
                                                                                              rw [hb]; exact decide_eq_true rfl
                                                                                            · rw [y2]; exact zb255d _ (by omega)
                                                                                          have r140 : (v26).toInt = zrd (zFx f a2.toInt.toNat) (zWx_ f a2.toInt.toNat) (f 1 0 7).toInt.toNat (zCx f a2.toInt.toNat a88_4.toInt.toNat) a88_5.toInt.toNat a88_5.toInt.toNat := by
                                                                                            have h := q26
                                                                                            rw [hq5, k17] at h
                                                                                            rw [h]; exact hR88_1 _ (by omega)
                                                                                          have hv : ∀ j, j < (f 1 0 7).toInt.toNat → (g27 17 0 j).toInt = zrd (zFx f a2.toInt.toNat) (zWx_ f a2.toInt.toNat) (f 1 0 7).toInt.toNat (zCx f a2.toInt.toNat a88_4.toInt.toNat) (a88_5.toInt.toNat + 1) j := fun j hj => by
                                                                                            have hr := hp27_0 j (by rw [k1]; exact hj)
                                                                                            rw [hr, k1, zrd]
                                                                                            refine zrx_congr r140 (fun _ => ?_) (fun _ => ?_) (by rw [k17]; exact hR88_1 j hj)
                                                                                            · unfold zFx
                                                                                              rw [zfa_k (fun q _ => k11 j q) k8 k9 k10, o1, d5, zfa_z d4, zfa_b d6 (zb255d _ (by omega))]
                                                                                            · unfold zWx_
                                                                                              rw [zbx_k0 (fun q _ => k11 j q) k8 c0 c2]
                                                                                          intro j hj
                                                                                          rw [hn]; exact hv j hj) (by intro h; exact absurd h (by decide)) (by exact hR88_3) (by have qc0 : (1 : Int32).toInt = 1 := (by decide); omega) (by have qc0 : (1 : Int32).toInt = 1 := (by decide); omega) (by have qc0 : (1 : Int32).toInt = 1 := (by decide); omega) (by have qc0 : (1 : Int32).toInt = 1 := (by decide); omega)
            · skip
              have b31x : zB v27 0 0 := by have q1 := b27x; have q2 := (zB.of (x := 0) 0 (by decide)); simp only [z32lt, z32le, z32eq, Int32.reduceToInt, Int32.toInt_zero] at h145_27; constructor <;> omega
              refine z_iload_n (pc := 148) C dX5_fewestBars_148 rfl ?_
              refine z_if_eq (pc := 149) 156 C dX5_fewestBars_149 (by decide) (fun h149_31 => ?_) (fun h149_31 => ?_)
              · skip
                have b33x : zB a88_3 0 0 := by have q1 := b88_3; have q2 := (zB.of (x := 0) 0 (by decide)); simp only [z32lt, z32le, z32eq, Int32.reduceToInt, Int32.toInt_zero] at h149_31; constructor <;> omega
                refine z_iconst (pc := 156) (v := 0) C dX5_fewestBars_156 (by decide) ?_
                refine z_istore_n (pc := 157) C dX5_fewestBars_157 (by rw [hn]; decide) rfl ?_
                refine z_iinc (pc := 158) (v := 1) C dX5_fewestBars_158 rfl (by decide) (by rw [hn]; decide) rfl ?_
                obtain ⟨v34, hv34, e34⟩ : ∃ v : Int32, v = a88_5 + 1 ∧ v.toInt = a88_5.toInt + 1 := ⟨_, rfl, zadd_eb b17x (zB.of (x := 1) 1 (by decide)) (by decide) (by decide)⟩
                rw [← hv34]
                have b34x : zB v34 1 12 := by have q9 := b17x; constructor <;> omega
                refine z_goto (pc := 161) 88 C dX5_fewestBars_161 (by decide) ?_
                exact ih1 0 (zB.wk (a' := 0) (b' := 1) (zB.of (x := 0) 0 (by decide)) (by decide) (by decide)) a88_4 b88_4 v34 (zB.wk (a' := 0) (b' := 12) b34x (by decide) (by decide)) g27 hI27 hF27 c27_1_0_7x (by intro n j hn; exact ((hF27q 6 n j rfl)).trans (((hp25_0 6 n j (by omega))).trans (hR88_0 n j hn))) (by
                                                                                          have hn : (v34).toInt.toNat = a88_5.toInt.toNat + 1 := by omega
                                                                                          have hq5 : a88_5.toNatClampNeg = a88_5.toInt.toNat := rfl
                                                                                          have r106 : (v18).toInt = zrd (zFx f a2.toInt.toNat) (zWx_ f a2.toInt.toNat) (f 1 0 7).toInt.toNat (zCx f a2.toInt.toNat a88_4.toInt.toNat) a88_5.toInt.toNat a88_5.toInt.toNat := by
                                                                                            have h := q18
                                                                                            rw [hq5] at h
                                                                                            rw [h]; exact hR88_1 _ (by omega)
                                                                                          have hx : m23 = a88_5.toInt.toNat := by omega
                                                                                          have hd2 : a2 = nI a2.toInt.toNat := (nI_ofI (by omega)).1
                                                                                          have o0 := hp25_0
                                                                                          have o1 := hp25_1
                                                                                          have o2 := hp25_2
                                                                                          have o3 := hp25_3
                                                                                          have o4 := hp25_4
                                                                                          rw [hx] at o1 o2 o3 o4
                                                                                          have m11 : ∀ q j, g88_ 11 q j = f 11 q j := fun q j => hF88_ 11 q j rfl
                                                                                          rw [m11] at o1 o2 o3 o4
                                                                                          rw [m11] at o3
                                                                                          have k11 : ∀ q j, g25 11 q j = f 11 q j := fun q j => (o0 _ _ _ (by omega)).trans (m11 q j)
                                                                                          have k8 : ∀ q j, g25 8 q j = f 8 q j := fun q j => (o0 _ _ _ (by omega)).trans (hF88_ 8 q j rfl)
                                                                                          have k9 : ∀ q j, g25 9 q j = f 9 q j := fun q j => (o0 _ _ _ (by omega)).trans (hF88_ 9 q j rfl)
                                                                                          have k10 : ∀ q j, g25 10 q j = f 10 q j := fun q j => (o0 _ _ _ (by omega)).trans (hF88_ 10 q j rfl)
                                                                                          have k1 : g25 1 0 7 = f 1 0 7 := (o0 _ _ _ (by omega)).trans (hF88_ 1 0 7 rfl)
                                                                                          have c0 : g25 6 0 0 = f 6 0 0 := (o0 _ _ _ (by omega)).trans (hR88_0 _ _ (by decide))
                                                                                          have c2 : g25 6 0 2 = f 6 0 2 := (o0 _ _ _ (by omega)).trans (hR88_0 _ _ (by decide))
                                                                                          have k17 : ∀ j, g25 17 0 j = g88_ 17 0 j := fun j => o0 _ _ _ (by omega)
                                                                                          have d4 : g25 6 2 4 = 0 ↔ f 11 a88_5.toInt.toNat 7 &&& 1 = 0 := by
                                                                                            rcases o2 with ⟨y1, y2⟩ | ⟨y1, y2⟩
                                                                                            · rw [y1]; exact ⟨fun h => absurd h (by decide), fun h => absurd h y2⟩
                                                                                            · rw [y1]; exact ⟨fun _ => Classical.byContradiction y2, fun _ => rfl⟩
                                                                                          have d5 : g25 6 2 5 = zoi f a88_5.toInt.toNat := by
                                                                                            unfold zoi
                                                                                            rcases o3 with ⟨y1, y2⟩ | ⟨y1, y2⟩
                                                                                            · rw [if_pos y1]; exact y2
                                                                                            · rw [if_neg (fun h => h y1)]; exact y2
                                                                                          have d6 : bt (g25 6 2 6) a2.toInt.toNat = true := by
                                                                                            rcases o4 with ⟨y1, y2⟩ | ⟨y1, y2⟩
                                                                                            · rw [y2, q24]
                                                                                              have hb := b_one a2.toInt.toNat (by omega) a2.toInt.toNat (by omega)
                                                                                              rw [← hd2] at hb
                                                                                              rw [hb]; exact decide_eq_true rfl
                                                                                            · rw [y2]; exact zb255d _ (by omega)
                                                                                          have r140 : (v26).toInt = zrd (zFx f a2.toInt.toNat) (zWx_ f a2.toInt.toNat) (f 1 0 7).toInt.toNat (zCx f a2.toInt.toNat a88_4.toInt.toNat) a88_5.toInt.toNat a88_5.toInt.toNat := by
                                                                                            have h := q26
                                                                                            rw [hq5, k17] at h
                                                                                            rw [h]; exact hR88_1 _ (by omega)
                                                                                          have hv : ∀ j, j < (f 1 0 7).toInt.toNat → (g27 17 0 j).toInt = zrd (zFx f a2.toInt.toNat) (zWx_ f a2.toInt.toNat) (f 1 0 7).toInt.toNat (zCx f a2.toInt.toNat a88_4.toInt.toNat) (a88_5.toInt.toNat + 1) j := fun j hj => by
                                                                                            have hr := hp27_0 j (by rw [k1]; exact hj)
                                                                                            rw [hr, k1, zrd]
                                                                                            refine zrx_congr r140 (fun _ => ?_) (fun _ => ?_) (by rw [k17]; exact hR88_1 j hj)
                                                                                            · unfold zFx
                                                                                              rw [zfa_k (fun q _ => k11 j q) k8 k9 k10, o1, d5, zfa_z d4, zfa_b d6 (zb255d _ (by omega))]
                                                                                            · unfold zWx_
                                                                                              rw [zbx_k0 (fun q _ => k11 j q) k8 c0 c2]
                                                                                          intro j hj
                                                                                          rw [hn]; exact hv j hj) (by
                                                                                          have hn : (v34).toInt.toNat = a88_5.toInt.toNat + 1 := by omega
                                                                                          have hq5 : a88_5.toNatClampNeg = a88_5.toInt.toNat := rfl
                                                                                          have r106 : (v18).toInt = zrd (zFx f a2.toInt.toNat) (zWx_ f a2.toInt.toNat) (f 1 0 7).toInt.toNat (zCx f a2.toInt.toNat a88_4.toInt.toNat) a88_5.toInt.toNat a88_5.toInt.toNat := by
                                                                                            have h := q18
                                                                                            rw [hq5] at h
                                                                                            rw [h]; exact hR88_1 _ (by omega)
                                                                                          have hx : m23 = a88_5.toInt.toNat := by omega
                                                                                          have hd2 : a2 = nI a2.toInt.toNat := (nI_ofI (by omega)).1
                                                                                          have o0 := hp25_0
                                                                                          have o1 := hp25_1
                                                                                          have o2 := hp25_2
                                                                                          have o3 := hp25_3
                                                                                          have o4 := hp25_4
                                                                                          rw [hx] at o1 o2 o3 o4
                                                                                          have m11 : ∀ q j, g88_ 11 q j = f 11 q j := fun q j => hF88_ 11 q j rfl
                                                                                          rw [m11] at o1 o2 o3 o4
                                                                                          rw [m11] at o3
                                                                                          have k11 : ∀ q j, g25 11 q j = f 11 q j := fun q j => (o0 _ _ _ (by omega)).trans (m11 q j)
                                                                                          have k8 : ∀ q j, g25 8 q j = f 8 q j := fun q j => (o0 _ _ _ (by omega)).trans (hF88_ 8 q j rfl)
                                                                                          have k9 : ∀ q j, g25 9 q j = f 9 q j := fun q j => (o0 _ _ _ (by omega)).trans (hF88_ 9 q j rfl)
                                                                                          have k10 : ∀ q j, g25 10 q j = f 10 q j := fun q j => (o0 _ _ _ (by omega)).trans (hF88_ 10 q j rfl)
                                                                                          have k1 : g25 1 0 7 = f 1 0 7 := (o0 _ _ _ (by omega)).trans (hF88_ 1 0 7 rfl)
                                                                                          have c0 : g25 6 0 0 = f 6 0 0 := (o0 _ _ _ (by omega)).trans (hR88_0 _ _ (by decide))
                                                                                          have c2 : g25 6 0 2 = f 6 0 2 := (o0 _ _ _ (by omega)).trans (hR88_0 _ _ (by decide))
                                                                                          have k17 : ∀ j, g25 17 0 j = g88_ 17 0 j := fun j => o0 _ _ _ (by omega)
                                                                                          have d4 : g25 6 2 4 = 0 ↔ f 11 a88_5.toInt.toNat 7 &&& 1 = 0 := by
                                                                                            rcases o2 with ⟨y1, y2⟩ | ⟨y1, y2⟩
                                                                                            · rw [y1]; exact ⟨fun h => absurd h (by decide), fun h => absurd h y2⟩
                                                                                            · rw [y1]; exact ⟨fun _ => Classical.byContradiction y2, fun _ => rfl⟩
                                                                                          have d5 : g25 6 2 5 = zoi f a88_5.toInt.toNat := by
                                                                                            unfold zoi
                                                                                            rcases o3 with ⟨y1, y2⟩ | ⟨y1, y2⟩
                                                                                            · rw [if_pos y1]; exact y2
                                                                                            · rw [if_neg (fun h => h y1)]; exact y2
                                                                                          have d6 : bt (g25 6 2 6) a2.toInt.toNat = true := by
                                                                                            rcases o4 with ⟨y1, y2⟩ | ⟨y1, y2⟩
                                                                                            · rw [y2, q24]
                                                                                              have hb := b_one a2.toInt.toNat (by omega) a2.toInt.toNat (by omega)
                                                                                              rw [← hd2] at hb
                                                                                              rw [hb]; exact decide_eq_true rfl
                                                                                            · rw [y2]; exact zb255d _ (by omega)
                                                                                          have r140 : (v26).toInt = zrd (zFx f a2.toInt.toNat) (zWx_ f a2.toInt.toNat) (f 1 0 7).toInt.toNat (zCx f a2.toInt.toNat a88_4.toInt.toNat) a88_5.toInt.toNat a88_5.toInt.toNat := by
                                                                                            have h := q26
                                                                                            rw [hq5, k17] at h
                                                                                            rw [h]; exact hR88_1 _ (by omega)
                                                                                          have hv : ∀ j, j < (f 1 0 7).toInt.toNat → (g27 17 0 j).toInt = zrd (zFx f a2.toInt.toNat) (zWx_ f a2.toInt.toNat) (f 1 0 7).toInt.toNat (zCx f a2.toInt.toNat a88_4.toInt.toNat) (a88_5.toInt.toNat + 1) j := fun j hj => by
                                                                                            have hr := hp27_0 j (by rw [k1]; exact hj)
                                                                                            rw [hr, k1, zrd]
                                                                                            refine zrx_congr r140 (fun _ => ?_) (fun _ => ?_) (by rw [k17]; exact hR88_1 j hj)
                                                                                            · unfold zFx
                                                                                              rw [zfa_k (fun q _ => k11 j q) k8 k9 k10, o1, d5, zfa_z d4, zfa_b d6 (zb255d _ (by omega))]
                                                                                            · unfold zWx_
                                                                                              rw [zbx_k0 (fun q _ => k11 j q) k8 c0 c2]
                                                                                          intro _ j hj
                                                                                          have hc := hp27_1 (show v27 = 0 by assumption) j (by rw [k1]; exact hj)
                                                                                          rw [hn, ← hv j hj, hc, k17, hR88_1 j hj]
                                                                                          exact hR88_2 (by assumption) j hj) (by exact hR88_3) (by have qc0 : (0 : Int32).toInt = 0 := (by decide); omega) (by have qc0 : (0 : Int32).toInt = 0 := (by decide); omega) (by have qc0 : (0 : Int32).toInt = 0 := (by decide); omega) (by have qc0 : (0 : Int32).toInt = 0 := (by decide); omega)
              · skip
                have b35x : zB a88_3 1 1 := by have q1 := b88_3; have q2 := (zB.of (x := 0) 0 (by decide)); simp only [z32lt, z32le, z32eq, Int32.reduceToInt, Int32.toInt_zero] at h149_31; constructor <;> omega
                refine z_iconst (pc := 152) (v := 1) C dX5_fewestBars_152 (by decide) ?_
                refine z_goto (pc := 153) 157 C dX5_fewestBars_153 (by decide) ?_
                refine z_istore_n (pc := 157) C dX5_fewestBars_157 (by rw [hn]; decide) rfl ?_
                refine z_iinc (pc := 158) (v := 1) C dX5_fewestBars_158 rfl (by decide) (by rw [hn]; decide) rfl ?_
                obtain ⟨v36, hv36, e36⟩ : ∃ v : Int32, v = a88_5 + 1 ∧ v.toInt = a88_5.toInt + 1 := ⟨_, rfl, zadd_eb b17x (zB.of (x := 1) 1 (by decide)) (by decide) (by decide)⟩
                rw [← hv36]
                have b36x : zB v36 1 12 := by have q9 := b17x; constructor <;> omega
                refine z_goto (pc := 161) 88 C dX5_fewestBars_161 (by decide) ?_
                exact ih1 1 (zB.wk (a' := 0) (b' := 1) (zB.of (x := 1) 1 (by decide)) (by decide) (by decide)) a88_4 b88_4 v36 (zB.wk (a' := 0) (b' := 12) b36x (by decide) (by decide)) g27 hI27 hF27 c27_1_0_7x (by intro n j hn; exact ((hF27q 6 n j rfl)).trans (((hp25_0 6 n j (by omega))).trans (hR88_0 n j hn))) (by
                                                                                          have hn : (v36).toInt.toNat = a88_5.toInt.toNat + 1 := by omega
                                                                                          have hq5 : a88_5.toNatClampNeg = a88_5.toInt.toNat := rfl
                                                                                          have r106 : (v18).toInt = zrd (zFx f a2.toInt.toNat) (zWx_ f a2.toInt.toNat) (f 1 0 7).toInt.toNat (zCx f a2.toInt.toNat a88_4.toInt.toNat) a88_5.toInt.toNat a88_5.toInt.toNat := by
                                                                                            have h := q18
                                                                                            rw [hq5] at h
                                                                                            rw [h]; exact hR88_1 _ (by omega)
                                                                                          have hx : m23 = a88_5.toInt.toNat := by omega
                                                                                          have hd2 : a2 = nI a2.toInt.toNat := (nI_ofI (by omega)).1
                                                                                          have o0 := hp25_0
                                                                                          have o1 := hp25_1
                                                                                          have o2 := hp25_2
                                                                                          have o3 := hp25_3
                                                                                          have o4 := hp25_4
                                                                                          rw [hx] at o1 o2 o3 o4
                                                                                          have m11 : ∀ q j, g88_ 11 q j = f 11 q j := fun q j => hF88_ 11 q j rfl
                                                                                          rw [m11] at o1 o2 o3 o4
                                                                                          rw [m11] at o3
                                                                                          have k11 : ∀ q j, g25 11 q j = f 11 q j := fun q j => (o0 _ _ _ (by omega)).trans (m11 q j)
                                                                                          have k8 : ∀ q j, g25 8 q j = f 8 q j := fun q j => (o0 _ _ _ (by omega)).trans (hF88_ 8 q j rfl)
                                                                                          have k9 : ∀ q j, g25 9 q j = f 9 q j := fun q j => (o0 _ _ _ (by omega)).trans (hF88_ 9 q j rfl)
                                                                                          have k10 : ∀ q j, g25 10 q j = f 10 q j := fun q j => (o0 _ _ _ (by omega)).trans (hF88_ 10 q j rfl)
                                                                                          have k1 : g25 1 0 7 = f 1 0 7 := (o0 _ _ _ (by omega)).trans (hF88_ 1 0 7 rfl)
                                                                                          have c0 : g25 6 0 0 = f 6 0 0 := (o0 _ _ _ (by omega)).trans (hR88_0 _ _ (by decide))
                                                                                          have c2 : g25 6 0 2 = f 6 0 2 := (o0 _ _ _ (by omega)).trans (hR88_0 _ _ (by decide))
                                                                                          have k17 : ∀ j, g25 17 0 j = g88_ 17 0 j := fun j => o0 _ _ _ (by omega)
                                                                                          have d4 : g25 6 2 4 = 0 ↔ f 11 a88_5.toInt.toNat 7 &&& 1 = 0 := by
                                                                                            rcases o2 with ⟨y1, y2⟩ | ⟨y1, y2⟩
                                                                                            · rw [y1]; exact ⟨fun h => absurd h (by decide), fun h => absurd h y2⟩
                                                                                            · rw [y1]; exact ⟨fun _ => Classical.byContradiction y2, fun _ => rfl⟩
                                                                                          have d5 : g25 6 2 5 = zoi f a88_5.toInt.toNat := by
                                                                                            unfold zoi
                                                                                            rcases o3 with ⟨y1, y2⟩ | ⟨y1, y2⟩
                                                                                            · rw [if_pos y1]; exact y2
                                                                                            · rw [if_neg (fun h => h y1)]; exact y2
                                                                                          have d6 : bt (g25 6 2 6) a2.toInt.toNat = true := by
                                                                                            rcases o4 with ⟨y1, y2⟩ | ⟨y1, y2⟩
                                                                                            · rw [y2, q24]
                                                                                              have hb := b_one a2.toInt.toNat (by omega) a2.toInt.toNat (by omega)
                                                                                              rw [← hd2] at hb
                                                                                              rw [hb]; exact decide_eq_true rfl
                                                                                            · rw [y2]; exact zb255d _ (by omega)
                                                                                          have r140 : (v26).toInt = zrd (zFx f a2.toInt.toNat) (zWx_ f a2.toInt.toNat) (f 1 0 7).toInt.toNat (zCx f a2.toInt.toNat a88_4.toInt.toNat) a88_5.toInt.toNat a88_5.toInt.toNat := by
                                                                                            have h := q26
                                                                                            rw [hq5, k17] at h
                                                                                            rw [h]; exact hR88_1 _ (by omega)
                                                                                          have hv : ∀ j, j < (f 1 0 7).toInt.toNat → (g27 17 0 j).toInt = zrd (zFx f a2.toInt.toNat) (zWx_ f a2.toInt.toNat) (f 1 0 7).toInt.toNat (zCx f a2.toInt.toNat a88_4.toInt.toNat) (a88_5.toInt.toNat + 1) j := fun j hj => by
                                                                                            have hr := hp27_0 j (by rw [k1]; exact hj)
                                                                                            rw [hr, k1, zrd]
                                                                                            refine zrx_congr r140 (fun _ => ?_) (fun _ => ?_) (by rw [k17]; exact hR88_1 j hj)
                                                                                            · unfold zFx
                                                                                              rw [zfa_k (fun q _ => k11 j q) k8 k9 k10, o1, d5, zfa_z d4, zfa_b d6 (zb255d _ (by omega))]
                                                                                            · unfold zWx_
                                                                                              rw [zbx_k0 (fun q _ => k11 j q) k8 c0 c2]
                                                                                          intro j hj
                                                                                          rw [hn]; exact hv j hj) (by intro h; exact absurd h (by decide)) (by exact hR88_3) (by have qc0 : (1 : Int32).toInt = 1 := (by decide); omega) (by have qc0 : (1 : Int32).toInt = 1 := (by decide); omega) (by have qc0 : (1 : Int32).toInt = 1 := (by decide); omega) (by have qc0 : (1 : Int32).toInt = 1 := (by decide); omega)
      · skip
        intro a178_3 b178_3 a178_4 b178_4 a178_5 b178_5 g178_ hI178_ hF178_ f178_1_0_7 hR178_0 hR178_1 hR178_2 hR178_3 hR178_4 hR178_5 hM178_
        refine z_iload (pc := 178) C dX5_fewestBars_178 rfl ?_
        refine z_aload_n (pc := 180) C dX5_fewestBars_180 rfl ?_
        refine z_getR (pc := 181) C zf_X5_31 rfl rfl (by decide) dX5_fewestBars_181 ?_
        refine z_getI (pc := 184) C zf_X5_76 rfl rfl (by decide) dX5_fewestBars_184 ?_
        refine w_gp (fun v => v = g178_ 1 0 7) rfl (fun v37 q37 => ?_)
        have e37 : v37.toInt = (g178_ 1 0 7).toInt := by rw [q37]
        have b37x : zB v37 0 12 := by first | exact zB.eqv e37 f178_1_0_7 | (have q9 := f178_1_0_7; constructor <;> omega)
        refine z_icmp_ge (pc := 187) 232 C dX5_fewestBars_187 (by decide) (fun h187_37 => ?_) (fun h187_37 => ?_)
        · skip
          have rr39 : a178_5.toInt ≥ v37.toInt := by simp only [z32lt, z32le, z32eq] at h187_37; omega
          refine z_aload_n (pc := 232) C dX5_fewestBars_232 rfl ?_
          refine z_getR (pc := 233) C zf_X5_31 rfl rfl (by decide) dX5_fewestBars_233 ?_
          refine z_getR (pc := 236) C zf_X5_111 rfl rfl (by decide) dX5_fewestBars_236 ?_
          refine z_iload_n (pc := 239) C dX5_fewestBars_239 rfl ?_
          refine z_aald (pc := 240) C rfl ⟨rfl, by decide⟩ (by decide) (zIx b2 (by decide) (by decide)) dX5_fewestBars_240 ?_
          refine w_grx (by have hq := zN b2 (by decide); show 8 * 0 + a2.toNatClampNeg < 16; omega) (fun m40 q40r h40x => ?_)
          have q40r : m40 = 8 * 0 + a2.toNatClampNeg := q40r
          have k40r : a2.toNatClampNeg = a2.toInt.toNat := rfl
          refine z_iload_n (pc := 241) C dX5_fewestBars_241 rfl ?_
          refine z_callV (pc := 242) C zk_X5_115 (x_X1_isCrime _ _ m40 h40x a1 b1 hI178_) rfl rfl h40x rfl rfl (Nat.le_of_ble_eq_true rfl) dX5_fewestBars_242 (fun r41 g41 q41 => ?_)
          obtain ⟨⟨v41, rfl, b41x⟩, hI41, hF41q, hp41_0⟩ := q41
          have hp41_0 := hp41_0 _ rfl
          obtain rfl := zFr_nil hF41q
          simp only [Option.toList, List.cons_append, List.nil_append]
          refine z_if_eq (pc := 245) 267 C dX5_fewestBars_245 (by decide) (fun h245_41 => ?_) (fun h245_41 => ?_)
          · skip
            have b43x : zB v41 0 0 := by have q1 := b41x; have q2 := (zB.of (x := 0) 0 (by decide)); simp only [z32lt, z32le, z32eq, Int32.reduceToInt, Int32.toInt_zero] at h245_41; constructor <;> omega
            refine z_iconst (pc := 267) (v := 0) C dX5_fewestBars_267 (by decide) ?_
            refine z_istore (pc := 268) C dX5_fewestBars_268 (by rw [hn]; decide) rfl ?_
            refine z_iload (pc := 270) C dX5_fewestBars_270 rfl ?_
            refine z_if_eq (pc := 272) 288 C dX5_fewestBars_272 (by decide) (fun h272_43 => ?_) (fun h272_43 => absurd h272_43 (by decide))
            refine z_bipush (pc := 288) (v := -4) C dX5_fewestBars_288 (by decide) ?_
            exact z_iret (pc := 290) C hr dX5_fewestBars_290 ⟨⟨_, rfl, (zB.wk (a' := (-4)) (b' := 999) (zB.of (x := (-4)) (-4) (by decide)) (by decide) (by decide))⟩, hI178_, hF178_, (by
                                                                                          intro v hv; cases hv
                                                                                          have hk : (f 1 0 7).toInt.toNat = a178_5.toInt.toNat := by omega
                                                                                          have h2 := hR178_2
                                                                                          rw [← hk] at h2
                                                                                          have hx240 : m40 = a2.toInt.toNat := by omega
                                                                                          have hc := hp41_0
                                                                                          rw [hx240, hF178_ 9 _ _ rfl] at hc
                                                                                          refine Or.inr ?_
                                                                                          first
                                                                                            | exact Or.inl ⟨hR178_3, ⟨⟨zbo_y hc (by omega), by rw [← r257]; assumption⟩, by omega⟩, h2⟩
                                                                                            | exact Or.inr ⟨hR178_3, fun h => zbo_n hc (by omega) h.1.1, rfl⟩
                                                                                            | exact Or.inr ⟨hR178_3, fun h => absurd (r257.trans h.1.2) (by assumption), rfl⟩
                                                                                            | exact Or.inr ⟨hR178_3, fun h => by have h3 := h.2; omega, rfl⟩), (by intro v hv; cases hv; intro n j hn; exact hR178_0 n j hn)⟩
          · skip
            have b45x : zB v41 1 1 := by have q1 := b41x; have q2 := (zB.of (x := 0) 0 (by decide)); simp only [z32lt, z32le, z32eq, Int32.reduceToInt, Int32.toInt_zero] at h245_41; constructor <;> omega
            refine z_aload_n (pc := 248) C dX5_fewestBars_248 rfl ?_
            refine z_getR (pc := 249) C zf_X5_31 rfl rfl (by decide) dX5_fewestBars_249 ?_
            refine z_getR (pc := 252) C zf_X5_111 rfl rfl (by decide) dX5_fewestBars_252 ?_
            refine z_iload_n (pc := 255) C dX5_fewestBars_255 rfl ?_
            refine z_aald (pc := 256) C rfl ⟨rfl, by decide⟩ (by decide) (zIx b2 (by decide) (by decide)) dX5_fewestBars_256 ?_
            refine w_grx (by have hq := zN b2 (by decide); show 8 * 0 + a2.toNatClampNeg < 16; omega) (fun m46 q46r h46x => ?_)
            have q46r : m46 = 8 * 0 + a2.toNatClampNeg := q46r
            have k46r : a2.toNatClampNeg = a2.toInt.toNat := rfl
            refine z_getI (pc := 257) C zf_X5_120 rfl rfl h46x dX5_fewestBars_257 ?_
            refine w_gp (fun v => v = g178_ 8 m46 4) rfl (fun v48 q48 => ?_)
            have b48x : zB v48 0 1 := by rw [q48]; exact (hI178_ 8 m46 4)
            refine z_if_ne (pc := 260) 267 C dX5_fewestBars_260 (by decide) (fun h260_48 => ?_) (fun h260_48 => ?_)
            · skip
              have b50x : zB v48 1 1 := by have q1 := b48x; have q2 := (zB.of (x := 0) 0 (by decide)); simp only [z32lt, z32le, z32eq, Int32.reduceToInt, Int32.toInt_zero] at h260_48; constructor <;> omega
              refine z_iconst (pc := 267) (v := 0) C dX5_fewestBars_267 (by decide) ?_
              refine z_istore (pc := 268) C dX5_fewestBars_268 (by rw [hn]; decide) rfl ?_
              refine z_iload (pc := 270) C dX5_fewestBars_270 rfl ?_
              refine z_if_eq (pc := 272) 288 C dX5_fewestBars_272 (by decide) (fun h272_50 => ?_) (fun h272_50 => absurd h272_50 (by decide))
              refine z_bipush (pc := 288) (v := -4) C dX5_fewestBars_288 (by decide) ?_
              exact z_iret (pc := 290) C hr dX5_fewestBars_290 ⟨⟨_, rfl, (zB.wk (a' := (-4)) (b' := 999) (zB.of (x := (-4)) (-4) (by decide)) (by decide) (by decide))⟩, hI178_, hF178_, (by
                                                                                          intro v hv; cases hv
                                                                                          have hk : (f 1 0 7).toInt.toNat = a178_5.toInt.toNat := by omega
                                                                                          have h2 := hR178_2
                                                                                          rw [← hk] at h2
                                                                                          have hx240 : m40 = a2.toInt.toNat := by omega
                                                                                          have hc := hp41_0
                                                                                          rw [hx240, hF178_ 9 _ _ rfl] at hc
                                                                                          have hx256 : m46 = a2.toInt.toNat := by omega
                                                                                          have r257 := q48
                                                                                          rw [hx256, hF178_ 8 _ 4 rfl] at r257
                                                                                          refine Or.inr ?_
                                                                                          first
                                                                                            | exact Or.inl ⟨hR178_3, ⟨⟨zbo_y hc (by omega), by rw [← r257]; assumption⟩, by omega⟩, h2⟩
                                                                                            | exact Or.inr ⟨hR178_3, fun h => zbo_n hc (by omega) h.1.1, rfl⟩
                                                                                            | exact Or.inr ⟨hR178_3, fun h => absurd (r257.trans h.1.2) (by assumption), rfl⟩
                                                                                            | exact Or.inr ⟨hR178_3, fun h => by have h3 := h.2; omega, rfl⟩), (by intro v hv; cases hv; intro n j hn; exact hR178_0 n j hn)⟩
            · skip
              have b52x : zB v48 0 0 := by have q1 := b48x; have q2 := (zB.of (x := 0) 0 (by decide)); simp only [z32lt, z32le, z32eq, Int32.reduceToInt, Int32.toInt_zero] at h260_48; constructor <;> omega
              refine z_iconst (pc := 263) (v := 1) C dX5_fewestBars_263 (by decide) ?_
              refine z_goto (pc := 264) 268 C dX5_fewestBars_264 (by decide) ?_
              refine z_istore (pc := 268) C dX5_fewestBars_268 (by rw [hn]; decide) rfl ?_
              refine z_iload (pc := 270) C dX5_fewestBars_270 rfl ?_
              refine z_if_eq (pc := 272) 288 C dX5_fewestBars_272 (by decide) (fun h272_52 => absurd h272_52 (by decide)) (fun h272_52 => ?_)
              refine z_iload (pc := 275) C dX5_fewestBars_275 rfl ?_
              refine z_sipush (pc := 277) (v := 1000) C dX5_fewestBars_277 (by decide) ?_
              refine z_icmp_ge (pc := 280) 288 C dX5_fewestBars_280 (by decide) (fun h280_53 => ?_) (fun h280_53 => ?_)
              · skip
                have b55x : zB a178_4 1000 1000 := by have q1 := b178_4; have q2 := (zB.of (x := 1000) 1000 (by decide)); simp only [z32lt, z32le, z32eq, Int32.reduceToInt, Int32.toInt_zero] at h280_53; constructor <;> omega
                refine z_bipush (pc := 288) (v := -4) C dX5_fewestBars_288 (by decide) ?_
                exact z_iret (pc := 290) C hr dX5_fewestBars_290 ⟨⟨_, rfl, (zB.wk (a' := (-4)) (b' := 999) (zB.of (x := (-4)) (-4) (by decide)) (by decide) (by decide))⟩, hI178_, hF178_, (by
                                                                                          intro v hv; cases hv
                                                                                          have hk : (f 1 0 7).toInt.toNat = a178_5.toInt.toNat := by omega
                                                                                          have h2 := hR178_2
                                                                                          rw [← hk] at h2
                                                                                          have hx240 : m40 = a2.toInt.toNat := by omega
                                                                                          have hc := hp41_0
                                                                                          rw [hx240, hF178_ 9 _ _ rfl] at hc
                                                                                          have hx256 : m46 = a2.toInt.toNat := by omega
                                                                                          have r257 := q48
                                                                                          rw [hx256, hF178_ 8 _ 4 rfl] at r257
                                                                                          refine Or.inr ?_
                                                                                          first
                                                                                            | exact Or.inl ⟨hR178_3, ⟨⟨zbo_y hc (by omega), by rw [← r257]; assumption⟩, by omega⟩, h2⟩
                                                                                            | exact Or.inr ⟨hR178_3, fun h => zbo_n hc (by omega) h.1.1, rfl⟩
                                                                                            | exact Or.inr ⟨hR178_3, fun h => absurd (r257.trans h.1.2) (by assumption), rfl⟩
                                                                                            | exact Or.inr ⟨hR178_3, fun h => by have h3 := h.2; omega, rfl⟩), (by intro v hv; cases hv; intro n j hn; exact hR178_0 n j hn)⟩
              · skip
                have b56x : zB a178_4 0 999 := by have q1 := b178_4; have q2 := (zB.of (x := 1000) 1000 (by decide)); simp only [z32lt, z32le, z32eq, Int32.reduceToInt, Int32.toInt_zero] at h280_53; constructor <;> omega
                refine z_iload (pc := 283) C dX5_fewestBars_283 rfl ?_
                refine z_goto (pc := 285) 290 C dX5_fewestBars_285 (by decide) ?_
                exact z_iret (pc := 290) C hr dX5_fewestBars_290 ⟨⟨_, rfl, (zB.wk (a' := (-4)) (b' := 999) b56x (by decide) (by decide))⟩, hI178_, hF178_, (by
                                                                                          intro v hv; cases hv
                                                                                          have hk : (f 1 0 7).toInt.toNat = a178_5.toInt.toNat := by omega
                                                                                          have h2 := hR178_2
                                                                                          rw [← hk] at h2
                                                                                          have hx240 : m40 = a2.toInt.toNat := by omega
                                                                                          have hc := hp41_0
                                                                                          rw [hx240, hF178_ 9 _ _ rfl] at hc
                                                                                          have hx256 : m46 = a2.toInt.toNat := by omega
                                                                                          have r257 := q48
                                                                                          rw [hx256, hF178_ 8 _ 4 rfl] at r257
                                                                                          refine Or.inr ?_
                                                                                          first
                                                                                            | exact Or.inl ⟨hR178_3, ⟨⟨zbo_y hc (by omega), by rw [← r257]; assumption⟩, by omega⟩, h2⟩
                                                                                            | exact Or.inr ⟨hR178_3, fun h => zbo_n hc (by omega) h.1.1, rfl⟩
                                                                                            | exact Or.inr ⟨hR178_3, fun h => absurd (r257.trans h.1.2) (by assumption), rfl⟩
                                                                                            | exact Or.inr ⟨hR178_3, fun h => by have h3 := h.2; omega, rfl⟩), (by intro v hv; cases hv; intro n j hn; exact hR178_0 n j hn)⟩
        · skip
          have rr57 : a178_5.toInt < v37.toInt := by simp only [z32lt, z32le, z32eq] at h187_37; omega
          have b58x : zB a178_5 0 11 := by have q1 := b178_5; have q2 := b37x; simp only [z32lt, z32le, z32eq, Int32.reduceToInt, Int32.toInt_zero] at h187_37; constructor <;> omega
          have b59x : zB v37 1 12 := by have q1 := b178_5; have q2 := b37x; simp only [z32lt, z32le, z32eq, Int32.reduceToInt, Int32.toInt_zero] at h187_37; constructor <;> omega
          have c60x : zB (g178_ 1 0 7) 1 12 := by first | assumption | (constructor <;> omega)
          refine z_aload_n (pc := 190) C dX5_fewestBars_190 rfl ?_
          refine z_getR (pc := 191) C zf_X5_31 rfl rfl (by decide) dX5_fewestBars_191 ?_
          refine z_getR (pc := 194) C zf_X5_68 rfl rfl (by decide) dX5_fewestBars_194 ?_
          refine z_iload (pc := 197) C dX5_fewestBars_197 rfl ?_
          refine z_aald (pc := 199) C rfl ⟨rfl, by decide⟩ (by decide) (zIx b58x (by decide) (by decide)) dX5_fewestBars_199 ?_
          refine w_grx (by have hq := zN b58x (by decide); show 12 * 0 + a178_5.toNatClampNeg < 36; omega) (fun m61 q61r h61x => ?_)
          have q61r : m61 = 12 * 0 + a178_5.toNatClampNeg := q61r
          have k61r : a178_5.toNatClampNeg = a178_5.toInt.toNat := rfl
          refine z_getI (pc := 200) C zf_X5_102 rfl rfl h61x dX5_fewestBars_200 ?_
          refine w_gp (fun v => v = g178_ 11 m61 2) rfl (fun v63 q63 => ?_)
          have b63x : zB v63 0 5 := by rw [q63]; exact (hI178_ 11 m61 2)
          refine z_iload_n (pc := 203) C dX5_fewestBars_203 rfl ?_
          refine z_icmp_ne (pc := 204) 222 C dX5_fewestBars_204 (by decide) (fun h204_63 => ?_) (fun h204_63 => ?_)
          · skip
            refine z_iload (pc := 222) C dX5_fewestBars_222 rfl ?_
            refine z_istore (pc := 224) C dX5_fewestBars_224 (by rw [hn]; decide) rfl ?_
            refine z_iinc (pc := 226) (v := 1) C dX5_fewestBars_226 rfl (by decide) (by rw [hn]; decide) rfl ?_
            obtain ⟨v65, hv65, e65⟩ : ∃ v : Int32, v = a178_5 + 1 ∧ v.toInt = a178_5.toInt + 1 := ⟨_, rfl, zadd_eb b58x (zB.of (x := 1) 1 (by decide)) (by decide) (by decide)⟩
            rw [← hv65]
            have b65x : zB v65 1 12 := by have q9 := b58x; constructor <;> omega
            refine z_goto (pc := 229) 178 C dX5_fewestBars_229 (by decide) ?_
            exact ih2 a178_3 b178_3 a178_4 b178_4 v65 (zB.wk (a' := 0) (b' := 12) b65x (by decide) (by decide)) g178_ hI178_ hF178_ (zB.wk c60x (by decide) (by decide)) (by intro n j hn; exact hR178_0 n j hn) (by exact hR178_1) (by
                                                                                          have hn : (v65).toInt.toNat = a178_5.toInt.toNat + 1 := by omega
                                                                                          have hx : m61 = a178_5.toInt.toNat := by omega
                                                                                          have hq5 : a178_5.toNatClampNeg = a178_5.toInt.toNat := rfl
                                                                                          have r200 := q63
                                                                                          rw [hx, hF178_ 11 _ 2 rfl] at r200
                                                                                          have hb : zBEx f a1 a2.toInt.toNat (a178_5.toInt.toNat + 1) = zmn (fun k => f 11 k 2 = a1) (zCx f a2.toInt.toNat (f 1 0 7).toInt.toNat) 1000 (a178_5.toInt.toNat + 1) := rfl
                                                                                          have hb0 : zBEx f a1 a2.toInt.toNat a178_5.toInt.toNat = zmn (fun k => f 11 k 2 = a1) (zCx f a2.toInt.toNat (f 1 0 7).toInt.toNat) 1000 a178_5.toInt.toNat := rfl
                                                                                          have h2 := hR178_2
                                                                                          rw [hb0] at h2
                                                                                          rw [hn, hb]
                                                                                          rw [zmn_n (fun h => absurd (r200.trans h.1) (by assumption))]; exact h2) (by exact hR178_3) (by omega) (by omega) (by omega)
          · skip
            have rr66 : v63.toInt = a1.toInt := by simp only [z32lt, z32le, z32eq] at h204_63; omega
            refine z_iload (pc := 207) C dX5_fewestBars_207 rfl ?_
            refine z_aload_n (pc := 209) C dX5_fewestBars_209 rfl ?_
            refine z_getR (pc := 210) C zf_X5_28 rfl rfl (by decide) dX5_fewestBars_210 ?_
            refine z_iload (pc := 213) C dX5_fewestBars_213 rfl ?_
            refine z_iald (pc := 215) C rfl (by decide) (zIx b58x (by decide) (by decide)) dX5_fewestBars_215 ?_
            have kq215_66 : a178_5.toNatClampNeg = a178_5.toInt.toNat := rfl
            refine w_gp (fun v => v = g178_ 17 0 a178_5.toNatClampNeg) rfl (fun v67 q67 => ?_)
            have b67x : zB v67 0 2000 := by rw [q67]; exact (hI178_ 17 0 a178_5.toNatClampNeg)
            refine z_mmin (pc := 216) C zk_X5_105 (Nat.le_of_ble_eq_true rfl) dX5_fewestBars_216 ?_
            refine w_gp (fun v => v = imin a178_4 v67) rfl (fun v68 q68 => ?_)
            have b68x : zB v68 0 1000 := by rw [q68]; exact (by have q9 := zmin_b b178_4 b67x; constructor <;> omega)
            refine z_goto (pc := 219) 224 C dX5_fewestBars_219 (by decide) ?_
            refine z_istore (pc := 224) C dX5_fewestBars_224 (by rw [hn]; decide) rfl ?_
            refine z_iinc (pc := 226) (v := 1) C dX5_fewestBars_226 rfl (by decide) (by rw [hn]; decide) rfl ?_
            obtain ⟨v69, hv69, e69⟩ : ∃ v : Int32, v = a178_5 + 1 ∧ v.toInt = a178_5.toInt + 1 := ⟨_, rfl, zadd_eb b58x (zB.of (x := 1) 1 (by decide)) (by decide) (by decide)⟩
            rw [← hv69]
            have b69x : zB v69 1 12 := by have q9 := b58x; constructor <;> omega
            refine z_goto (pc := 229) 178 C dX5_fewestBars_229 (by decide) ?_
            exact ih2 a178_3 b178_3 v68 b68x v69 (zB.wk (a' := 0) (b' := 12) b69x (by decide) (by decide)) g178_ hI178_ hF178_ (zB.wk c60x (by decide) (by decide)) (by intro n j hn; exact hR178_0 n j hn) (by exact hR178_1) (by
                                                                                          have hn : (v69).toInt.toNat = a178_5.toInt.toNat + 1 := by omega
                                                                                          have hx : m61 = a178_5.toInt.toNat := by omega
                                                                                          have hq5 : a178_5.toNatClampNeg = a178_5.toInt.toNat := rfl
                                                                                          have r200 := q63
                                                                                          rw [hx, hF178_ 11 _ 2 rfl] at r200
                                                                                          have hb : zBEx f a1 a2.toInt.toNat (a178_5.toInt.toNat + 1) = zmn (fun k => f 11 k 2 = a1) (zCx f a2.toInt.toNat (f 1 0 7).toInt.toNat) 1000 (a178_5.toInt.toNat + 1) := rfl
                                                                                          have hb0 : zBEx f a1 a2.toInt.toNat a178_5.toInt.toNat = zmn (fun k => f 11 k 2 = a1) (zCx f a2.toInt.toNat (f 1 0 7).toInt.toNat) 1000 a178_5.toInt.toNat := rfl
                                                                                          have h2 := hR178_2
                                                                                          rw [hb0] at h2
                                                                                          rw [hn, hb]
                                                                                          have hl : f 11 a178_5.toInt.toNat 2 = a1 := r200.symm.trans (by assumption)
                                                                                          have r215 : (v67).toInt = zCx f a2.toInt.toNat (f 1 0 7).toInt.toNat a178_5.toInt.toNat := by
                                                                                            have h := q67
                                                                                            rw [hq5] at h
                                                                                            rw [h]; exact hR178_1 _ (by omega)
                                                                                          rw [q68, imin_e2]
                                                                                          by_cases z : (v67).toInt < a178_4.toInt
                                                                                          · rw [if_pos z, zmn_y ⟨hl, by rw [← r215, ← h2]; exact z⟩]; exact r215
                                                                                          · rw [if_neg z, zmn_n (fun h => by have h3 := h.2; rw [← r215, ← h2] at h3; exact z h3)]; exact h2) (by exact hR178_3) (by omega) (by omega) (by omega)
  obtain ⟨J0, J1, J2⟩ := J 13729
  show Z X 0 [some (zr 13 0), some (zi a1), some (zi a2), none, none, none] [] f
  refine z_aload_n (pc := 0) C dX5_fewestBars_0 rfl ?_
  refine z_getR (pc := 1) C zf_X5_12 rfl rfl (by decide) dX5_fewestBars_1 ?_
  refine z_aload_n (pc := 4) C dX5_fewestBars_4 rfl ?_
  refine z_getR (pc := 5) C zf_X5_31 rfl rfl (by decide) dX5_fewestBars_5 ?_
  refine z_getR (pc := 8) C zf_X5_61 rfl rfl (by decide) dX5_fewestBars_8 ?_
  refine z_callV (pc := 11) C zk_X5_64 (x_X3_stand _ _ 2 (by decide) 0 (by decide) (by omega) hI) rfl rfl (by decide) rfl rfl (Nat.le_of_ble_eq_true rfl) dX5_fewestBars_11 (fun r70 g70 q70 => ?_)
  obtain ⟨rfl, hI70, hF70q, hp70_0, hp70_1⟩ := q70
  have hF70 := zFr.tr hF hF70q (by decide)
  simp only [Option.toList, List.cons_append, List.nil_append]
  have ek70_1_0_7 : (g70 1 0 7).toInt = (f 1 0 7).toInt := by rw [hF70q 1 0 7 rfl]
  have c70_1_0_7x : zB (g70 1 0 7) 0 12 := by rw [hF70q 1 0 7 rfl]; exact ct1_0_7
  refine z_aload_n (pc := 14) C dX5_fewestBars_14 rfl ?_
  refine z_getR (pc := 15) C zf_X5_12 rfl rfl (by decide) dX5_fewestBars_15 ?_
  refine z_getI (pc := 18) C zf_X5_46 rfl rfl (by decide) dX5_fewestBars_18 ?_
  refine w_gp (fun v => v = g70 6 2 1) rfl (fun v72 q72 => ?_)
  have b72x : zB v72 0 5 := by rw [q72]; exact (hI70 6 2 1)
  refine z_iload_n (pc := 21) C dX5_fewestBars_21 rfl ?_
  refine z_icmp_ne (pc := 22) 45 C dX5_fewestBars_22 (by decide) (fun h22_72 => ?_) (fun h22_72 => ?_)
  · skip
    refine z_aload_n (pc := 45) C dX5_fewestBars_45 rfl ?_
    refine z_getR (pc := 46) C zf_X5_28 rfl rfl (by decide) dX5_fewestBars_46 ?_
    refine z_sipush (pc := 49) (v := 1000) C dX5_fewestBars_49 (by decide) ?_
    refine z_callSx (pc := 52) C zk_X5_92 (m_fill _ _ 17 0 12 1000 (by decide) rfl (by decide)) rfl rfl (Nat.le_of_ble_eq_true rfl) dX5_fewestBars_52 ?_
    simp only [Option.toList, List.cons_append, List.nil_append]
    refine w_fillx hI70 hF70 (fun j => (zB.wk (a' := 0) (b' := 2000) (zB.of (x := 1000) 1000 (by decide)) (by decide) (by decide))) (fun j => rfl) (fun g74 qm74 hI74 hF74 => ?_)
    have ek74_1_0_7 : (g74 1 0 7).toInt = (g70 1 0 7).toInt := by rw [(show g74 1 0 7 = g70 1 0 7 by rw [qm74]; exact zfill_ne (by omega))]
    have c74_1_0_7x : zB (g74 1 0 7) 0 12 := by rw [(show g74 1 0 7 = g70 1 0 7 by rw [qm74]; exact zfill_ne (by omega))]; exact c70_1_0_7x
    refine z_aload_n (pc := 55) C dX5_fewestBars_55 rfl ?_
    refine z_iconst (pc := 56) (v := 0) C dX5_fewestBars_56 (by decide) ?_
    refine z_iload_n (pc := 57) C dX5_fewestBars_57 rfl ?_
    refine z_callV (pc := 58) C zk_X5_98 (x_X5_relax _ _ 0 (zB.wk (a' := 0) (b' := 2000) (zB.of (x := 0) 0 (by decide)) (by decide) (by decide)) a2 b2 (by exact zWa_k hp0 (hF74 1 0 7 rfl) (fun p j => hF74 11 p j rfl) (fun n j => hF74 8 n j rfl) (fun n j => hF74 9 n j rfl) (fun n j => hF74 10 n j rfl)) hI74) rfl rfl (by decide) rfl rfl (Nat.le_of_ble_eq_true rfl) dX5_fewestBars_58 (fun r75 g75 q75 => ?_)
    have qa75_0 : (0 : Int32).toInt = 0 := by decide
    obtain ⟨⟨v75, rfl, b75x⟩, hI75, hF75q, hp75_0, hp75_1⟩ := q75
    have hp75_0 := hp75_0 _ rfl
    have hp75_1 := hp75_1 _ rfl
    have hF75 := zFr.tr hF74 hF75q (by decide)
    simp only [Option.toList, List.cons_append, List.nil_append]
    have ek75_1_0_7 : (g75 1 0 7).toInt = (g74 1 0 7).toInt := by rw [hF75q 1 0 7 rfl]
    have c75_1_0_7x : zB (g75 1 0 7) 0 12 := by rw [hF75q 1 0 7 rfl]; exact c74_1_0_7x
    refine z_pop (pc := 61) C dX5_fewestBars_61 ?_
    refine z_iconst (pc := 62) (v := 1) C dX5_fewestBars_62 (by decide) ?_
    refine z_istore_n (pc := 63) C dX5_fewestBars_63 (by rw [hn]; decide) rfl ?_
    refine z_iconst (pc := 64) (v := 0) C dX5_fewestBars_64 (by decide) ?_
    refine z_istore (pc := 65) C dX5_fewestBars_65 (by rw [hn]; decide) rfl ?_
    exact J0 1 (zB.wk (a' := 0) (b' := 1) (zB.of (x := 1) 1 (by decide)) (by decide) (by decide)) 0 (zB.wk (a' := 0) (b' := 12) (zB.of (x := 0) 0 (by decide)) (by decide) (by decide)) g75 hI75 hF75 c75_1_0_7x (by intro n j hn; exact ((hF75q 6 n j rfl)).trans (((show g74 6 n j = g70 6 n j by rw [qm74]; exact zfill_ne (by omega))).trans (((hp70_1 n j hn)).trans (rfl)))) (by
                                                                                          have s0 := hp70_0
                                                                                          have s1 : ∀ n j, n ≠ 2 → g70 6 n j = f 6 n j := hp70_1
                                                                                          have ff : ∀ a b c, ¬ a = 17 → g74 a b c = g70 a b c := fun a b c h => by rw [qm74]; exact zfill_ne (by omega)
                                                                                          have f17 : ∀ j, j < 12 → g74 17 0 j = 1000 := fun j hj => by rw [qm74]; unfold zfill; exact if_pos ⟨rfl, rfl, hj⟩
                                                                                          have k11 : ∀ q j, g74 11 q j = f 11 q j := fun q j => (ff _ _ _ (by omega)).trans (hF70q 11 q j rfl)
                                                                                          have k8 : ∀ q j, g74 8 q j = f 8 q j := fun q j => (ff _ _ _ (by omega)).trans (hF70q 8 q j rfl)
                                                                                          have k9 : ∀ q j, g74 9 q j = f 9 q j := fun q j => (ff _ _ _ (by omega)).trans (hF70q 9 q j rfl)
                                                                                          have k10 : ∀ q j, g74 10 q j = f 10 q j := fun q j => (ff _ _ _ (by omega)).trans (hF70q 10 q j rfl)
                                                                                          have k1 : g74 1 0 7 = f 1 0 7 := (ff _ _ _ (by omega)).trans (hF70q 1 0 7 rfl)
                                                                                          have b12 : (f 1 0 7).toInt ≤ 12 := (hI 1 0 7).2
                                                                                          have w1 : g74 6 2 1 = f 6 0 1 := (ff _ _ _ (by omega)).trans s0.1
                                                                                          have w4 : g74 6 2 4 = f 6 0 4 := (ff _ _ _ (by omega)).trans s0.2.1
                                                                                          have w5 : g74 6 2 5 = f 6 0 5 := (ff _ _ _ (by omega)).trans s0.2.2.1
                                                                                          have w6 : g74 6 2 6 = f 6 0 6 := (ff _ _ _ (by omega)).trans s0.2.2.2
                                                                                          have c0 : g74 6 0 0 = f 6 0 0 := (ff _ _ _ (by omega)).trans (s1 _ _ (by decide))
                                                                                          have c2 : g74 6 0 2 = f 6 0 2 := (ff _ _ _ (by omega)).trans (s1 _ _ (by decide))
                                                                                          intro j hj
                                                                                          have hr := hp75_0 j (by rw [k1]; exact hj)
                                                                                          rw [hr, k1]
                                                                                          show _ = zrx (zF0x f a2.toInt.toNat) (zWx_ f a2.toInt.toNat) 0 (fun _ => 1000) (f 1 0 7).toInt.toNat j
                                                                                          refine zrx_congr (by decide) (fun _ => ?_) (fun _ => ?_) ?_
                                                                                          · unfold zF0x
                                                                                            rw [zfa_k (fun q _ => k11 j q) k8 k9 k10, w1, w4, w5, w6]
                                                                                          · unfold zWx_
                                                                                            rw [zbx_k0 (fun q _ => k11 j q) k8 c0 c2]
                                                                                          · rw [f17 j (by omega)]; decide) (by intro h; exact absurd h (by decide)) (by
                                                                                          have s0 := hp70_0
                                                                                          have s1 : ∀ n j, n ≠ 2 → g70 6 n j = f 6 n j := hp70_1
                                                                                          have k8s : ∀ n j, g70 8 n j = f 8 n j := fun n j => hF70q 8 n j rfl
                                                                                          have k9s : ∀ n j, g70 9 n j = f 9 n j := fun n j => hF70q 9 n j rfl
                                                                                          have k1s : ∀ j, g70 1 0 j = f 1 0 j := fun j => hF70q 1 0 j rfl
                                                                                          have r18 := q72
                                                                                          rw [s0.1] at r18
                                                                                          exact fun h => absurd (r18.trans h.1) (by assumption)) (by have qc0 : (0 : Int32).toInt = 0 := (by decide); have qc1 : (1 : Int32).toInt = 1 := (by decide); omega) (by have qc0 : (0 : Int32).toInt = 0 := (by decide); have qc1 : (1 : Int32).toInt = 1 := (by decide); omega) (by have qc0 : (0 : Int32).toInt = 0 := (by decide); have qc1 : (1 : Int32).toInt = 1 := (by decide); omega)
  · skip
    have rr76 : v72.toInt = a1.toInt := by simp only [z32lt, z32le, z32eq] at h22_72; omega
    refine z_aload_n (pc := 25) C dX5_fewestBars_25 rfl ?_
    refine z_getR (pc := 26) C zf_X5_31 rfl rfl (by decide) dX5_fewestBars_26 ?_
    refine z_aload_n (pc := 29) C dX5_fewestBars_29 rfl ?_
    refine z_getR (pc := 30) C zf_X5_12 rfl rfl (by decide) dX5_fewestBars_30 ?_
    refine z_callV (pc := 33) C zk_X5_49 (x_X8_triedBy _ _ 2 (by decide) hI70) rfl rfl (by decide) rfl rfl (Nat.le_of_ble_eq_true rfl) dX5_fewestBars_33 (fun r77 g77 q77 => ?_)
    obtain ⟨⟨v77, rfl, b77x⟩, hI77, hF77q, hp77_0⟩ := q77
    have hp77_0 := hp77_0 _ rfl
    obtain rfl := zFr_nil hF77q
    simp only [Option.toList, List.cons_append, List.nil_append]
    refine z_iload_n (pc := 36) C dX5_fewestBars_36 rfl ?_
    refine z_ishr (pc := 37) C dX5_fewestBars_37 ?_
    refine w_gp (fun v => v = v77 >>> (a2 &&& 31)) rfl (fun v78 q78 => ?_)
    refine z_iconst (pc := 38) (v := 1) C dX5_fewestBars_38 (by decide) ?_
    refine z_iand (pc := 39) C dX5_fewestBars_39 ?_
    refine w_gp (fun v => v = v78 &&& (1 : Int32)) rfl (fun v79 q79 => ?_)
    have b79x : zB v79 0 1 := by rw [q79]; exact (zand_b (zB_any v78) (zB.of (x := 1) 1 (by decide)) (by decide))
    refine z_if_eq (pc := 40) 45 C dX5_fewestBars_40 (by decide) (fun h40_79 => ?_) (fun h40_79 => ?_)
    · skip
      have b81x : zB v79 0 0 := by have q1 := b79x; have q2 := (zB.of (x := 0) 0 (by decide)); simp only [z32lt, z32le, z32eq, Int32.reduceToInt, Int32.toInt_zero] at h40_79; constructor <;> omega
      refine z_aload_n (pc := 45) C dX5_fewestBars_45 rfl ?_
      refine z_getR (pc := 46) C zf_X5_28 rfl rfl (by decide) dX5_fewestBars_46 ?_
      refine z_sipush (pc := 49) (v := 1000) C dX5_fewestBars_49 (by decide) ?_
      refine z_callSx (pc := 52) C zk_X5_92 (m_fill _ _ 17 0 12 1000 (by decide) rfl (by decide)) rfl rfl (Nat.le_of_ble_eq_true rfl) dX5_fewestBars_52 ?_
      simp only [Option.toList, List.cons_append, List.nil_append]
      refine w_fillx hI70 hF70 (fun j => (zB.wk (a' := 0) (b' := 2000) (zB.of (x := 1000) 1000 (by decide)) (by decide) (by decide))) (fun j => rfl) (fun g82 qm82 hI82 hF82 => ?_)
      have ek82_1_0_7 : (g82 1 0 7).toInt = (g70 1 0 7).toInt := by rw [(show g82 1 0 7 = g70 1 0 7 by rw [qm82]; exact zfill_ne (by omega))]
      have c82_1_0_7x : zB (g82 1 0 7) 0 12 := by rw [(show g82 1 0 7 = g70 1 0 7 by rw [qm82]; exact zfill_ne (by omega))]; exact c70_1_0_7x
      refine z_aload_n (pc := 55) C dX5_fewestBars_55 rfl ?_
      refine z_iconst (pc := 56) (v := 0) C dX5_fewestBars_56 (by decide) ?_
      refine z_iload_n (pc := 57) C dX5_fewestBars_57 rfl ?_
      refine z_callV (pc := 58) C zk_X5_98 (x_X5_relax _ _ 0 (zB.wk (a' := 0) (b' := 2000) (zB.of (x := 0) 0 (by decide)) (by decide) (by decide)) a2 b2 (by exact zWa_k hp0 (hF82 1 0 7 rfl) (fun p j => hF82 11 p j rfl) (fun n j => hF82 8 n j rfl) (fun n j => hF82 9 n j rfl) (fun n j => hF82 10 n j rfl)) hI82) rfl rfl (by decide) rfl rfl (Nat.le_of_ble_eq_true rfl) dX5_fewestBars_58 (fun r83 g83 q83 => ?_)
      have qa83_0 : (0 : Int32).toInt = 0 := by decide
      obtain ⟨⟨v83, rfl, b83x⟩, hI83, hF83q, hp83_0, hp83_1⟩ := q83
      have hp83_0 := hp83_0 _ rfl
      have hp83_1 := hp83_1 _ rfl
      have hF83 := zFr.tr hF82 hF83q (by decide)
      simp only [Option.toList, List.cons_append, List.nil_append]
      have ek83_1_0_7 : (g83 1 0 7).toInt = (g82 1 0 7).toInt := by rw [hF83q 1 0 7 rfl]
      have c83_1_0_7x : zB (g83 1 0 7) 0 12 := by rw [hF83q 1 0 7 rfl]; exact c82_1_0_7x
      refine z_pop (pc := 61) C dX5_fewestBars_61 ?_
      refine z_iconst (pc := 62) (v := 1) C dX5_fewestBars_62 (by decide) ?_
      refine z_istore_n (pc := 63) C dX5_fewestBars_63 (by rw [hn]; decide) rfl ?_
      refine z_iconst (pc := 64) (v := 0) C dX5_fewestBars_64 (by decide) ?_
      refine z_istore (pc := 65) C dX5_fewestBars_65 (by rw [hn]; decide) rfl ?_
      exact J0 1 (zB.wk (a' := 0) (b' := 1) (zB.of (x := 1) 1 (by decide)) (by decide) (by decide)) 0 (zB.wk (a' := 0) (b' := 12) (zB.of (x := 0) 0 (by decide)) (by decide) (by decide)) g83 hI83 hF83 c83_1_0_7x (by intro n j hn; exact ((hF83q 6 n j rfl)).trans (((show g82 6 n j = g70 6 n j by rw [qm82]; exact zfill_ne (by omega))).trans (((hp70_1 n j hn)).trans (rfl)))) (by
                                                                                          have s0 := hp70_0
                                                                                          have s1 : ∀ n j, n ≠ 2 → g70 6 n j = f 6 n j := hp70_1
                                                                                          have ff : ∀ a b c, ¬ a = 17 → g82 a b c = g70 a b c := fun a b c h => by rw [qm82]; exact zfill_ne (by omega)
                                                                                          have f17 : ∀ j, j < 12 → g82 17 0 j = 1000 := fun j hj => by rw [qm82]; unfold zfill; exact if_pos ⟨rfl, rfl, hj⟩
                                                                                          have k11 : ∀ q j, g82 11 q j = f 11 q j := fun q j => (ff _ _ _ (by omega)).trans (hF70q 11 q j rfl)
                                                                                          have k8 : ∀ q j, g82 8 q j = f 8 q j := fun q j => (ff _ _ _ (by omega)).trans (hF70q 8 q j rfl)
                                                                                          have k9 : ∀ q j, g82 9 q j = f 9 q j := fun q j => (ff _ _ _ (by omega)).trans (hF70q 9 q j rfl)
                                                                                          have k10 : ∀ q j, g82 10 q j = f 10 q j := fun q j => (ff _ _ _ (by omega)).trans (hF70q 10 q j rfl)
                                                                                          have k1 : g82 1 0 7 = f 1 0 7 := (ff _ _ _ (by omega)).trans (hF70q 1 0 7 rfl)
                                                                                          have b12 : (f 1 0 7).toInt ≤ 12 := (hI 1 0 7).2
                                                                                          have w1 : g82 6 2 1 = f 6 0 1 := (ff _ _ _ (by omega)).trans s0.1
                                                                                          have w4 : g82 6 2 4 = f 6 0 4 := (ff _ _ _ (by omega)).trans s0.2.1
                                                                                          have w5 : g82 6 2 5 = f 6 0 5 := (ff _ _ _ (by omega)).trans s0.2.2.1
                                                                                          have w6 : g82 6 2 6 = f 6 0 6 := (ff _ _ _ (by omega)).trans s0.2.2.2
                                                                                          have c0 : g82 6 0 0 = f 6 0 0 := (ff _ _ _ (by omega)).trans (s1 _ _ (by decide))
                                                                                          have c2 : g82 6 0 2 = f 6 0 2 := (ff _ _ _ (by omega)).trans (s1 _ _ (by decide))
                                                                                          intro j hj
                                                                                          have hr := hp83_0 j (by rw [k1]; exact hj)
                                                                                          rw [hr, k1]
                                                                                          show _ = zrx (zF0x f a2.toInt.toNat) (zWx_ f a2.toInt.toNat) 0 (fun _ => 1000) (f 1 0 7).toInt.toNat j
                                                                                          refine zrx_congr (by decide) (fun _ => ?_) (fun _ => ?_) ?_
                                                                                          · unfold zF0x
                                                                                            rw [zfa_k (fun q _ => k11 j q) k8 k9 k10, w1, w4, w5, w6]
                                                                                          · unfold zWx_
                                                                                            rw [zbx_k0 (fun q _ => k11 j q) k8 c0 c2]
                                                                                          · rw [f17 j (by omega)]; decide) (by intro h; exact absurd h (by decide)) (by
                                                                                          have s0 := hp70_0
                                                                                          have s1 : ∀ n j, n ≠ 2 → g70 6 n j = f 6 n j := hp70_1
                                                                                          have k8s : ∀ n j, g70 8 n j = f 8 n j := fun n j => hF70q 8 n j rfl
                                                                                          have k9s : ∀ n j, g70 9 n j = f 9 n j := fun n j => hF70q 9 n j rfl
                                                                                          have k1s : ∀ j, g70 1 0 j = f 1 0 j := fun j => hF70q 1 0 j rfl
                                                                                          have r18 := q72
                                                                                          rw [s0.1] at r18
                                                                                          have ht := hp77_0
                                                                                          simp only [k9s, k8s, k1s, s0.1, s0.2.2.2] at ht
                                                                                          have hd2 : a2 = nI a2.toInt.toNat := (nI_ofI (by omega)).1
                                                                                          have z := z01b (x := v77) (a := a2.toInt.toNat) (by omega)
                                                                                          rw [← hd2, ← q78, ← q79] at z
                                                                                          refine fun h => ?_
                                                                                          have h2 := h.2
                                                                                          rw [← ht] at h2
                                                                                          rw [if_pos h2] at z
                                                                                          exact absurd (show v79 = 0 by assumption) (by rw [z]; decide)) (by have qc0 : (0 : Int32).toInt = 0 := (by decide); have qc1 : (1 : Int32).toInt = 1 := (by decide); omega) (by have qc0 : (0 : Int32).toInt = 0 := (by decide); have qc1 : (1 : Int32).toInt = 1 := (by decide); omega) (by have qc0 : (0 : Int32).toInt = 0 := (by decide); have qc1 : (1 : Int32).toInt = 1 := (by decide); omega)
    · skip
      have b84x : zB v79 1 1 := by have q1 := b79x; have q2 := (zB.of (x := 0) 0 (by decide)); simp only [z32lt, z32le, z32eq, Int32.reduceToInt, Int32.toInt_zero] at h40_79; constructor <;> omega
      refine z_iconst (pc := 43) (v := 0) C dX5_fewestBars_43 (by decide) ?_
      exact z_iret (pc := 44) C hr dX5_fewestBars_44 ⟨⟨_, rfl, (zB.wk (a' := (-4)) (b' := 999) (zB.of (x := 0) 0 (by decide)) (by decide) (by decide))⟩, hI70, hF70, (by
                                                                                          intro v hv; cases hv
                                                                                          have s0 := hp70_0
                                                                                          have s1 : ∀ n j, n ≠ 2 → g70 6 n j = f 6 n j := hp70_1
                                                                                          have k8s : ∀ n j, g70 8 n j = f 8 n j := fun n j => hF70q 8 n j rfl
                                                                                          have k9s : ∀ n j, g70 9 n j = f 9 n j := fun n j => hF70q 9 n j rfl
                                                                                          have k1s : ∀ j, g70 1 0 j = f 1 0 j := fun j => hF70q 1 0 j rfl
                                                                                          have r18 := q72
                                                                                          rw [s0.1] at r18
                                                                                          have ht := hp77_0
                                                                                          simp only [k9s, k8s, k1s, s0.1, s0.2.2.2] at ht
                                                                                          have hd2 : a2 = nI a2.toInt.toNat := (nI_ofI (by omega)).1
                                                                                          have z := z01b (x := v77) (a := a2.toInt.toNat) (by omega)
                                                                                          rw [← hd2, ← q78, ← q79] at z
                                                                                          refine Or.inl ⟨⟨r18.symm.trans (by assumption), ?_⟩, rfl⟩
                                                                                          rw [← ht]
                                                                                          cases q : bt v77 a2.toInt.toNat
                                                                                          · rw [q, if_neg (by decide)] at z
                                                                                            exact absurd z (by assumption)
                                                                                          · rfl), (by intro v hv; cases hv; intro n j hn; exact ((hp70_1 n j hn)).trans (rfl))⟩

set_option maxRecDepth 100000 in
set_option maxHeartbeats 4000000 in
theorem y_X9_mended (d : Nat) (f : zM) (a1 : Int32) (b1 : zB a1 (-2147483648) 2147483647) (a2 : Int32) (b2 : zB a2 (-2147483648) 2147483647) (hI : zInv f) : ZM (d + 4) yX9_mended cX9_mended 3 (some .int) [zr 0 0, zi a1, zi a2] f (fun r g => (∃ v, r = some (zi v) ∧ zB v (-4) 999) ∧ zInv g ∧ zFr [(6, some 1), (6, some 4), (6, some 5), (6, some 6), (11, some 8), (11, some 9), (17, none)] f g ∧ (∀ v : Int32, r = some (zi v) → (¬ ((0 ≤ a1.toInt ∧ a1.toInt ≤ 5) ∧ (0 ≤ a2.toInt ∧ a2.toInt < (f 1 0 6).toInt)) ∧ v = -1) ∨ (((0 ≤ a1.toInt ∧ a1.toInt ≤ 5) ∧ (0 ≤ a2.toInt ∧ a2.toInt < (f 1 0 6).toInt)) ∧ zFBx f a1 a2.toInt.toNat v)) ∧ (∀ v : Int32, r = some (zi v) → (∀ n j, n ≠ 2 → g 6 n j = f 6 n j))) := by
  refine ZM.intro (by decide +kernel) (Nat.le_of_ble_eq_true rfl) ?_
  intro X C hr hn
  have hF : zFr [(6, some 1), (6, some 4), (6, some 5), (6, some 6), (11, some 8), (11, some 9), (17, none)] f f := zFr.rf _ _
  show Z X 0 [some (zr 0 0), some (zi a1), some (zi a2)] [] f
  refine z_iload_n (pc := 0) C dX9_mended_0 rfl ?_
  refine z_callSb (pc := 1) C zk_X9_46 (m_X9_isLand _ _ _) rfl rfl (Nat.le_of_ble_eq_true rfl) dX9_mended_1 (fun h1_0 => ?_) (fun h1_0 => ?_)
  · skip
    have b2x : zB a1 0 5 := h1_0
    refine z_if_eq (pc := 4) 15 C dX9_mended_4 (by decide) (fun h => absurd h (by decide)) (fun _ => ?_)
    refine z_aload_n (pc := 7) C dX9_mended_7 rfl ?_
    refine z_iload_n (pc := 8) C dX9_mended_8 rfl ?_
    refine z_callVb (pc := 9) C zk_X9_179 (m_X9_isDeed _ _ _) rfl rfl (by decide) rfl rfl (Nat.le_of_ble_eq_true rfl) dX9_mended_9 (fun h9_2 => ?_) (fun h9_2 => ?_)
    · skip
      have b4x : zB a2 0 7 := (zltc h9_2 (hI 1 0 6).2)
      refine z_if_ne (pc := 12) 17 C dX9_mended_12 (by decide) (fun _ => ?_) (fun h => absurd h (by decide))
      refine z_aload_n (pc := 17) C dX9_mended_17 rfl ?_
      refine z_getR (pc := 18) C zf_X9_10 rfl rfl (by decide) dX9_mended_18 ?_
      refine z_iload_n (pc := 21) C dX9_mended_21 rfl ?_
      refine z_callV (pc := 22) C zk_X9_321 (x_X8_weighAlone _ _ a2 b4x hI) rfl rfl (by decide) rfl rfl (Nat.le_of_ble_eq_true rfl) dX9_mended_22 (fun r5 g5 q5 => ?_)
      obtain ⟨rfl, hI5, hF5q, hp5_0⟩ := q5
      have hF5 := zFr.tr hF hF5q (by decide)
      simp only [Option.toList, List.cons_append, List.nil_append]
      refine z_aload_n (pc := 25) C dX9_mended_25 rfl ?_
      refine z_getR (pc := 26) C zf_X9_24 rfl rfl (by decide) dX9_mended_26 ?_
      refine z_iload_n (pc := 29) C dX9_mended_29 rfl ?_
      refine z_iload_n (pc := 30) C dX9_mended_30 rfl ?_
      refine z_callV (pc := 31) C zk_X9_324 (y_X5_fewestBars _ _ a1 b2x a2 b4x (by assumption) hI5) rfl rfl (by decide) rfl rfl (Nat.le_of_ble_eq_true rfl) dX9_mended_31 (fun r6 g6 q6 => ?_)
      obtain ⟨⟨v6, rfl, b6x⟩, hI6, hF6q, hp6_0, hp6_1⟩ := q6
      have hp6_0 := hp6_0 _ rfl
      have hp6_1 := hp6_1 _ rfl
      have hF6 := zFr.tr hF5 hF6q (by decide)
      simp only [Option.toList, List.cons_append, List.nil_append]
      exact z_iret (pc := 34) C hr dX9_mended_34 ⟨⟨_, rfl, b6x⟩, hI6, hF6, (by
                                                                                          intro v hv; cases hv
                                                                                          have k11 : ∀ q j, j < 8 → g5 11 q j = f 11 q j := fun q j hj => by rcases (show j = 0 ∨ j = 1 ∨ j = 2 ∨ j = 3 ∨ j = 4 ∨ j = 5 ∨ j = 6 ∨ j = 7 by omega) with rfl | rfl | rfl | rfl | rfl | rfl | rfl | rfl <;> exact hF5q 11 q _ rfl
                                                                                          have k8 : ∀ n j, g5 8 n j = f 8 n j := fun n j => hF5q 8 n j rfl
                                                                                          have k9 : ∀ n j, g5 9 n j = f 9 n j := fun n j => hF5q 9 n j rfl
                                                                                          have k10 : ∀ n j, g5 10 n j = f 10 n j := fun n j => hF5q 10 n j rfl
                                                                                          have k6 : ∀ n j, g5 6 n j = f 6 n j := fun n j => hF5q 6 n j rfl
                                                                                          exact Or.inr ⟨by omega, (zFBx_k (fun j => hF5q 1 0 j rfl) k11 k8 k9 k10 k6).mp hp6_0⟩), (by intro v hv; cases hv; intro n j hn; exact ((hp6_1 n j hn)).trans (((hF5q 6 n j rfl)).trans (rfl)))⟩
    · skip
      refine z_if_ne (pc := 12) 17 C dX9_mended_12 (by decide) (fun h => absurd (by decide) h) (fun _ => ?_)
      refine z_iconst (pc := 15) (v := -1) C dX9_mended_15 (by decide) ?_
      exact z_iret (pc := 16) C hr dX9_mended_16 ⟨⟨_, rfl, (zB.wk (a' := (-4)) (b' := 999) (zB.of (x := (-1)) (-1) (by decide)) (by decide) (by decide))⟩, hI, hF, (by intro v hv; cases hv; exact Or.inl ⟨by omega, rfl⟩), (by intro v hv; cases hv; intro n j hn; exact rfl)⟩
  · skip
    refine z_if_eq (pc := 4) 15 C dX9_mended_4 (by decide) (fun _ => ?_) (fun h => absurd (by decide) h)
    refine z_iconst (pc := 15) (v := -1) C dX9_mended_15 (by decide) ?_
    exact z_iret (pc := 16) C hr dX9_mended_16 ⟨⟨_, rfl, (zB.wk (a' := (-4)) (b' := 999) (zB.of (x := (-1)) (-1) (by decide)) (by decide) (by decide))⟩, hI, hF, (by intro v hv; cases hv; exact Or.inl ⟨by omega, rfl⟩), (by intro v hv; cases hv; intro n j hn; exact rfl)⟩

theorem zfm_k {f g : zM} {p d : Nat} {x y z w : Int32} (k25 : g 25 0 = f 25 0) (k26 : g 26 0 = f 26 0) (k27 : g 27 0 = f 27 0) (k28 : g 28 0 = f 28 0) : zfm g p d x y z w = zfm f p d x y z w := by
  unfold zfm; rw [zcr_k k25 k26 k27 k28, zmg_k k25 k26 k27 k28, k28]
def zM0m (f : zM) (d j : Nat) : Prop := zfm f j d (f 30 0 1) (f 30 0 3) (f 30 0 4) 255
noncomputable def zk0m (f : zM) (d j : Nat) : Int := zrx (zM0m f d) (zWm_ f d) 0 (fun _ => 9999) (f 25 0 4).toInt.toNat j
noncomputable def zCm (f : zM) (d r j : Nat) : Int := zit (zFm f d) (zWm_ f d) (f 25 0 4).toInt.toNat (zk0m f d) r j
noncomputable def zBEm (f : zM) (a : Int32) (d k : Nat) : Int := zmn (fun k => f 28 0 (8 * k + 2) = a) (zCm f d (f 25 0 4).toInt.toNat) (@ite Int (f 30 0 1 = a) (Classical.propDecidable _) 0 9999) k
def zTMm (f : zM) (a : Int32) (d : Nat) : Prop := (¬ zcw (fun k j => f 26 0 (6 * k + j)) (f 27 0 (5 * d + 0)) (a) (f 25 0 0).toInt.toNat = 0 ∧ f 27 0 (5 * d + 4) = 0 ∧ bt (255) d = true)
def zFBm (f : zM) (a : Int32) (d : Nat) (v : Int32) : Prop := (¬ bt (f 30 0 5) d = true ∧ v = -4) ∨ (bt (f 30 0 5) d = true ∧ ¬ zTMm f a d ∧ v = -4) ∨ (bt (f 30 0 5) d = true ∧ zTMm f a d ∧ zBEm f a d (f 25 0 4).toInt.toNat < 9999 ∧ v.toInt = zBEm f a d (f 25 0 4).toInt.toNat) ∨ (bt (f 30 0 5) d = true ∧ zTMm f a d ∧ ¬ zBEm f a d (f 25 0 4).toInt.toNat < 9999 ∧ v = -4)
theorem zCm_le (f : zM) (d r j : Nat) : zCm f d r j ≤ 9999 := Int.le_trans (zit_le r j) zrx_le
theorem zWm_0 (f : zM) (d j : Nat) : 0 ≤ zWm_ f d j := Int.natCast_nonneg _
theorem zFBm_k {f g : zM} {a v : Int32} {d : Nat} (k25 : g 25 0 = f 25 0) (k26 : g 26 0 = f 26 0) (k27 : g 27 0 = f 27 0) (k28 : g 28 0 = f 28 0) (k30 : g 30 0 = f 30 0) : zFBm g a d v ↔ zFBm f a d v := by
  have hW : zWm_ g d = zWm_ f d := funext (fun j => by unfold zWm_; rw [zsr_k k25 k26 k27 k28 k30])
  have hF : zFm g d = zFm f d := funext (fun i => funext (fun j => by unfold zFm zom; rw [zfm_k k25 k26 k27 k28, k28]))
  have h0 : zM0m g d = zM0m f d := funext (fun j => by unfold zM0m; rw [zfm_k k25 k26 k27 k28, k30])
  have hc0 : zk0m g d = zk0m f d := funext (fun j => by unfold zk0m; rw [hW, h0, k25])
  have hC : ∀ r, zCm g d r = zCm f d r := fun r => funext (fun j => by unfold zCm; rw [hW, hF, hc0, k25])
  have hB : ∀ k, zBEm g a d k = zBEm f a d k := fun k => by unfold zBEm; rw [hC, k25, k28, k30]
  have hT : zTMm g a d ↔ zTMm f a d := by unfold zTMm; rw [k25, k26, k27]
  unfold zFBm
  rw [hT, hB, k25, k30]

set_option maxRecDepth 100000 in
set_option maxHeartbeats 4000000 in
theorem x_X10_canFollow (d : Nat) (f : zM) (a1 : Int32) (b1 : zB a1 0 11) (a2 : Int32) (b2 : zB a2 0 7) (a3 : Int32) (b3 : zB a3 0 5) (a4 : Int32) (b4 : zB a4 0 1) (a5 : Int32) (b5 : zB a5 (-4) 5) (hI : zInv f) : ZM (d + 4) yX10_canFollow cX10_canFollow 6 (some .boolean) [zr 25 0, zi a1, zi a2, zi a3, zi a4, zi a5] f (fun r g => (∃ v, r = some (zi v) ∧ zB v 0 1) ∧ zInv g ∧ zFr [] f g ∧ (∀ v : Int32, r = some (zi v) → zbo v (zfm f a1.toInt.toNat a2.toInt.toNat a3 a4 a5 255))) := by
  refine ZM.intro (by decide +kernel) (Nat.le_of_ble_eq_true rfl) ?_
  intro X C hr hn
  have hF : zFr [] f f := zFr.rf _ _
  show Z X 0 [some (zr 25 0), some (zi a1), some (zi a2), some (zi a3), some (zi a4), some (zi a5)] [] f
  refine z_aload_n (pc := 0) C dX10_canFollow_0 rfl ?_
  refine z_getR (pc := 1) C zf_X10_16 rfl rfl (by decide) dX10_canFollow_1 ?_
  refine z_bipush (pc := 4) (v := 8) C dX10_canFollow_4 (by decide) ?_
  refine z_iload_n (pc := 6) C dX10_canFollow_6 rfl ?_
  refine z_imul (pc := 7) C dX10_canFollow_7 ?_
  refine w_gp (fun v => v = (8 : Int32) * a1) rfl (fun v1 q1 => ?_)
  have e1 : v1.toInt = 8 * a1.toInt := by rw [q1]; exact (zmul_kb 8 (by decide) (by decide) b1 (by decide) (by decide))
  have b1x : zB v1 0 88 := zmul_bb e1 (by decide) b1
  refine z_iconst (pc := 8) (v := 1) C dX10_canFollow_8 (by decide) ?_
  refine z_iadd (pc := 9) C dX10_canFollow_9 ?_
  refine w_gp (fun v => v = v1 + (1 : Int32)) rfl (fun v2 q2 => ?_)
  have e2 : v2.toInt = v1.toInt + 1 := by rw [q2]; exact (zadd_eb b1x (zB.of (x := 1) 1 (by decide)) (by decide) (by decide))
  have b2x : zB v2 1 89 := by have q1 := b1x; have q2 := (zB.of (x := 1) 1 (by decide)); constructor <;> omega
  refine z_iald (pc := 10) C rfl (by decide) (zIx b2x (by decide) (by decide)) dX10_canFollow_10 ?_
  have kq10_2 : v2.toNatClampNeg = v2.toInt.toNat := rfl
  refine w_gp (fun v => v = f 28 0 v2.toNatClampNeg) rfl (fun v3 q3 => ?_)
  have b3x : zB v3 0 5 := by rw [q3]; exact (by have hq9 := hI 28 0 v2.toNatClampNeg; rw [zrg28 (r := 1) (by have hq : v2.toNatClampNeg = v2.toInt.toNat := rfl; have hq2 := b2x; omega)] at hq9; exact hq9)
  refine z_iload_n (pc := 11) C dX10_canFollow_11 rfl ?_
  refine z_icmp_ne (pc := 12) 44 C dX10_canFollow_12 (by decide) (fun h12_3 => ?_) (fun h12_3 => ?_)
  · skip
    refine z_iconst (pc := 44) (v := 0) C dX10_canFollow_44 (by decide) ?_
    exact z_zret (pc := 45) C hr (z01 (zB.wk (a' := 0) (b' := 1) (zB.of (x := 0) 0 (by decide)) (by decide) (by decide))) dX10_canFollow_45 ⟨⟨_, rfl, (zB.wk (a' := 0) (b' := 1) (zB.of (x := 0) 0 (by decide)) (by decide) (by decide))⟩, hI, hF, (by
                                                                                          intro v hv; cases hv
                                                                                          have x10 : (v2).toNatClampNeg = 8 * a1.toInt.toNat + 1 := by omega
                                                                                          have r10 := q3
                                                                                          rw [x10] at r10
                                                                                          exact Or.inr ⟨rfl, fun h => absurd (r10.trans h.1) (by assumption)⟩)⟩
  · skip
    have rr5 : v3.toInt = a3.toInt := by simp only [z32lt, z32le, z32eq] at h12_3; omega
    refine z_aload_n (pc := 15) C dX10_canFollow_15 rfl ?_
    refine z_iload_n (pc := 16) C dX10_canFollow_16 rfl ?_
    refine z_iload_n (pc := 17) C dX10_canFollow_17 rfl ?_
    refine z_callV (pc := 18) C zk_X10_138 (x_X10_isCovered _ _ a1 b1 a2 b2 hI) rfl rfl (by decide) rfl rfl (Nat.le_of_ble_eq_true rfl) dX10_canFollow_18 (fun r6 g6 q6 => ?_)
    obtain ⟨⟨v6, rfl, b6x⟩, hI6, hF6q, hp6_0⟩ := q6
    have hp6_0 := hp6_0 _ rfl
    obtain rfl := zFr_nil hF6q
    simp only [Option.toList, List.cons_append, List.nil_append]
    refine z_if_eq (pc := 21) 44 C dX10_canFollow_21 (by decide) (fun h21_6 => ?_) (fun h21_6 => ?_)
    · skip
      have b8x : zB v6 0 0 := by have q1 := b6x; have q2 := (zB.of (x := 0) 0 (by decide)); simp only [z32lt, z32le, z32eq, Int32.reduceToInt, Int32.toInt_zero] at h21_6; constructor <;> omega
      refine z_iconst (pc := 44) (v := 0) C dX10_canFollow_44 (by decide) ?_
      exact z_zret (pc := 45) C hr (z01 (zB.wk (a' := 0) (b' := 1) (zB.of (x := 0) 0 (by decide)) (by decide) (by decide))) dX10_canFollow_45 ⟨⟨_, rfl, (zB.wk (a' := 0) (b' := 1) (zB.of (x := 0) 0 (by decide)) (by decide) (by decide))⟩, hI, hF, (by
                                                                                          intro v hv; cases hv
                                                                                          have x10 : (v2).toNatClampNeg = 8 * a1.toInt.toNat + 1 := by omega
                                                                                          have r10 := q3
                                                                                          rw [x10] at r10
                                                                                          have hc := hp6_0
                                                                                          exact Or.inr ⟨rfl, fun h => zbo_n hc (by omega) h.2.1⟩)⟩
    · skip
      have b9x : zB v6 1 1 := by have q1 := b6x; have q2 := (zB.of (x := 0) 0 (by decide)); simp only [z32lt, z32le, z32eq, Int32.reduceToInt, Int32.toInt_zero] at h21_6; constructor <;> omega
      refine z_aload_n (pc := 24) C dX10_canFollow_24 rfl ?_
      refine z_iload_n (pc := 25) C dX10_canFollow_25 rfl ?_
      refine z_iload_n (pc := 26) C dX10_canFollow_26 rfl ?_
      refine z_iload (pc := 27) C dX10_canFollow_27 rfl ?_
      refine z_iload (pc := 29) C dX10_canFollow_29 rfl ?_
      refine z_sipush (pc := 31) (v := 255) C dX10_canFollow_31 (by decide) ?_
      refine z_callV (pc := 34) C zk_X10_144 (x_X10_mayGo _ _ a1 b1 a2 b2 a4 b4 a5 b5 255 (zB.wk (a' := 0) (b' := 255) (zB.of (x := 255) 255 (by decide)) (by decide) (by decide)) hI) rfl rfl (by decide) rfl rfl (Nat.le_of_ble_eq_true rfl) dX10_canFollow_34 (fun r10 g10 q10 => ?_)
      have qa10_255 : (255 : Int32).toInt = 255 := by decide
      obtain ⟨⟨v10, rfl, b10x⟩, hI10, hF10q, hp10_0⟩ := q10
      have hp10_0 := hp10_0 _ rfl
      obtain rfl := zFr_nil hF10q
      simp only [Option.toList, List.cons_append, List.nil_append]
      refine z_if_eq (pc := 37) 44 C dX10_canFollow_37 (by decide) (fun h37_10 => ?_) (fun h37_10 => ?_)
      · skip
        have b12x : zB v10 0 0 := by have q1 := b10x; have q2 := (zB.of (x := 0) 0 (by decide)); simp only [z32lt, z32le, z32eq, Int32.reduceToInt, Int32.toInt_zero] at h37_10; constructor <;> omega
        refine z_iconst (pc := 44) (v := 0) C dX10_canFollow_44 (by decide) ?_
        exact z_zret (pc := 45) C hr (z01 (zB.wk (a' := 0) (b' := 1) (zB.of (x := 0) 0 (by decide)) (by decide) (by decide))) dX10_canFollow_45 ⟨⟨_, rfl, (zB.wk (a' := 0) (b' := 1) (zB.of (x := 0) 0 (by decide)) (by decide) (by decide))⟩, hI, hF, (by
                                                                                          intro v hv; cases hv
                                                                                          have x10 : (v2).toNatClampNeg = 8 * a1.toInt.toNat + 1 := by omega
                                                                                          have r10 := q3
                                                                                          rw [x10] at r10
                                                                                          have hc := hp6_0
                                                                                          have hm := hp10_0
                                                                                          first
                                                                                            | exact Or.inl ⟨rfl, r10.symm.trans (by assumption), zbo_y hc (by omega), zbo_y hm (by omega)⟩
                                                                                            | exact Or.inr ⟨rfl, fun h => zbo_n hm (by omega) h.2.2⟩)⟩
      · skip
        have b13x : zB v10 1 1 := by have q1 := b10x; have q2 := (zB.of (x := 0) 0 (by decide)); simp only [z32lt, z32le, z32eq, Int32.reduceToInt, Int32.toInt_zero] at h37_10; constructor <;> omega
        refine z_iconst (pc := 40) (v := 1) C dX10_canFollow_40 (by decide) ?_
        refine z_goto (pc := 41) 45 C dX10_canFollow_41 (by decide) ?_
        exact z_zret (pc := 45) C hr (z01 (zB.wk (a' := 0) (b' := 1) (zB.of (x := 1) 1 (by decide)) (by decide) (by decide))) dX10_canFollow_45 ⟨⟨_, rfl, (zB.wk (a' := 0) (b' := 1) (zB.of (x := 1) 1 (by decide)) (by decide) (by decide))⟩, hI, hF, (by
                                                                                          intro v hv; cases hv
                                                                                          have x10 : (v2).toNatClampNeg = 8 * a1.toInt.toNat + 1 := by omega
                                                                                          have r10 := q3
                                                                                          rw [x10] at r10
                                                                                          have hc := hp6_0
                                                                                          have hm := hp10_0
                                                                                          first
                                                                                            | exact Or.inl ⟨rfl, r10.symm.trans (by assumption), zbo_y hc (by omega), zbo_y hm (by omega)⟩
                                                                                            | exact Or.inr ⟨rfl, fun h => zbo_n hm (by omega) h.2.2⟩)⟩

set_option maxRecDepth 100000 in
set_option maxHeartbeats 4000000 in
theorem y_X10_mended (d : Nat) (f : zM) (a1 : Int32) (b1 : zB a1 (-2147483648) 2147483647) (a2 : Int32) (b2 : zB a2 (-2147483648) 2147483647) (hI : zInv f) : ZM (d + 5) yX10_mended cX10_mended 9 (some .int) [zr 25 0, zi a1, zi a2] f (fun r g => (∃ v, r = some (zi v) ∧ zB v (-4) 9998) ∧ zInv g ∧ zFr [(35, none)] f g ∧ (∀ v : Int32, r = some (zi v) → (¬ ((0 ≤ a1.toInt ∧ a1.toInt ≤ 5) ∧ (0 ≤ a2.toInt ∧ a2.toInt < (f 25 0 2).toInt)) ∧ v = -1) ∨ (((0 ≤ a1.toInt ∧ a1.toInt ≤ 5) ∧ (0 ≤ a2.toInt ∧ a2.toInt < (f 25 0 2).toInt)) ∧ zFBm f a1 a2.toInt.toNat v))) := by
  refine ZM.intro (by decide +kernel) (Nat.le_of_ble_eq_true rfl) ?_
  intro X C hr hn
  have hF : zFr [(35, none)] f f := zFr.rf _ _
  have ct25_0_4 : zB (f 25 0 4) 0 12 := hI 25 0 4
  have J : ∀ t : Nat, (zB a1 0 5 → zB a2 0 7 → ∀ a35_3 : Int32, zB a35_3 0 12 → ∀ g : zM, zInv g → zFr [(35, none)] f g → zB (g 25 0 4) 0 12 → ((∀ j, j < a35_3.toInt.toNat → (g 35 0 j).toInt = zk0m f a2.toInt.toNat j)) → (((0 ≤ a1.toInt ∧ a1.toInt ≤ 5) ∧ (0 ≤ a2.toInt ∧ a2.toInt < (f 25 0 2).toInt))) → (bt (f 30 0 5) a2.toInt.toNat = true) → (a35_3.toInt ≤ (f 25 0 4).toInt) → ((g 25 0 4).toInt = (f 25 0 4).toInt) → (268909 + 268912 * (12 - a35_3.toInt) : Int) < t → Z X 35 [some (zr 25 0), some (zi a1), some (zi a2), some (zi a35_3), none, none, none, none, none] [] g) ∧ (zB a1 0 5 → zB a2 0 7 → ∀ a99_3 : Int32, zB a99_3 0 12 → ∀ g : zM, zInv g → zFr [(35, none)] f g → zB (g 25 0 4) 0 12 → ((∀ j, j < (f 25 0 4).toInt.toNat → (g 35 0 j).toInt = zCm f a2.toInt.toNat a99_3.toInt.toNat j)) → (((0 ≤ a1.toInt ∧ a1.toInt ≤ 5) ∧ (0 ≤ a2.toInt ∧ a2.toInt < (f 25 0 2).toInt))) → (bt (f 30 0 5) a2.toInt.toNat = true) → (a99_3.toInt ≤ (f 25 0 4).toInt) → ((g 25 0 4).toInt = (f 25 0 4).toInt) → (19204 + 19208 * (12 - a99_3.toInt) : Int) < t → Z X 99 [some (zr 25 0), some (zi a1), some (zi a2), some (zi a99_3), none, none, none, none, none] [] g) ∧ (zB a1 0 5 → zB a2 0 7 → ∀ a110_3 : Int32, zB a110_3 0 11 → ∀ a110_4 : Int32, zB a110_4 0 12 → ∀ g : zM, zInv g → zFr [(35, none)] f g → zB (g 25 0 4) 1 12 → ((∀ j, j < (f 25 0 4).toInt.toNat → (g 35 0 j).toInt = zrd (zFm f a2.toInt.toNat) (zWm_ f a2.toInt.toNat) (f 25 0 4).toInt.toNat (zCm f a2.toInt.toNat a110_3.toInt.toNat) a110_4.toInt.toNat j)) → (((0 ≤ a1.toInt ∧ a1.toInt ≤ 5) ∧ (0 ≤ a2.toInt ∧ a2.toInt < (f 25 0 2).toInt))) → (bt (f 30 0 5) a2.toInt.toNat = true) → (a110_3.toInt < (f 25 0 4).toInt) → (a110_4.toInt ≤ (f 25 0 4).toInt) → ((g 25 0 4).toInt = (f 25 0 4).toInt) → (1367 + 1372 * (12 - a110_4.toInt) + 19208 * (12 - a110_3.toInt) : Int) < t → Z X 110 [some (zr 25 0), some (zi a1), some (zi a2), some (zi a110_3), some (zi a110_4), none, none, none, none] [] g) ∧ (zB a1 0 5 → zB a2 0 7 → ∀ a137_3 : Int32, zB a137_3 0 11 → ∀ a137_4 : Int32, zB a137_4 0 11 → ∀ a137_5 : Int32, zB a137_5 0 7 → ∀ a137_6 : Int32, zB a137_6 0 12 → ∀ g : zM, zInv g → zFr [(35, none)] f g → zB (g 25 0 4) 1 12 → ((∀ j, j < (f 25 0 4).toInt.toNat → (g 35 0 j).toInt = zrx (zFm f a2.toInt.toNat a137_4.toInt.toNat) (zWm_ f a2.toInt.toNat) (zrd (zFm f a2.toInt.toNat) (zWm_ f a2.toInt.toNat) (f 25 0 4).toInt.toNat (zCm f a2.toInt.toNat a137_3.toInt.toNat) a137_4.toInt.toNat a137_4.toInt.toNat) (zrd (zFm f a2.toInt.toNat) (zWm_ f a2.toInt.toNat) (f 25 0 4).toInt.toNat (zCm f a2.toInt.toNat a137_3.toInt.toNat) a137_4.toInt.toNat) a137_6.toInt.toNat j)) → (a137_5 = f 28 0 (8 * a137_4.toInt.toNat + 7)) → (((0 ≤ a1.toInt ∧ a1.toInt ≤ 5) ∧ (0 ≤ a2.toInt ∧ a2.toInt < (f 25 0 2).toInt))) → (bt (f 30 0 5) a2.toInt.toNat = true) → (a137_3.toInt < (f 25 0 4).toInt) → (a137_4.toInt < (f 25 0 4).toInt) → (a137_6.toInt ≤ (f 25 0 4).toInt) → ((g 25 0 4).toInt = (f 25 0 4).toInt) → (92 + 98 * (12 - a137_6.toInt) + 1372 * (12 - a137_4.toInt) + 19208 * (12 - a137_3.toInt) : Int) < t → Z X 137 [some (zr 25 0), some (zi a1), some (zi a2), some (zi a137_3), some (zi a137_4), some (zi a137_5), some (zi a137_6), none, none] [] g) ∧ (zB a1 0 5 → zB a2 0 7 → ∀ a318_3 : Int32, zB a318_3 0 20000 → ∀ a318_4 : Int32, zB a318_4 0 12 → ∀ g : zM, zInv g → zFr [(35, none)] f g → zB (g 25 0 4) 0 12 → ((∀ j, j < (f 25 0 4).toInt.toNat → (g 35 0 j).toInt = zCm f a2.toInt.toNat (f 25 0 4).toInt.toNat j)) → (a318_3.toInt = zBEm f a1 a2.toInt.toNat a318_4.toInt.toNat) → (zTMm f a1 a2.toInt.toNat) → (((0 ≤ a1.toInt ∧ a1.toInt ≤ 5) ∧ (0 ≤ a2.toInt ∧ a2.toInt < (f 25 0 2).toInt))) → (bt (f 30 0 5) a2.toInt.toNat = true) → (a318_4.toInt ≤ (f 25 0 4).toInt) → ((g 25 0 4).toInt = (f 25 0 4).toInt) → (0 + 7 * (12 - a318_4.toInt) : Int) < t → Z X 318 [some (zr 25 0), some (zi a1), some (zi a2), some (zi a318_3), some (zi a318_4), none, none, none, none] [] g) := by
    intro t
    induction t with
    | zero =>
      refine ⟨?_, ?_, ?_, ?_, ?_⟩ <;> (intros; exfalso; omega)
    | succ t ih =>
      obtain ⟨ih0, ih1, ih2, ih3, ih4⟩ := ih
      refine ⟨?_, ?_, ?_, ?_, ?_⟩
      · skip
        intro b35_1 b35_2 a35_3 b35_3 g35_ hI35_ hF35_ f35_25_0_4 hR35_0 hR35_1 hR35_2 hR35_3 hR35_4 hM35_
        refine z_iload_n (pc := 35) C dX10_mended_35 rfl ?_
        refine z_aload_n (pc := 36) C dX10_mended_36 rfl ?_
        refine z_getI (pc := 37) C zf_X10_77 rfl rfl (by decide) dX10_mended_37 ?_
        refine w_gp (fun v => v = g35_ 25 0 4) rfl (fun v1 q1 => ?_)
        have e1 : v1.toInt = (g35_ 25 0 4).toInt := by rw [q1]
        have b1x : zB v1 0 12 := by first | exact zB.eqv e1 f35_25_0_4 | (have q9 := f35_25_0_4; constructor <;> omega)
        refine z_icmp_ge (pc := 40) 97 C dX10_mended_40 (by decide) (fun h40_1 => ?_) (fun h40_1 => ?_)
        · skip
          have rr3 : a35_3.toInt ≥ v1.toInt := by simp only [z32lt, z32le, z32eq] at h40_1; omega
          refine z_iconst (pc := 97) (v := 0) C dX10_mended_97 (by decide) ?_
          refine z_istore_n (pc := 98) C dX10_mended_98 (by rw [hn]; decide) rfl ?_
          exact ih1 b35_1 b35_2 0 (zB.wk (a' := 0) (b' := 12) (zB.of (x := 0) 0 (by decide)) (by decide) (by decide)) g35_ hI35_ hF35_ f35_25_0_4 (by intro j hj; exact hR35_0 j (by omega)) (by exact hR35_1) (by exact hR35_2) (by have qc0 : (0 : Int32).toInt = 0 := (by decide); omega) (by have qc0 : (0 : Int32).toInt = 0 := (by decide); omega) (by have qc0 : (0 : Int32).toInt = 0 := (by decide); omega)
        · skip
          have rr4 : a35_3.toInt < v1.toInt := by simp only [z32lt, z32le, z32eq] at h40_1; omega
          have b5x : zB a35_3 0 11 := by have q1 := b35_3; have q2 := b1x; simp only [z32lt, z32le, z32eq, Int32.reduceToInt, Int32.toInt_zero] at h40_1; constructor <;> omega
          have b6x : zB v1 1 12 := by have q1 := b35_3; have q2 := b1x; simp only [z32lt, z32le, z32eq, Int32.reduceToInt, Int32.toInt_zero] at h40_1; constructor <;> omega
          have c7x : zB (g35_ 25 0 4) 1 12 := by first | assumption | (constructor <;> omega)
          refine z_aload_n (pc := 43) C dX10_mended_43 rfl ?_
          refine z_getR (pc := 44) C zf_X10_37 rfl rfl (by decide) dX10_mended_44 ?_
          refine z_iload_n (pc := 47) C dX10_mended_47 rfl ?_
          refine z_aload_n (pc := 48) C dX10_mended_48 rfl ?_
          refine z_iload_n (pc := 49) C dX10_mended_49 rfl ?_
          refine z_iload_n (pc := 50) C dX10_mended_50 rfl ?_
          refine z_aload_n (pc := 51) C dX10_mended_51 rfl ?_
          refine z_getR (pc := 52) C zf_X10_22 rfl rfl (by decide) dX10_mended_52 ?_
          refine z_iconst (pc := 55) (v := 1) C dX10_mended_55 (by decide) ?_
          refine z_iald (pc := 56) C rfl (by decide) (zIx (zB.of (x := 1) 1 (by decide)) (by decide) (by decide)) dX10_mended_56 ?_
          have kq56_7 : (1 : Int32).toNatClampNeg = (1 : Int32).toInt.toNat := rfl
          refine w_gp (fun v => v = g35_ 30 0 (1 : Int32).toNatClampNeg) rfl (fun v8 q8 => ?_)
          have b8x : zB v8 0 5 := by rw [q8]; exact (hI35_ 30 0 (1 : Int32).toNatClampNeg)
          refine z_aload_n (pc := 57) C dX10_mended_57 rfl ?_
          refine z_getR (pc := 58) C zf_X10_22 rfl rfl (by decide) dX10_mended_58 ?_
          refine z_iconst (pc := 61) (v := 3) C dX10_mended_61 (by decide) ?_
          refine z_iald (pc := 62) C rfl (by decide) (zIx (zB.of (x := 3) 3 (by decide)) (by decide) (by decide)) dX10_mended_62 ?_
          have kq62_8 : (3 : Int32).toNatClampNeg = (3 : Int32).toInt.toNat := rfl
          refine w_gp (fun v => v = g35_ 30 0 (3 : Int32).toNatClampNeg) rfl (fun v9 q9 => ?_)
          have b9x : zB v9 0 1 := by rw [q9]; exact (hI35_ 30 0 (3 : Int32).toNatClampNeg)
          refine z_aload_n (pc := 63) C dX10_mended_63 rfl ?_
          refine z_getR (pc := 64) C zf_X10_22 rfl rfl (by decide) dX10_mended_64 ?_
          refine z_iconst (pc := 67) (v := 4) C dX10_mended_67 (by decide) ?_
          refine z_iald (pc := 68) C rfl (by decide) (zIx (zB.of (x := 4) 4 (by decide)) (by decide) (by decide)) dX10_mended_68 ?_
          have kq68_9 : (4 : Int32).toNatClampNeg = (4 : Int32).toInt.toNat := rfl
          refine w_gp (fun v => v = g35_ 30 0 (4 : Int32).toNatClampNeg) rfl (fun v10 q10 => ?_)
          have b10x : zB v10 (-4) 5 := by rw [q10]; exact (hI35_ 30 0 (4 : Int32).toNatClampNeg)
          refine z_callV (pc := 69) C zk_X10_197 (x_X10_canFollow _ _ a35_3 b5x a2 b35_2 v8 b8x v9 b9x v10 b10x hI35_) rfl rfl (by decide) rfl rfl (Nat.le_of_ble_eq_true rfl) dX10_mended_69 (fun r11 g11 q11 => ?_)
          obtain ⟨⟨v11, rfl, b11x⟩, hI11, hF11q, hp11_0⟩ := q11
          have hp11_0 := hp11_0 _ rfl
          obtain rfl := zFr_nil hF11q
          simp only [Option.toList, List.cons_append, List.nil_append]
          refine z_if_eq (pc := 72) 87 C dX10_mended_72 (by decide) (fun h72_11 => ?_) (fun h72_11 => ?_)
          · skip
            have b13x : zB v11 0 0 := by have q1 := b11x; have q2 := (zB.of (x := 0) 0 (by decide)); simp only [z32lt, z32le, z32eq, Int32.reduceToInt, Int32.toInt_zero] at h72_11; constructor <;> omega
            refine z_sipush (pc := 87) (v := 9999) C dX10_mended_87 (by decide) ?_
            have kw90_13 : a35_3.toNatClampNeg = a35_3.toInt.toNat := rfl
            refine z_iast (pc := 90) C rfl (by decide) (zIx b5x (by decide) (by decide)) dX10_mended_90 ?_
            refine w_memx hI35_ hF35_ (zB.wk (a' := 0) (b' := 20000) (zB.of (x := 9999) 9999 (by decide)) (by decide) (by decide)) rfl (fun g14 qm14 hI14 hF14 hq14 hx14 => ?_)
            have ek14_25_0_4 : (g14 25 0 4).toInt = (g35_ 25 0 4).toInt := by rw [hq14 25 0 4 (by omega)]
            have c14_25_0_4x : zB (g14 25 0 4) 1 12 := by rw [hq14 25 0 4 (by omega)]; exact c7x
            refine z_iinc (pc := 91) (v := 1) C dX10_mended_91 rfl (by decide) (by rw [hn]; decide) rfl ?_
            obtain ⟨v15, hv15, e15⟩ : ∃ v : Int32, v = a35_3 + 1 ∧ v.toInt = a35_3.toInt + 1 := ⟨_, rfl, zadd_eb b5x (zB.of (x := 1) 1 (by decide)) (by decide) (by decide)⟩
            rw [← hv15]
            have b15x : zB v15 1 12 := by have q9 := b5x; constructor <;> omega
            refine z_goto (pc := 94) 35 C dX10_mended_94 (by decide) ?_
            exact ih0 b35_1 b35_2 v15 (zB.wk (a' := 0) (b' := 12) b15x (by decide) (by decide)) g14 hI14 hF14 (zB.wk c14_25_0_4x (by decide) (by decide)) (by
                                                                                          have hn : (v15).toInt.toNat = a35_3.toInt.toNat + 1 := by omega
                                                                                          have hq3 : a35_3.toNatClampNeg = a35_3.toInt.toNat := rfl
                                                                                          have k25 : g35_ 25 0 = f 25 0 := funext (fun j => hF35_ 25 0 j rfl)
                                                                                          have k26 : g35_ 26 0 = f 26 0 := funext (fun j => hF35_ 26 0 j rfl)
                                                                                          have k27 : g35_ 27 0 = f 27 0 := funext (fun j => hF35_ 27 0 j rfl)
                                                                                          have k28 : g35_ 28 0 = f 28 0 := funext (fun j => hF35_ 28 0 j rfl)
                                                                                          have k30 : g35_ 30 0 = f 30 0 := funext (fun j => hF35_ 30 0 j rfl)
                                                                                          have r56 : v8 = f 30 0 1 := (q8 : v8 = g35_ 30 0 1).trans (hF35_ 30 0 1 rfl)
                                                                                          have r62 : v9 = f 30 0 3 := (q9 : v9 = g35_ 30 0 3).trans (hF35_ 30 0 3 rfl)
                                                                                          have r68 : v10 = f 30 0 4 := (q10 : v10 = g35_ 30 0 4).trans (hF35_ 30 0 4 rfl)
                                                                                          have hc := hp11_0
                                                                                          rw [zfm_k k25 k26 k27 k28, r56, r62, r68] at hc
                                                                                          have hw : zWm_ f a2.toInt.toNat a35_3.toInt.toNat = (zpn (zsr f a35_3.toInt.toNat a2.toInt.toNat) : Int) := rfl
                                                                                          have h6 := zpn_6 (zsr f a35_3.toInt.toNat a2.toInt.toNat)
                                                                                          intro j hj
                                                                                          rw [hn] at hj
                                                                                          by_cases e : j = a35_3.toInt.toNat
                                                                                          · subst e
                                                                                            rw [qm14, hq3, zup_same]
                                                                                            unfold zk0m
                                                                                            rw [zrx_n (fun h => zbo_n hc (by omega) h.2.1)]; decide
                                                                                          · rw [qm14, zup_ne _ _ (by omega)]; exact hR35_0 j (by omega)) (by exact hR35_1) (by exact hR35_2) (by omega) (by omega) (by omega)
          · skip
            have b16x : zB v11 1 1 := by have q1 := b11x; have q2 := (zB.of (x := 0) 0 (by decide)); simp only [z32lt, z32le, z32eq, Int32.reduceToInt, Int32.toInt_zero] at h72_11; constructor <;> omega
            refine z_aload_n (pc := 75) C dX10_mended_75 rfl ?_
            refine z_iload_n (pc := 76) C dX10_mended_76 rfl ?_
            refine z_iload_n (pc := 77) C dX10_mended_77 rfl ?_
            refine z_callV (pc := 78) C zk_X10_141 (x_X10_standing _ _ a35_3 b5x a2 b35_2 hI35_) rfl rfl (by decide) rfl rfl (Nat.le_of_ble_eq_true rfl) dX10_mended_78 (fun r17 g17 q17 => ?_)
            obtain ⟨⟨v17, rfl, b17x⟩, hI17, hF17q, hp17_0⟩ := q17
            have hp17_0 := hp17_0 _ rfl
            obtain rfl := zFr_nil hF17q
            simp only [Option.toList, List.cons_append, List.nil_append]
            refine z_callS (pc := 81) C zk_X10_194 (x_X10_ones _ _ v17 b17x hI35_) rfl rfl (Nat.le_of_ble_eq_true rfl) dX10_mended_81 (fun r18 g18 q18 => ?_)
            obtain ⟨⟨v18, rfl, b18x⟩, hI18, hF18q, hp18_0⟩ := q18
            have hp18_0 := hp18_0 _ rfl
            obtain rfl := zFr_nil hF18q
            simp only [Option.toList, List.cons_append, List.nil_append]
            refine z_goto (pc := 84) 90 C dX10_mended_84 (by decide) ?_
            have kw90_18 : a35_3.toNatClampNeg = a35_3.toInt.toNat := rfl
            refine z_iast (pc := 90) C rfl (by decide) (zIx b5x (by decide) (by decide)) dX10_mended_90 ?_
            refine w_memx hI35_ hF35_ (zB.wk (a' := 0) (b' := 20000) b18x (by decide) (by decide)) rfl (fun g19 qm19 hI19 hF19 hq19 hx19 => ?_)
            have ek19_25_0_4 : (g19 25 0 4).toInt = (g35_ 25 0 4).toInt := by rw [hq19 25 0 4 (by omega)]
            have c19_25_0_4x : zB (g19 25 0 4) 1 12 := by rw [hq19 25 0 4 (by omega)]; exact c7x
            refine z_iinc (pc := 91) (v := 1) C dX10_mended_91 rfl (by decide) (by rw [hn]; decide) rfl ?_
            obtain ⟨v20, hv20, e20⟩ : ∃ v : Int32, v = a35_3 + 1 ∧ v.toInt = a35_3.toInt + 1 := ⟨_, rfl, zadd_eb b5x (zB.of (x := 1) 1 (by decide)) (by decide) (by decide)⟩
            rw [← hv20]
            have b20x : zB v20 1 12 := by have q9 := b5x; constructor <;> omega
            refine z_goto (pc := 94) 35 C dX10_mended_94 (by decide) ?_
            exact ih0 b35_1 b35_2 v20 (zB.wk (a' := 0) (b' := 12) b20x (by decide) (by decide)) g19 hI19 hF19 (zB.wk c19_25_0_4x (by decide) (by decide)) (by
                                                                                          have hn : (v20).toInt.toNat = a35_3.toInt.toNat + 1 := by omega
                                                                                          have hq3 : a35_3.toNatClampNeg = a35_3.toInt.toNat := rfl
                                                                                          have k25 : g35_ 25 0 = f 25 0 := funext (fun j => hF35_ 25 0 j rfl)
                                                                                          have k26 : g35_ 26 0 = f 26 0 := funext (fun j => hF35_ 26 0 j rfl)
                                                                                          have k27 : g35_ 27 0 = f 27 0 := funext (fun j => hF35_ 27 0 j rfl)
                                                                                          have k28 : g35_ 28 0 = f 28 0 := funext (fun j => hF35_ 28 0 j rfl)
                                                                                          have k30 : g35_ 30 0 = f 30 0 := funext (fun j => hF35_ 30 0 j rfl)
                                                                                          have r56 : v8 = f 30 0 1 := (q8 : v8 = g35_ 30 0 1).trans (hF35_ 30 0 1 rfl)
                                                                                          have r62 : v9 = f 30 0 3 := (q9 : v9 = g35_ 30 0 3).trans (hF35_ 30 0 3 rfl)
                                                                                          have r68 : v10 = f 30 0 4 := (q10 : v10 = g35_ 30 0 4).trans (hF35_ 30 0 4 rfl)
                                                                                          have hc := hp11_0
                                                                                          rw [zfm_k k25 k26 k27 k28, r56, r62, r68] at hc
                                                                                          have hw : zWm_ f a2.toInt.toNat a35_3.toInt.toNat = (zpn (zsr f a35_3.toInt.toNat a2.toInt.toNat) : Int) := rfl
                                                                                          have h6 := zpn_6 (zsr f a35_3.toInt.toNat a2.toInt.toNat)
                                                                                          intro j hj
                                                                                          rw [hn] at hj
                                                                                          by_cases e : j = a35_3.toInt.toNat
                                                                                          · subst e
                                                                                            rw [qm19, hq3, zup_same]
                                                                                            unfold zk0m
                                                                                            have hs := hp17_0
                                                                                            rw [zsr_k k25 k26 k27 k28 k30] at hs
                                                                                            have ho := hp18_0
                                                                                            rw [hs] at ho
                                                                                            rw [zrx_y ⟨by omega, zbo_y hc (by omega), by rw [hw]; omega⟩, hw]; omega
                                                                                          · rw [qm19, zup_ne _ _ (by omega)]; exact hR35_0 j (by omega)) (by exact hR35_1) (by exact hR35_2) (by omega) (by omega) (by omega)
      · skip
        intro b99_1 b99_2 a99_3 b99_3 g99_ hI99_ hF99_ f99_25_0_4 hR99_0 hR99_1 hR99_2 hR99_3 hR99_4 hM99_
        refine z_iload_n (pc := 99) C dX10_mended_99 rfl ?_
        refine z_aload_n (pc := 100) C dX10_mended_100 rfl ?_
        refine z_getI (pc := 101) C zf_X10_77 rfl rfl (by decide) dX10_mended_101 ?_
        refine w_gp (fun v => v = g99_ 25 0 4) rfl (fun v21 q21 => ?_)
        have e21 : v21.toInt = (g99_ 25 0 4).toInt := by rw [q21]
        have b21x : zB v21 0 12 := by first | exact zB.eqv e21 f99_25_0_4 | (have q9 := f99_25_0_4; constructor <;> omega)
        refine z_icmp_ge (pc := 104) 282 C dX10_mended_104 (by decide) (fun h104_21 => ?_) (fun h104_21 => ?_)
        · skip
          have rr23 : a99_3.toInt ≥ v21.toInt := by simp only [z32lt, z32le, z32eq] at h104_21; omega
          refine z_aload_n (pc := 282) C dX10_mended_282 rfl ?_
          refine z_iload_n (pc := 283) C dX10_mended_283 rfl ?_
          refine z_iload_n (pc := 284) C dX10_mended_284 rfl ?_
          refine z_sipush (pc := 285) (v := 255) C dX10_mended_285 (by decide) ?_
          refine z_callV (pc := 288) C zk_X10_161 (x_X10_isTried _ _ a2 b99_2 a1 b99_1 255 (zB.wk (a' := 0) (b' := 255) (zB.of (x := 255) 255 (by decide)) (by decide) (by decide)) hI99_) rfl rfl (by decide) rfl rfl (Nat.le_of_ble_eq_true rfl) dX10_mended_288 (fun r24 g24 q24 => ?_)
          have qa24_255 : (255 : Int32).toInt = 255 := by decide
          obtain ⟨⟨v24, rfl, b24x⟩, hI24, hF24q, hp24_0⟩ := q24
          have hp24_0 := hp24_0 _ rfl
          obtain rfl := zFr_nil hF24q
          simp only [Option.toList, List.cons_append, List.nil_append]
          refine z_if_ne (pc := 291) 297 C dX10_mended_291 (by decide) (fun h291_24 => ?_) (fun h291_24 => ?_)
          · skip
            have b26x : zB v24 1 1 := by have q1 := b24x; have q2 := (zB.of (x := 0) 0 (by decide)); simp only [z32lt, z32le, z32eq, Int32.reduceToInt, Int32.toInt_zero] at h291_24; constructor <;> omega
            refine z_aload_n (pc := 297) C dX10_mended_297 rfl ?_
            refine z_getR (pc := 298) C zf_X10_22 rfl rfl (by decide) dX10_mended_298 ?_
            refine z_iconst (pc := 301) (v := 1) C dX10_mended_301 (by decide) ?_
            refine z_iald (pc := 302) C rfl (by decide) (zIx (zB.of (x := 1) 1 (by decide)) (by decide) (by decide)) dX10_mended_302 ?_
            have kq302_26 : (1 : Int32).toNatClampNeg = (1 : Int32).toInt.toNat := rfl
            refine w_gp (fun v => v = g99_ 30 0 (1 : Int32).toNatClampNeg) rfl (fun v27 q27 => ?_)
            have b27x : zB v27 0 5 := by rw [q27]; exact (hI99_ 30 0 (1 : Int32).toNatClampNeg)
            refine z_iload_n (pc := 303) C dX10_mended_303 rfl ?_
            refine z_icmp_ne (pc := 304) 311 C dX10_mended_304 (by decide) (fun h304_27 => ?_) (fun h304_27 => ?_)
            · skip
              refine z_sipush (pc := 311) (v := 9999) C dX10_mended_311 (by decide) ?_
              refine z_istore_n (pc := 314) C dX10_mended_314 (by rw [hn]; decide) rfl ?_
              refine z_iconst (pc := 315) (v := 0) C dX10_mended_315 (by decide) ?_
              refine z_istore (pc := 316) C dX10_mended_316 (by rw [hn]; decide) rfl ?_
              exact ih4 b99_1 b99_2 9999 (zB.wk (a' := 0) (b' := 20000) (zB.of (x := 9999) 9999 (by decide)) (by decide) (by decide)) 0 (zB.wk (a' := 0) (b' := 12) (zB.of (x := 0) 0 (by decide)) (by decide) (by decide)) g99_ hI99_ hF99_ f99_25_0_4 (by
                                                                                          have hk : (f 25 0 4).toInt.toNat = a99_3.toInt.toNat := by omega
                                                                                          intro j hj
                                                                                          rw [hR99_0 j hj, hk]) (by
                                                                                          have k25 : g99_ 25 0 = f 25 0 := funext (fun j => hF99_ 25 0 j rfl)
                                                                                          have k26 : g99_ 26 0 = f 26 0 := funext (fun j => hF99_ 26 0 j rfl)
                                                                                          have k27 : g99_ 27 0 = f 27 0 := funext (fun j => hF99_ 27 0 j rfl)
                                                                                          have k28 : g99_ 28 0 = f 28 0 := funext (fun j => hF99_ 28 0 j rfl)
                                                                                          have k30 : g99_ 30 0 = f 30 0 := funext (fun j => hF99_ 30 0 j rfl)
                                                                                          have r302 : v27 = f 30 0 1 := (q27 : v27 = g99_ 30 0 1).trans (hF99_ 30 0 1 rfl)
                                                                                          show ((9999 : Int32)).toInt = @ite Int (f 30 0 1 = a1) (Classical.propDecidable _) 0 9999
                                                                                          first
                                                                                            | (rw [if_pos (show f 30 0 1 = a1 by rw [← r302]; assumption)]; decide)
                                                                                            | (rw [if_neg (show ¬ f 30 0 1 = a1 from fun h => absurd (r302.trans h) (by assumption))]; decide)) (by
                                                                                          have k25 : g99_ 25 0 = f 25 0 := funext (fun j => hF99_ 25 0 j rfl)
                                                                                          have k26 : g99_ 26 0 = f 26 0 := funext (fun j => hF99_ 26 0 j rfl)
                                                                                          have k27 : g99_ 27 0 = f 27 0 := funext (fun j => hF99_ 27 0 j rfl)
                                                                                          have k28 : g99_ 28 0 = f 28 0 := funext (fun j => hF99_ 28 0 j rfl)
                                                                                          have k30 : g99_ 30 0 = f 30 0 := funext (fun j => hF99_ 30 0 j rfl)
                                                                                          have ht := hp24_0
                                                                                          rw [k25, k26, k27] at ht
                                                                                          exact zbo_y ht (by omega)) (by exact hR99_1) (by exact hR99_2) (by have qc0 : (0 : Int32).toInt = 0 := (by decide); have qc1 : (9999 : Int32).toInt = 9999 := (by decide); omega) (by have qc0 : (0 : Int32).toInt = 0 := (by decide); have qc1 : (9999 : Int32).toInt = 9999 := (by decide); omega) (by have qc0 : (0 : Int32).toInt = 0 := (by decide); have qc1 : (9999 : Int32).toInt = 9999 := (by decide); omega)
            · skip
              have rr29 : v27.toInt = a1.toInt := by simp only [z32lt, z32le, z32eq] at h304_27; omega
              refine z_iconst (pc := 307) (v := 0) C dX10_mended_307 (by decide) ?_
              refine z_goto (pc := 308) 314 C dX10_mended_308 (by decide) ?_
              refine z_istore_n (pc := 314) C dX10_mended_314 (by rw [hn]; decide) rfl ?_
              refine z_iconst (pc := 315) (v := 0) C dX10_mended_315 (by decide) ?_
              refine z_istore (pc := 316) C dX10_mended_316 (by rw [hn]; decide) rfl ?_
              exact ih4 b99_1 b99_2 0 (zB.wk (a' := 0) (b' := 20000) (zB.of (x := 0) 0 (by decide)) (by decide) (by decide)) 0 (zB.wk (a' := 0) (b' := 12) (zB.of (x := 0) 0 (by decide)) (by decide) (by decide)) g99_ hI99_ hF99_ f99_25_0_4 (by
                                                                                          have hk : (f 25 0 4).toInt.toNat = a99_3.toInt.toNat := by omega
                                                                                          intro j hj
                                                                                          rw [hR99_0 j hj, hk]) (by
                                                                                          have k25 : g99_ 25 0 = f 25 0 := funext (fun j => hF99_ 25 0 j rfl)
                                                                                          have k26 : g99_ 26 0 = f 26 0 := funext (fun j => hF99_ 26 0 j rfl)
                                                                                          have k27 : g99_ 27 0 = f 27 0 := funext (fun j => hF99_ 27 0 j rfl)
                                                                                          have k28 : g99_ 28 0 = f 28 0 := funext (fun j => hF99_ 28 0 j rfl)
                                                                                          have k30 : g99_ 30 0 = f 30 0 := funext (fun j => hF99_ 30 0 j rfl)
                                                                                          have r302 : v27 = f 30 0 1 := (q27 : v27 = g99_ 30 0 1).trans (hF99_ 30 0 1 rfl)
                                                                                          show ((0 : Int32)).toInt = @ite Int (f 30 0 1 = a1) (Classical.propDecidable _) 0 9999
                                                                                          first
                                                                                            | (rw [if_pos (show f 30 0 1 = a1 by rw [← r302]; assumption)]; decide)
                                                                                            | (rw [if_neg (show ¬ f 30 0 1 = a1 from fun h => absurd (r302.trans h) (by assumption))]; decide)) (by
                                                                                          have k25 : g99_ 25 0 = f 25 0 := funext (fun j => hF99_ 25 0 j rfl)
                                                                                          have k26 : g99_ 26 0 = f 26 0 := funext (fun j => hF99_ 26 0 j rfl)
                                                                                          have k27 : g99_ 27 0 = f 27 0 := funext (fun j => hF99_ 27 0 j rfl)
                                                                                          have k28 : g99_ 28 0 = f 28 0 := funext (fun j => hF99_ 28 0 j rfl)
                                                                                          have k30 : g99_ 30 0 = f 30 0 := funext (fun j => hF99_ 30 0 j rfl)
                                                                                          have ht := hp24_0
                                                                                          rw [k25, k26, k27] at ht
                                                                                          exact zbo_y ht (by omega)) (by exact hR99_1) (by exact hR99_2) (by have qc0 : (0 : Int32).toInt = 0 := (by decide); omega) (by have qc0 : (0 : Int32).toInt = 0 := (by decide); omega) (by have qc0 : (0 : Int32).toInt = 0 := (by decide); omega)
          · skip
            have b30x : zB v24 0 0 := by have q1 := b24x; have q2 := (zB.of (x := 0) 0 (by decide)); simp only [z32lt, z32le, z32eq, Int32.reduceToInt, Int32.toInt_zero] at h291_24; constructor <;> omega
            refine z_bipush (pc := 294) (v := -4) C dX10_mended_294 (by decide) ?_
            exact z_iret (pc := 296) C hr dX10_mended_296 ⟨⟨_, rfl, (zB.wk (a' := (-4)) (b' := 9998) (zB.of (x := (-4)) (-4) (by decide)) (by decide) (by decide))⟩, hI99_, hF99_, (by
                                                                                          intro v hv; cases hv
                                                                                          have k25 : g99_ 25 0 = f 25 0 := funext (fun j => hF99_ 25 0 j rfl)
                                                                                          have k26 : g99_ 26 0 = f 26 0 := funext (fun j => hF99_ 26 0 j rfl)
                                                                                          have k27 : g99_ 27 0 = f 27 0 := funext (fun j => hF99_ 27 0 j rfl)
                                                                                          have k28 : g99_ 28 0 = f 28 0 := funext (fun j => hF99_ 28 0 j rfl)
                                                                                          have k30 : g99_ 30 0 = f 30 0 := funext (fun j => hF99_ 30 0 j rfl)
                                                                                          have ht := hp24_0
                                                                                          rw [k25, k26, k27] at ht
                                                                                          exact Or.inr ⟨hR99_1, Or.inr (Or.inl ⟨hR99_2, zbo_n ht (by omega), rfl⟩)⟩)⟩
        · skip
          have rr31 : a99_3.toInt < v21.toInt := by simp only [z32lt, z32le, z32eq] at h104_21; omega
          have b32x : zB a99_3 0 11 := by have q1 := b99_3; have q2 := b21x; simp only [z32lt, z32le, z32eq, Int32.reduceToInt, Int32.toInt_zero] at h104_21; constructor <;> omega
          have b33x : zB v21 1 12 := by have q1 := b99_3; have q2 := b21x; simp only [z32lt, z32le, z32eq, Int32.reduceToInt, Int32.toInt_zero] at h104_21; constructor <;> omega
          have c34x : zB (g99_ 25 0 4) 1 12 := by first | assumption | (constructor <;> omega)
          refine z_iconst (pc := 107) (v := 0) C dX10_mended_107 (by decide) ?_
          refine z_istore (pc := 108) C dX10_mended_108 (by rw [hn]; decide) rfl ?_
          exact ih2 b99_1 b99_2 a99_3 b32x 0 (zB.wk (a' := 0) (b' := 12) (zB.of (x := 0) 0 (by decide)) (by decide) (by decide)) g99_ hI99_ hF99_ c34x (by intro j hj; exact hR99_0 j hj) (by exact hR99_1) (by exact hR99_2) (by have qc0 : (0 : Int32).toInt = 0 := (by decide); omega) (by have qc0 : (0 : Int32).toInt = 0 := (by decide); omega) (by have qc0 : (0 : Int32).toInt = 0 := (by decide); omega) (by have qc0 : (0 : Int32).toInt = 0 := (by decide); omega)
      · skip
        intro b110_1 b110_2 a110_3 b110_3 a110_4 b110_4 g110_ hI110_ hF110_ f110_25_0_4 hR110_0 hR110_1 hR110_2 hR110_3 hR110_4 hR110_5 hM110_
        refine z_iload (pc := 110) C dX10_mended_110 rfl ?_
        refine z_aload_n (pc := 112) C dX10_mended_112 rfl ?_
        refine z_getI (pc := 113) C zf_X10_77 rfl rfl (by decide) dX10_mended_113 ?_
        refine w_gp (fun v => v = g110_ 25 0 4) rfl (fun v35 q35 => ?_)
        have e35 : v35.toInt = (g110_ 25 0 4).toInt := by rw [q35]
        have b35x : zB v35 1 12 := by first | exact zB.eqv e35 f110_25_0_4 | (have q9 := f110_25_0_4; constructor <;> omega)
        refine z_icmp_ge (pc := 116) 276 C dX10_mended_116 (by decide) (fun h116_35 => ?_) (fun h116_35 => ?_)
        · skip
          have rr37 : a110_4.toInt ≥ v35.toInt := by simp only [z32lt, z32le, z32eq] at h116_35; omega
          have b38x : zB a110_4 1 12 := by have q1 := b110_4; have q2 := b35x; simp only [z32lt, z32le, z32eq, Int32.reduceToInt, Int32.toInt_zero] at h116_35; constructor <;> omega
          refine z_iinc (pc := 276) (v := 1) C dX10_mended_276 rfl (by decide) (by rw [hn]; decide) rfl ?_
          obtain ⟨v39, hv39, e39⟩ : ∃ v : Int32, v = a110_3 + 1 ∧ v.toInt = a110_3.toInt + 1 := ⟨_, rfl, zadd_eb b110_3 (zB.of (x := 1) 1 (by decide)) (by decide) (by decide)⟩
          rw [← hv39]
          have b39x : zB v39 1 12 := by have q9 := b110_3; constructor <;> omega
          refine z_goto (pc := 279) 99 C dX10_mended_279 (by decide) ?_
          refine w_mask [4] ?_
          exact ih1 b110_1 b110_2 v39 (zB.wk (a' := 0) (b' := 12) b39x (by decide) (by decide)) g110_ hI110_ hF110_ (zB.wk f110_25_0_4 (by decide) (by decide)) (by
                                                                                          have hn : (v39).toInt.toNat = a110_3.toInt.toNat + 1 := by omega
                                                                                          have hk : (f 25 0 4).toInt.toNat = a110_4.toInt.toNat := by omega
                                                                                          intro j hj
                                                                                          have h := hR110_0 j hj
                                                                                          rw [← hk] at h
                                                                                          rw [hn]; exact h) (by exact hR110_1) (by exact hR110_2) (by omega) (by omega) (by omega)
        · skip
          have rr40 : a110_4.toInt < v35.toInt := by simp only [z32lt, z32le, z32eq] at h116_35; omega
          have b41x : zB a110_4 0 11 := by have q1 := b110_4; have q2 := b35x; simp only [z32lt, z32le, z32eq, Int32.reduceToInt, Int32.toInt_zero] at h116_35; constructor <;> omega
          refine z_aload_n (pc := 119) C dX10_mended_119 rfl ?_
          refine z_getR (pc := 120) C zf_X10_16 rfl rfl (by decide) dX10_mended_120 ?_
          refine z_bipush (pc := 123) (v := 8) C dX10_mended_123 (by decide) ?_
          refine z_iload (pc := 125) C dX10_mended_125 rfl ?_
          refine z_imul (pc := 127) C dX10_mended_127 ?_
          refine w_gp (fun v => v = (8 : Int32) * a110_4) rfl (fun v42 q42 => ?_)
          have e42 : v42.toInt = 8 * a110_4.toInt := by rw [q42]; exact (zmul_kb 8 (by decide) (by decide) b41x (by decide) (by decide))
          have b42x : zB v42 0 88 := zmul_bb e42 (by decide) b41x
          refine z_bipush (pc := 128) (v := 7) C dX10_mended_128 (by decide) ?_
          refine z_iadd (pc := 130) C dX10_mended_130 ?_
          refine w_gp (fun v => v = v42 + (7 : Int32)) rfl (fun v43 q43 => ?_)
          have e43 : v43.toInt = v42.toInt + 7 := by rw [q43]; exact (zadd_eb b42x (zB.of (x := 7) 7 (by decide)) (by decide) (by decide))
          have b43x : zB v43 7 95 := by have q1 := b42x; have q2 := (zB.of (x := 7) 7 (by decide)); constructor <;> omega
          refine z_iald (pc := 131) C rfl (by decide) (zIx b43x (by decide) (by decide)) dX10_mended_131 ?_
          have kq131_43 : v43.toNatClampNeg = v43.toInt.toNat := rfl
          refine w_gp (fun v => v = g110_ 28 0 v43.toNatClampNeg) rfl (fun v44 q44 => ?_)
          have b44x : zB v44 0 7 := by rw [q44]; exact (by have hq9 := hI110_ 28 0 v43.toNatClampNeg; rw [zrg28 (r := 7) (by have hq : v43.toNatClampNeg = v43.toInt.toNat := rfl; have hq2 := b43x; omega)] at hq9; exact hq9)
          refine z_istore (pc := 132) C dX10_mended_132 (by rw [hn]; decide) rfl ?_
          refine z_iconst (pc := 134) (v := 0) C dX10_mended_134 (by decide) ?_
          refine z_istore (pc := 135) C dX10_mended_135 (by rw [hn]; decide) rfl ?_
          exact ih3 b110_1 b110_2 a110_3 b110_3 a110_4 b41x v44 b44x 0 (zB.wk (a' := 0) (b' := 12) (zB.of (x := 0) 0 (by decide)) (by decide) (by decide)) g110_ hI110_ hF110_ f110_25_0_4 (by
                                                                                          intro j hj
                                                                                          rw [hR110_0 j hj]
                                                                                          unfold zrx
                                                                                          exact (if_neg (fun z => absurd z.1 (Nat.not_lt_zero j))).symm) (by
                                                                                          have x131 : (v43).toNatClampNeg = 8 * a110_4.toInt.toNat + 7 := by omega
                                                                                          have r131 := q44
                                                                                          rw [x131, hF110_ 28 0 _ rfl] at r131
                                                                                          exact r131) (by exact hR110_1) (by exact hR110_2) (by have qc0 : (0 : Int32).toInt = 0 := (by decide); omega) (by have qc0 : (0 : Int32).toInt = 0 := (by decide); omega) (by have qc0 : (0 : Int32).toInt = 0 := (by decide); omega) (by have qc0 : (0 : Int32).toInt = 0 := (by decide); omega) (by have qc0 : (0 : Int32).toInt = 0 := (by decide); omega)
      · skip
        intro b137_1 b137_2 a137_3 b137_3 a137_4 b137_4 a137_5 b137_5 a137_6 b137_6 g137_ hI137_ hF137_ f137_25_0_4 hR137_0 hR137_1 hR137_2 hR137_3 hR137_4 hR137_5 hR137_6 hR137_7 hM137_
        refine z_iload (pc := 137) C dX10_mended_137 rfl ?_
        refine z_aload_n (pc := 139) C dX10_mended_139 rfl ?_
        refine z_getI (pc := 140) C zf_X10_77 rfl rfl (by decide) dX10_mended_140 ?_
        refine w_gp (fun v => v = g137_ 25 0 4) rfl (fun v45 q45 => ?_)
        have e45 : v45.toInt = (g137_ 25 0 4).toInt := by rw [q45]
        have b45x : zB v45 1 12 := by first | exact zB.eqv e45 f137_25_0_4 | (have q9 := f137_25_0_4; constructor <;> omega)
        refine z_icmp_ge (pc := 143) 270 C dX10_mended_143 (by decide) (fun h143_45 => ?_) (fun h143_45 => ?_)
        · skip
          have rr47 : a137_6.toInt ≥ v45.toInt := by simp only [z32lt, z32le, z32eq] at h143_45; omega
          have b48x : zB a137_6 1 12 := by have q1 := b137_6; have q2 := b45x; simp only [z32lt, z32le, z32eq, Int32.reduceToInt, Int32.toInt_zero] at h143_45; constructor <;> omega
          refine z_iinc (pc := 270) (v := 1) C dX10_mended_270 rfl (by decide) (by rw [hn]; decide) rfl ?_
          obtain ⟨v49, hv49, e49⟩ : ∃ v : Int32, v = a137_4 + 1 ∧ v.toInt = a137_4.toInt + 1 := ⟨_, rfl, zadd_eb b137_4 (zB.of (x := 1) 1 (by decide)) (by decide) (by decide)⟩
          rw [← hv49]
          have b49x : zB v49 1 12 := by have q9 := b137_4; constructor <;> omega
          refine z_goto (pc := 273) 110 C dX10_mended_273 (by decide) ?_
          refine w_mask [5, 6] ?_
          exact ih2 b137_1 b137_2 a137_3 b137_3 v49 (zB.wk (a' := 0) (b' := 12) b49x (by decide) (by decide)) g137_ hI137_ hF137_ f137_25_0_4 (by
                                                                                          have hn : (v49).toInt.toNat = a137_4.toInt.toNat + 1 := by omega
                                                                                          have hq4 : a137_4.toNatClampNeg = a137_4.toInt.toNat := rfl
                                                                                          intro j hj
                                                                                          rw [hR137_0 j hj, hn, zrd]
                                                                                          have hk : (f 25 0 4).toInt.toNat = a137_6.toInt.toNat := by omega
                                                                                          rw [← hk]) (by exact hR137_2) (by exact hR137_3) (by omega) (by omega) (by omega) (by omega)
        · skip
          have rr50 : a137_6.toInt < v45.toInt := by simp only [z32lt, z32le, z32eq] at h143_45; omega
          have b51x : zB a137_6 0 11 := by have q1 := b137_6; have q2 := b45x; simp only [z32lt, z32le, z32eq, Int32.reduceToInt, Int32.toInt_zero] at h143_45; constructor <;> omega
          refine z_aload_n (pc := 146) C dX10_mended_146 rfl ?_
          refine z_getR (pc := 147) C zf_X10_37 rfl rfl (by decide) dX10_mended_147 ?_
          refine z_iload (pc := 150) C dX10_mended_150 rfl ?_
          refine z_iald (pc := 152) C rfl (by decide) (zIx b137_4 (by decide) (by decide)) dX10_mended_152 ?_
          have kq152_51 : a137_4.toNatClampNeg = a137_4.toInt.toNat := rfl
          refine w_gp (fun v => v = g137_ 35 0 a137_4.toNatClampNeg) rfl (fun v52 q52 => ?_)
          have b52x : zB v52 0 20000 := by rw [q52]; exact (hI137_ 35 0 a137_4.toNatClampNeg)
          refine z_sipush (pc := 153) (v := 9999) C dX10_mended_153 (by decide) ?_
          refine z_icmp_ge (pc := 156) 270 C dX10_mended_156 (by decide) (fun h156_52 => ?_) (fun h156_52 => ?_)
          · skip
            have b54x : zB v52 9999 20000 := by have q1 := b52x; have q2 := (zB.of (x := 9999) 9999 (by decide)); simp only [z32lt, z32le, z32eq, Int32.reduceToInt, Int32.toInt_zero] at h156_52; constructor <;> omega
            refine z_iinc (pc := 270) (v := 1) C dX10_mended_270 rfl (by decide) (by rw [hn]; decide) rfl ?_
            obtain ⟨v55, hv55, e55⟩ : ∃ v : Int32, v = a137_4 + 1 ∧ v.toInt = a137_4.toInt + 1 := ⟨_, rfl, zadd_eb b137_4 (zB.of (x := 1) 1 (by decide)) (by decide) (by decide)⟩
            rw [← hv55]
            have b55x : zB v55 1 12 := by have q9 := b137_4; constructor <;> omega
            refine z_goto (pc := 273) 110 C dX10_mended_273 (by decide) ?_
            refine w_mask [5, 6] ?_
            exact ih2 b137_1 b137_2 a137_3 b137_3 v55 (zB.wk (a' := 0) (b' := 12) b55x (by decide) (by decide)) g137_ hI137_ hF137_ f137_25_0_4 (by
                                                                                          have hn : (v55).toInt.toNat = a137_4.toInt.toNat + 1 := by omega
                                                                                          have hq4 : a137_4.toNatClampNeg = a137_4.toInt.toNat := rfl
                                                                                          intro j hj
                                                                                          rw [hR137_0 j hj, hn, zrd]
                                                                                          have h152 := q52
                                                                                          rw [hq4] at h152
                                                                                          have r152 : (v52).toInt = zrd (zFm f a2.toInt.toNat) (zWm_ f a2.toInt.toNat) (f 25 0 4).toInt.toNat (zCm f a2.toInt.toNat a137_3.toInt.toNat) a137_4.toInt.toNat a137_4.toInt.toNat := by
                                                                                            rw [h152, hR137_0 _ (by omega)]
                                                                                            exact zrx_n (fun h => by have h2 := h.2.2; have h3 := zWm_0 f a2.toInt.toNat a137_4.toInt.toNat; omega)
                                                                                          have h9 := Int.le_trans (zrd_le (F := zFm f a2.toInt.toNat) (W := zWm_ f a2.toInt.toNat) (n := (f 25 0 4).toInt.toNat) (c := zCm f a2.toInt.toNat a137_3.toInt.toNat) a137_4.toInt.toNat j) (zCm_le f a2.toInt.toNat a137_3.toInt.toNat j)
                                                                                          have h8 := zWm_0 f a2.toInt.toNat j
                                                                                          rw [zrx_n (fun h => by have h2 := h.2.2; omega), zrx_n (fun h => by have h2 := h.2.2; omega)]) (by exact hR137_2) (by exact hR137_3) (by omega) (by omega) (by omega) (by omega)
          · skip
            have b56x : zB v52 0 9998 := by have q1 := b52x; have q2 := (zB.of (x := 9999) 9999 (by decide)); simp only [z32lt, z32le, z32eq, Int32.reduceToInt, Int32.toInt_zero] at h156_52; constructor <;> omega
            refine z_aload_n (pc := 159) C dX10_mended_159 rfl ?_
            refine z_iload (pc := 160) C dX10_mended_160 rfl ?_
            refine z_iload_n (pc := 162) C dX10_mended_162 rfl ?_
            refine z_aload_n (pc := 163) C dX10_mended_163 rfl ?_
            refine z_getR (pc := 164) C zf_X10_16 rfl rfl (by decide) dX10_mended_164 ?_
            refine z_bipush (pc := 167) (v := 8) C dX10_mended_167 (by decide) ?_
            refine z_iload (pc := 169) C dX10_mended_169 rfl ?_
            refine z_imul (pc := 171) C dX10_mended_171 ?_
            refine w_gp (fun v => v = (8 : Int32) * a137_4) rfl (fun v57 q57 => ?_)
            have e57 : v57.toInt = 8 * a137_4.toInt := by rw [q57]; exact (zmul_kb 8 (by decide) (by decide) b137_4 (by decide) (by decide))
            have b57x : zB v57 0 88 := zmul_bb e57 (by decide) b137_4
            refine z_iconst (pc := 172) (v := 2) C dX10_mended_172 (by decide) ?_
            refine z_iadd (pc := 173) C dX10_mended_173 ?_
            refine w_gp (fun v => v = v57 + (2 : Int32)) rfl (fun v58 q58 => ?_)
            have e58 : v58.toInt = v57.toInt + 2 := by rw [q58]; exact (zadd_eb b57x (zB.of (x := 2) 2 (by decide)) (by decide) (by decide))
            have b58x : zB v58 2 90 := by have q1 := b57x; have q2 := (zB.of (x := 2) 2 (by decide)); constructor <;> omega
            refine z_iald (pc := 174) C rfl (by decide) (zIx b58x (by decide) (by decide)) dX10_mended_174 ?_
            have kq174_58 : v58.toNatClampNeg = v58.toInt.toNat := rfl
            refine w_gp (fun v => v = g137_ 28 0 v58.toNatClampNeg) rfl (fun v59 q59 => ?_)
            have b59x : zB v59 0 5 := by rw [q59]; exact (by have hq9 := hI137_ 28 0 v58.toNatClampNeg; rw [zrg28 (r := 2) (by have hq : v58.toNatClampNeg = v58.toInt.toNat := rfl; have hq2 := b58x; omega)] at hq9; exact hq9)
            refine z_iload (pc := 175) C dX10_mended_175 rfl ?_
            refine z_iconst (pc := 177) (v := 1) C dX10_mended_177 (by decide) ?_
            refine z_iand (pc := 178) C dX10_mended_178 ?_
            refine w_gp (fun v => v = a137_5 &&& (1 : Int32)) rfl (fun v60 q60 => ?_)
            have b60x : zB v60 0 1 := by rw [q60]; exact (zand_b b137_5 (zB.of (x := 1) 1 (by decide)) (by decide))
            refine z_iload (pc := 179) C dX10_mended_179 rfl ?_
            refine z_iconst (pc := 181) (v := 4) C dX10_mended_181 (by decide) ?_
            refine z_iand (pc := 182) C dX10_mended_182 ?_
            refine w_gp (fun v => v = a137_5 &&& (4 : Int32)) rfl (fun v61 q61 => ?_)
            have b61x : zB v61 0 4 := by rw [q61]; exact (zand_b b137_5 (zB.of (x := 4) 4 (by decide)) (by decide))
            refine z_if_eq (pc := 183) 201 C dX10_mended_183 (by decide) (fun h183_61 => ?_) (fun h183_61 => ?_)
            · skip
              have b63x : zB v61 0 0 := by have q1 := b61x; have q2 := (zB.of (x := 0) 0 (by decide)); simp only [z32lt, z32le, z32eq, Int32.reduceToInt, Int32.toInt_zero] at h183_61; constructor <;> omega
              refine z_bipush (pc := 201) (v := -4) C dX10_mended_201 (by decide) ?_
              refine z_callV (pc := 203) C zk_X10_197 (x_X10_canFollow _ _ a137_6 b51x a2 b137_2 v59 b59x v60 b60x (-4) (zB.wk (a' := (-4)) (b' := 5) (zB.of (x := (-4)) (-4) (by decide)) (by decide) (by decide)) hI137_) rfl rfl (by decide) rfl rfl (Nat.le_of_ble_eq_true rfl) dX10_mended_203 (fun r64 g64 q64 => ?_)
              have qa64_m4 : ((-4) : Int32).toInt = (-4) := by decide
              obtain ⟨⟨v64, rfl, b64x⟩, hI64, hF64q, hp64_0⟩ := q64
              have hp64_0 := hp64_0 _ rfl
              obtain rfl := zFr_nil hF64q
              simp only [Option.toList, List.cons_append, List.nil_append]
              refine z_istore (pc := 206) C dX10_mended_206 (by rw [hn]; decide) rfl ?_
              refine z_aload_n (pc := 208) C dX10_mended_208 rfl ?_
              refine z_getR (pc := 209) C zf_X10_37 rfl rfl (by decide) dX10_mended_209 ?_
              refine z_iload (pc := 212) C dX10_mended_212 rfl ?_
              refine z_iald (pc := 214) C rfl (by decide) (zIx b137_4 (by decide) (by decide)) dX10_mended_214 ?_
              have kq214_64 : a137_4.toNatClampNeg = a137_4.toInt.toNat := rfl
              refine w_gp (fun v => v = g137_ 35 0 a137_4.toNatClampNeg) rfl (fun v65 q65 => ?_)
              have b65x : zB v65 0 20000 := by rw [q65]; exact (hI137_ 35 0 a137_4.toNatClampNeg)
              refine z_aload_n (pc := 215) C dX10_mended_215 rfl ?_
              refine z_iload (pc := 216) C dX10_mended_216 rfl ?_
              refine z_iload_n (pc := 218) C dX10_mended_218 rfl ?_
              refine z_callV (pc := 219) C zk_X10_141 (x_X10_standing _ _ a137_6 b51x a2 b137_2 hI137_) rfl rfl (by decide) rfl rfl (Nat.le_of_ble_eq_true rfl) dX10_mended_219 (fun r66 g66 q66 => ?_)
              obtain ⟨⟨v66, rfl, b66x⟩, hI66, hF66q, hp66_0⟩ := q66
              have hp66_0 := hp66_0 _ rfl
              obtain rfl := zFr_nil hF66q
              simp only [Option.toList, List.cons_append, List.nil_append]
              refine z_callS (pc := 222) C zk_X10_194 (x_X10_ones _ _ v66 b66x hI137_) rfl rfl (Nat.le_of_ble_eq_true rfl) dX10_mended_222 (fun r67 g67 q67 => ?_)
              obtain ⟨⟨v67, rfl, b67x⟩, hI67, hF67q, hp67_0⟩ := q67
              have hp67_0 := hp67_0 _ rfl
              obtain rfl := zFr_nil hF67q
              simp only [Option.toList, List.cons_append, List.nil_append]
              refine z_iadd (pc := 225) C dX10_mended_225 ?_
              refine w_gp (fun v => v = v65 + v67) rfl (fun v68 q68 => ?_)
              have e68 : v68.toInt = v65.toInt + v67.toInt := by rw [q68]; exact (zadd_eb b65x b67x (by decide) (by decide))
              have b68x : zB v68 0 20063 := by have q1 := b65x; have q2 := b67x; constructor <;> omega
              refine z_istore (pc := 226) C dX10_mended_226 (by rw [hn]; decide) rfl ?_
              refine z_aload_n (pc := 228) C dX10_mended_228 rfl ?_
              refine z_getR (pc := 229) C zf_X10_37 rfl rfl (by decide) dX10_mended_229 ?_
              refine z_iload (pc := 232) C dX10_mended_232 rfl ?_
              refine z_iload (pc := 234) C dX10_mended_234 rfl ?_
              refine z_if_eq (pc := 236) 256 C dX10_mended_236 (by decide) (fun h236_68 => ?_) (fun h236_68 => ?_)
              · skip
                have b70x : zB v64 0 0 := by have q1 := b64x; have q2 := (zB.of (x := 0) 0 (by decide)); simp only [z32lt, z32le, z32eq, Int32.reduceToInt, Int32.toInt_zero] at h236_68; constructor <;> omega
                refine z_aload_n (pc := 256) C dX10_mended_256 rfl ?_
                refine z_getR (pc := 257) C zf_X10_37 rfl rfl (by decide) dX10_mended_257 ?_
                refine z_iload (pc := 260) C dX10_mended_260 rfl ?_
                refine z_iald (pc := 262) C rfl (by decide) (zIx b51x (by decide) (by decide)) dX10_mended_262 ?_
                have kq262_70 : a137_6.toNatClampNeg = a137_6.toInt.toNat := rfl
                refine w_gp (fun v => v = g137_ 35 0 a137_6.toNatClampNeg) rfl (fun v71 q71 => ?_)
                have b71x : zB v71 0 20000 := by rw [q71]; exact (hI137_ 35 0 a137_6.toNatClampNeg)
                have kw263_71 : a137_6.toNatClampNeg = a137_6.toInt.toNat := rfl
                refine z_iast (pc := 263) C rfl (by decide) (zIx b51x (by decide) (by decide)) dX10_mended_263 ?_
                refine w_memx hI137_ hF137_ b71x rfl (fun g72 qm72 hI72 hF72 hq72 hx72 => ?_)
                have ek72_25_0_4 : (g72 25 0 4).toInt = (g137_ 25 0 4).toInt := by rw [hq72 25 0 4 (by omega)]
                have c72_25_0_4x : zB (g72 25 0 4) 1 12 := by rw [hq72 25 0 4 (by omega)]; exact f137_25_0_4
                refine z_iinc (pc := 264) (v := 1) C dX10_mended_264 rfl (by decide) (by rw [hn]; decide) rfl ?_
                obtain ⟨v73, hv73, e73⟩ : ∃ v : Int32, v = a137_6 + 1 ∧ v.toInt = a137_6.toInt + 1 := ⟨_, rfl, zadd_eb b51x (zB.of (x := 1) 1 (by decide)) (by decide) (by decide)⟩
                rw [← hv73]
                have b73x : zB v73 1 12 := by have q9 := b51x; constructor <;> omega
                refine z_goto (pc := 267) 137 C dX10_mended_267 (by decide) ?_
                refine w_mask [7, 8] ?_
                exact ih3 b137_1 b137_2 a137_3 b137_3 a137_4 b137_4 a137_5 b137_5 v73 (zB.wk (a' := 0) (b' := 12) b73x (by decide) (by decide)) g72 hI72 hF72 c72_25_0_4x (by
                                                                                          have hn : (v73).toInt.toNat = a137_6.toInt.toNat + 1 := by omega
                                                                                          have hq4 : a137_4.toNatClampNeg = a137_4.toInt.toNat := rfl
                                                                                          have hq6 : a137_6.toNatClampNeg = a137_6.toInt.toNat := rfl
                                                                                          have k25 : g137_ 25 0 = f 25 0 := funext (fun j => hF137_ 25 0 j rfl)
                                                                                          have k26 : g137_ 26 0 = f 26 0 := funext (fun j => hF137_ 26 0 j rfl)
                                                                                          have k27 : g137_ 27 0 = f 27 0 := funext (fun j => hF137_ 27 0 j rfl)
                                                                                          have k28 : g137_ 28 0 = f 28 0 := funext (fun j => hF137_ 28 0 j rfl)
                                                                                          have k30 : g137_ 30 0 = f 30 0 := funext (fun j => hF137_ 30 0 j rfl)
                                                                                          have s4 : (g137_ 35 0 a137_4.toInt.toNat).toInt = zrd (zFm f a2.toInt.toNat) (zWm_ f a2.toInt.toNat) (f 25 0 4).toInt.toNat (zCm f a2.toInt.toNat a137_3.toInt.toNat) a137_4.toInt.toNat a137_4.toInt.toNat := by
                                                                                            rw [hR137_0 _ (by omega)]
                                                                                            exact zrx_n (fun h => by have h2 := h.2.2; have h3 := zWm_0 f a2.toInt.toNat a137_4.toInt.toNat; omega)
                                                                                          have s6 : (g137_ 35 0 a137_6.toInt.toNat).toInt = zrd (zFm f a2.toInt.toNat) (zWm_ f a2.toInt.toNat) (f 25 0 4).toInt.toNat (zCm f a2.toInt.toNat a137_3.toInt.toNat) a137_4.toInt.toNat a137_6.toInt.toNat := by
                                                                                            rw [hR137_0 _ (by omega)]
                                                                                            exact zrx_n (fun h => absurd h.1 (Nat.lt_irrefl _))
                                                                                          have x174 : (v58).toNatClampNeg = 8 * a137_4.toInt.toNat + 2 := by omega
                                                                                          have r174 := q59
                                                                                          rw [x174, k28] at r174
                                                                                          have e178 : v60 = f 28 0 (8 * a137_4.toInt.toNat + 7) &&& 1 := by rw [q60, hR137_1]
                                                                                          have e182 : v61 = f 28 0 (8 * a137_4.toInt.toNat + 7) &&& 4 := by rw [q61, hR137_1]
                                                                                          have ho : zom f a137_4.toInt.toNat = -4 := by
                                                                                            unfold zom
                                                                                            rw [if_neg (show ¬ ¬ f 28 0 (8 * a137_4.toInt.toNat + 7) &&& 4 = 0 from fun h => h (by rw [← e182]; assumption))]
                                                                                          have hc := hp64_0
                                                                                          rw [zfm_k k25 k26 k27 k28, r174, e178, ← ho] at hc
                                                                                          have hs := hp66_0
                                                                                          rw [zsr_k k25 k26 k27 k28 k30] at hs
                                                                                          have hon := hp67_0
                                                                                          rw [hs] at hon
                                                                                          have hw : zWm_ f a2.toInt.toNat a137_6.toInt.toNat = (zpn (zsr f a137_6.toInt.toNat a2.toInt.toNat) : Int) := rfl
                                                                                          have r214 : (v65).toInt = zrd (zFm f a2.toInt.toNat) (zWm_ f a2.toInt.toNat) (f 25 0 4).toInt.toNat (zCm f a2.toInt.toNat a137_3.toInt.toNat) a137_4.toInt.toNat a137_4.toInt.toNat := by
                                                                                            have h := q65
                                                                                            rw [hq4] at h
                                                                                            rw [h]; exact s4
                                                                                          have r262 : (v71).toInt = zrd (zFm f a2.toInt.toNat) (zWm_ f a2.toInt.toNat) (f 25 0 4).toInt.toNat (zCm f a2.toInt.toNat a137_3.toInt.toNat) a137_4.toInt.toNat a137_6.toInt.toNat := by
                                                                                            have h := q71
                                                                                            rw [hq6] at h
                                                                                            rw [h]; exact s6
                                                                                          intro j hj
                                                                                          rw [hn]
                                                                                          by_cases e : j = a137_6.toInt.toNat
                                                                                          · subst e
                                                                                            rw [qm72, hq6, zup_same]
                                                                                            rw [zrx_n (fun h => zbo_n hc (by omega) h.2.1)]; exact r262
                                                                                          · rw [qm72, zup_ne _ _ (by omega), hR137_0 j hj, zrx_o e]) (by exact hR137_1) (by exact hR137_2) (by exact hR137_3) (by omega) (by omega) (by omega) (by omega) (by omega)
              · skip
                have b74x : zB v64 1 1 := by have q1 := b64x; have q2 := (zB.of (x := 0) 0 (by decide)); simp only [z32lt, z32le, z32eq, Int32.reduceToInt, Int32.toInt_zero] at h236_68; constructor <;> omega
                refine z_iload (pc := 239) C dX10_mended_239 rfl ?_
                refine z_aload_n (pc := 241) C dX10_mended_241 rfl ?_
                refine z_getR (pc := 242) C zf_X10_37 rfl rfl (by decide) dX10_mended_242 ?_
                refine z_iload (pc := 245) C dX10_mended_245 rfl ?_
                refine z_iald (pc := 247) C rfl (by decide) (zIx b51x (by decide) (by decide)) dX10_mended_247 ?_
                have kq247_74 : a137_6.toNatClampNeg = a137_6.toInt.toNat := rfl
                refine w_gp (fun v => v = g137_ 35 0 a137_6.toNatClampNeg) rfl (fun v75 q75 => ?_)
                have b75x : zB v75 0 20000 := by rw [q75]; exact (hI137_ 35 0 a137_6.toNatClampNeg)
                refine z_icmp_ge (pc := 248) 256 C dX10_mended_248 (by decide) (fun h248_75 => ?_) (fun h248_75 => ?_)
                · skip
                  have rr77 : v68.toInt ≥ v75.toInt := by simp only [z32lt, z32le, z32eq] at h248_75; omega
                  refine z_aload_n (pc := 256) C dX10_mended_256 rfl ?_
                  refine z_getR (pc := 257) C zf_X10_37 rfl rfl (by decide) dX10_mended_257 ?_
                  refine z_iload (pc := 260) C dX10_mended_260 rfl ?_
                  refine z_iald (pc := 262) C rfl (by decide) (zIx b51x (by decide) (by decide)) dX10_mended_262 ?_
                  have kq262_77 : a137_6.toNatClampNeg = a137_6.toInt.toNat := rfl
                  refine w_gp (fun v => v = g137_ 35 0 a137_6.toNatClampNeg) rfl (fun v78 q78 => ?_)
                  have b78x : zB v78 0 20000 := by rw [q78]; exact (hI137_ 35 0 a137_6.toNatClampNeg)
                  have kw263_78 : a137_6.toNatClampNeg = a137_6.toInt.toNat := rfl
                  refine z_iast (pc := 263) C rfl (by decide) (zIx b51x (by decide) (by decide)) dX10_mended_263 ?_
                  refine w_memx hI137_ hF137_ b78x rfl (fun g79 qm79 hI79 hF79 hq79 hx79 => ?_)
                  have ek79_25_0_4 : (g79 25 0 4).toInt = (g137_ 25 0 4).toInt := by rw [hq79 25 0 4 (by omega)]
                  have c79_25_0_4x : zB (g79 25 0 4) 1 12 := by rw [hq79 25 0 4 (by omega)]; exact f137_25_0_4
                  refine z_iinc (pc := 264) (v := 1) C dX10_mended_264 rfl (by decide) (by rw [hn]; decide) rfl ?_
                  obtain ⟨v80, hv80, e80⟩ : ∃ v : Int32, v = a137_6 + 1 ∧ v.toInt = a137_6.toInt + 1 := ⟨_, rfl, zadd_eb b51x (zB.of (x := 1) 1 (by decide)) (by decide) (by decide)⟩
                  rw [← hv80]
                  have b80x : zB v80 1 12 := by have q9 := b51x; constructor <;> omega
                  refine z_goto (pc := 267) 137 C dX10_mended_267 (by decide) ?_
                  refine w_mask [7, 8] ?_
                  exact ih3 b137_1 b137_2 a137_3 b137_3 a137_4 b137_4 a137_5 b137_5 v80 (zB.wk (a' := 0) (b' := 12) b80x (by decide) (by decide)) g79 hI79 hF79 c79_25_0_4x (by
                                                                                          have hn : (v80).toInt.toNat = a137_6.toInt.toNat + 1 := by omega
                                                                                          have hq4 : a137_4.toNatClampNeg = a137_4.toInt.toNat := rfl
                                                                                          have hq6 : a137_6.toNatClampNeg = a137_6.toInt.toNat := rfl
                                                                                          have k25 : g137_ 25 0 = f 25 0 := funext (fun j => hF137_ 25 0 j rfl)
                                                                                          have k26 : g137_ 26 0 = f 26 0 := funext (fun j => hF137_ 26 0 j rfl)
                                                                                          have k27 : g137_ 27 0 = f 27 0 := funext (fun j => hF137_ 27 0 j rfl)
                                                                                          have k28 : g137_ 28 0 = f 28 0 := funext (fun j => hF137_ 28 0 j rfl)
                                                                                          have k30 : g137_ 30 0 = f 30 0 := funext (fun j => hF137_ 30 0 j rfl)
                                                                                          have s4 : (g137_ 35 0 a137_4.toInt.toNat).toInt = zrd (zFm f a2.toInt.toNat) (zWm_ f a2.toInt.toNat) (f 25 0 4).toInt.toNat (zCm f a2.toInt.toNat a137_3.toInt.toNat) a137_4.toInt.toNat a137_4.toInt.toNat := by
                                                                                            rw [hR137_0 _ (by omega)]
                                                                                            exact zrx_n (fun h => by have h2 := h.2.2; have h3 := zWm_0 f a2.toInt.toNat a137_4.toInt.toNat; omega)
                                                                                          have s6 : (g137_ 35 0 a137_6.toInt.toNat).toInt = zrd (zFm f a2.toInt.toNat) (zWm_ f a2.toInt.toNat) (f 25 0 4).toInt.toNat (zCm f a2.toInt.toNat a137_3.toInt.toNat) a137_4.toInt.toNat a137_6.toInt.toNat := by
                                                                                            rw [hR137_0 _ (by omega)]
                                                                                            exact zrx_n (fun h => absurd h.1 (Nat.lt_irrefl _))
                                                                                          have x174 : (v58).toNatClampNeg = 8 * a137_4.toInt.toNat + 2 := by omega
                                                                                          have r174 := q59
                                                                                          rw [x174, k28] at r174
                                                                                          have e178 : v60 = f 28 0 (8 * a137_4.toInt.toNat + 7) &&& 1 := by rw [q60, hR137_1]
                                                                                          have e182 : v61 = f 28 0 (8 * a137_4.toInt.toNat + 7) &&& 4 := by rw [q61, hR137_1]
                                                                                          have ho : zom f a137_4.toInt.toNat = -4 := by
                                                                                            unfold zom
                                                                                            rw [if_neg (show ¬ ¬ f 28 0 (8 * a137_4.toInt.toNat + 7) &&& 4 = 0 from fun h => h (by rw [← e182]; assumption))]
                                                                                          have hc := hp64_0
                                                                                          rw [zfm_k k25 k26 k27 k28, r174, e178, ← ho] at hc
                                                                                          have hs := hp66_0
                                                                                          rw [zsr_k k25 k26 k27 k28 k30] at hs
                                                                                          have hon := hp67_0
                                                                                          rw [hs] at hon
                                                                                          have hw : zWm_ f a2.toInt.toNat a137_6.toInt.toNat = (zpn (zsr f a137_6.toInt.toNat a2.toInt.toNat) : Int) := rfl
                                                                                          have r214 : (v65).toInt = zrd (zFm f a2.toInt.toNat) (zWm_ f a2.toInt.toNat) (f 25 0 4).toInt.toNat (zCm f a2.toInt.toNat a137_3.toInt.toNat) a137_4.toInt.toNat a137_4.toInt.toNat := by
                                                                                            have h := q65
                                                                                            rw [hq4] at h
                                                                                            rw [h]; exact s4
                                                                                          have r247 : (v75).toInt = zrd (zFm f a2.toInt.toNat) (zWm_ f a2.toInt.toNat) (f 25 0 4).toInt.toNat (zCm f a2.toInt.toNat a137_3.toInt.toNat) a137_4.toInt.toNat a137_6.toInt.toNat := by
                                                                                            have h := q75
                                                                                            rw [hq6] at h
                                                                                            rw [h]; exact s6
                                                                                          have r262 : (v78).toInt = zrd (zFm f a2.toInt.toNat) (zWm_ f a2.toInt.toNat) (f 25 0 4).toInt.toNat (zCm f a2.toInt.toNat a137_3.toInt.toNat) a137_4.toInt.toNat a137_6.toInt.toNat := by
                                                                                            have h := q78
                                                                                            rw [hq6] at h
                                                                                            rw [h]; exact s6
                                                                                          intro j hj
                                                                                          rw [hn]
                                                                                          by_cases e : j = a137_6.toInt.toNat
                                                                                          · subst e
                                                                                            rw [qm79, hq6, zup_same]
                                                                                            rw [zrx_n (fun h => by have h2 := h.2.2; rw [hw] at h2; omega)]; exact r262
                                                                                          · rw [qm79, zup_ne _ _ (by omega), hR137_0 j hj, zrx_o e]) (by exact hR137_1) (by exact hR137_2) (by exact hR137_3) (by omega) (by omega) (by omega) (by omega) (by omega)
                · skip
                  have rr81 : v68.toInt < v75.toInt := by simp only [z32lt, z32le, z32eq] at h248_75; omega
                  have b82x : zB v68 0 19999 := by have q1 := b68x; have q2 := b75x; simp only [z32lt, z32le, z32eq, Int32.reduceToInt, Int32.toInt_zero] at h248_75; constructor <;> omega
                  have b83x : zB v75 1 20000 := by have q1 := b68x; have q2 := b75x; simp only [z32lt, z32le, z32eq, Int32.reduceToInt, Int32.toInt_zero] at h248_75; constructor <;> omega
                  refine z_iload (pc := 251) C dX10_mended_251 rfl ?_
                  refine z_goto (pc := 253) 263 C dX10_mended_253 (by decide) ?_
                  have kw263_83 : a137_6.toNatClampNeg = a137_6.toInt.toNat := rfl
                  refine z_iast (pc := 263) C rfl (by decide) (zIx b51x (by decide) (by decide)) dX10_mended_263 ?_
                  refine w_memx hI137_ hF137_ (zB.wk (a' := 0) (b' := 20000) b82x (by decide) (by decide)) rfl (fun g84 qm84 hI84 hF84 hq84 hx84 => ?_)
                  have ek84_25_0_4 : (g84 25 0 4).toInt = (g137_ 25 0 4).toInt := by rw [hq84 25 0 4 (by omega)]
                  have c84_25_0_4x : zB (g84 25 0 4) 1 12 := by rw [hq84 25 0 4 (by omega)]; exact f137_25_0_4
                  refine z_iinc (pc := 264) (v := 1) C dX10_mended_264 rfl (by decide) (by rw [hn]; decide) rfl ?_
                  obtain ⟨v85, hv85, e85⟩ : ∃ v : Int32, v = a137_6 + 1 ∧ v.toInt = a137_6.toInt + 1 := ⟨_, rfl, zadd_eb b51x (zB.of (x := 1) 1 (by decide)) (by decide) (by decide)⟩
                  rw [← hv85]
                  have b85x : zB v85 1 12 := by have q9 := b51x; constructor <;> omega
                  refine z_goto (pc := 267) 137 C dX10_mended_267 (by decide) ?_
                  refine w_mask [7, 8] ?_
                  exact ih3 b137_1 b137_2 a137_3 b137_3 a137_4 b137_4 a137_5 b137_5 v85 (zB.wk (a' := 0) (b' := 12) b85x (by decide) (by decide)) g84 hI84 hF84 c84_25_0_4x (by
                                                                                          have hn : (v85).toInt.toNat = a137_6.toInt.toNat + 1 := by omega
                                                                                          have hq4 : a137_4.toNatClampNeg = a137_4.toInt.toNat := rfl
                                                                                          have hq6 : a137_6.toNatClampNeg = a137_6.toInt.toNat := rfl
                                                                                          have k25 : g137_ 25 0 = f 25 0 := funext (fun j => hF137_ 25 0 j rfl)
                                                                                          have k26 : g137_ 26 0 = f 26 0 := funext (fun j => hF137_ 26 0 j rfl)
                                                                                          have k27 : g137_ 27 0 = f 27 0 := funext (fun j => hF137_ 27 0 j rfl)
                                                                                          have k28 : g137_ 28 0 = f 28 0 := funext (fun j => hF137_ 28 0 j rfl)
                                                                                          have k30 : g137_ 30 0 = f 30 0 := funext (fun j => hF137_ 30 0 j rfl)
                                                                                          have s4 : (g137_ 35 0 a137_4.toInt.toNat).toInt = zrd (zFm f a2.toInt.toNat) (zWm_ f a2.toInt.toNat) (f 25 0 4).toInt.toNat (zCm f a2.toInt.toNat a137_3.toInt.toNat) a137_4.toInt.toNat a137_4.toInt.toNat := by
                                                                                            rw [hR137_0 _ (by omega)]
                                                                                            exact zrx_n (fun h => by have h2 := h.2.2; have h3 := zWm_0 f a2.toInt.toNat a137_4.toInt.toNat; omega)
                                                                                          have s6 : (g137_ 35 0 a137_6.toInt.toNat).toInt = zrd (zFm f a2.toInt.toNat) (zWm_ f a2.toInt.toNat) (f 25 0 4).toInt.toNat (zCm f a2.toInt.toNat a137_3.toInt.toNat) a137_4.toInt.toNat a137_6.toInt.toNat := by
                                                                                            rw [hR137_0 _ (by omega)]
                                                                                            exact zrx_n (fun h => absurd h.1 (Nat.lt_irrefl _))
                                                                                          have x174 : (v58).toNatClampNeg = 8 * a137_4.toInt.toNat + 2 := by omega
                                                                                          have r174 := q59
                                                                                          rw [x174, k28] at r174
                                                                                          have e178 : v60 = f 28 0 (8 * a137_4.toInt.toNat + 7) &&& 1 := by rw [q60, hR137_1]
                                                                                          have e182 : v61 = f 28 0 (8 * a137_4.toInt.toNat + 7) &&& 4 := by rw [q61, hR137_1]
                                                                                          have ho : zom f a137_4.toInt.toNat = -4 := by
                                                                                            unfold zom
                                                                                            rw [if_neg (show ¬ ¬ f 28 0 (8 * a137_4.toInt.toNat + 7) &&& 4 = 0 from fun h => h (by rw [← e182]; assumption))]
                                                                                          have hc := hp64_0
                                                                                          rw [zfm_k k25 k26 k27 k28, r174, e178, ← ho] at hc
                                                                                          have hs := hp66_0
                                                                                          rw [zsr_k k25 k26 k27 k28 k30] at hs
                                                                                          have hon := hp67_0
                                                                                          rw [hs] at hon
                                                                                          have hw : zWm_ f a2.toInt.toNat a137_6.toInt.toNat = (zpn (zsr f a137_6.toInt.toNat a2.toInt.toNat) : Int) := rfl
                                                                                          have r214 : (v65).toInt = zrd (zFm f a2.toInt.toNat) (zWm_ f a2.toInt.toNat) (f 25 0 4).toInt.toNat (zCm f a2.toInt.toNat a137_3.toInt.toNat) a137_4.toInt.toNat a137_4.toInt.toNat := by
                                                                                            have h := q65
                                                                                            rw [hq4] at h
                                                                                            rw [h]; exact s4
                                                                                          have r247 : (v75).toInt = zrd (zFm f a2.toInt.toNat) (zWm_ f a2.toInt.toNat) (f 25 0 4).toInt.toNat (zCm f a2.toInt.toNat a137_3.toInt.toNat) a137_4.toInt.toNat a137_6.toInt.toNat := by
                                                                                            have h := q75
                                                                                            rw [hq6] at h
                                                                                            rw [h]; exact s6
                                                                                          intro j hj
                                                                                          rw [hn]
                                                                                          by_cases e : j = a137_6.toInt.toNat
                                                                                          · subst e
                                                                                            rw [qm84, hq6, zup_same]
                                                                                            rw [zrx_y ⟨by omega, zbo_y hc (by omega), by rw [hw]; omega⟩, hw]; omega
                                                                                          · rw [qm84, zup_ne _ _ (by omega), hR137_0 j hj, zrx_o e]) (by exact hR137_1) (by exact hR137_2) (by exact hR137_3) (by omega) (by omega) (by omega) (by omega) (by omega)
            · skip
              have b86x : zB v61 1 4 := by have q1 := b61x; have q2 := (zB.of (x := 0) 0 (by decide)); simp only [z32lt, z32le, z32eq, Int32.reduceToInt, Int32.toInt_zero] at h183_61; constructor <;> omega
              refine z_aload_n (pc := 186) C dX10_mended_186 rfl ?_
              refine z_getR (pc := 187) C zf_X10_16 rfl rfl (by decide) dX10_mended_187 ?_
              refine z_bipush (pc := 190) (v := 8) C dX10_mended_190 (by decide) ?_
              refine z_iload (pc := 192) C dX10_mended_192 rfl ?_
              refine z_imul (pc := 194) C dX10_mended_194 ?_
              refine w_gp (fun v => v = (8 : Int32) * a137_4) rfl (fun v87 q87 => ?_)
              have e87 : v87.toInt = 8 * a137_4.toInt := by rw [q87]; exact (zmul_kb 8 (by decide) (by decide) b137_4 (by decide) (by decide))
              have b87x : zB v87 0 88 := zmul_bb e87 (by decide) b137_4
              refine z_iconst (pc := 195) (v := 1) C dX10_mended_195 (by decide) ?_
              refine z_iadd (pc := 196) C dX10_mended_196 ?_
              refine w_gp (fun v => v = v87 + (1 : Int32)) rfl (fun v88 q88 => ?_)
              have e88 : v88.toInt = v87.toInt + 1 := by rw [q88]; exact (zadd_eb b87x (zB.of (x := 1) 1 (by decide)) (by decide) (by decide))
              have b88x : zB v88 1 89 := by have q1 := b87x; have q2 := (zB.of (x := 1) 1 (by decide)); constructor <;> omega
              refine z_iald (pc := 197) C rfl (by decide) (zIx b88x (by decide) (by decide)) dX10_mended_197 ?_
              have kq197_88 : v88.toNatClampNeg = v88.toInt.toNat := rfl
              refine w_gp (fun v => v = g137_ 28 0 v88.toNatClampNeg) rfl (fun v89 q89 => ?_)
              have b89x : zB v89 0 5 := by rw [q89]; exact (by have hq9 := hI137_ 28 0 v88.toNatClampNeg; rw [zrg28 (r := 1) (by have hq : v88.toNatClampNeg = v88.toInt.toNat := rfl; have hq2 := b88x; omega)] at hq9; exact hq9)
              refine z_goto (pc := 198) 203 C dX10_mended_198 (by decide) ?_
              refine z_callV (pc := 203) C zk_X10_197 (x_X10_canFollow _ _ a137_6 b51x a2 b137_2 v59 b59x v60 b60x v89 (zB.wk (a' := (-4)) (b' := 5) b89x (by decide) (by decide)) hI137_) rfl rfl (by decide) rfl rfl (Nat.le_of_ble_eq_true rfl) dX10_mended_203 (fun r90 g90 q90 => ?_)
              obtain ⟨⟨v90, rfl, b90x⟩, hI90, hF90q, hp90_0⟩ := q90
              have hp90_0 := hp90_0 _ rfl
              obtain rfl := zFr_nil hF90q
              simp only [Option.toList, List.cons_append, List.nil_append]
              refine z_istore (pc := 206) C dX10_mended_206 (by rw [hn]; decide) rfl ?_
              refine z_aload_n (pc := 208) C dX10_mended_208 rfl ?_
              refine z_getR (pc := 209) C zf_X10_37 rfl rfl (by decide) dX10_mended_209 ?_
              refine z_iload (pc := 212) C dX10_mended_212 rfl ?_
              refine z_iald (pc := 214) C rfl (by decide) (zIx b137_4 (by decide) (by decide)) dX10_mended_214 ?_
              have kq214_90 : a137_4.toNatClampNeg = a137_4.toInt.toNat := rfl
              refine w_gp (fun v => v = g137_ 35 0 a137_4.toNatClampNeg) rfl (fun v91 q91 => ?_)
              have b91x : zB v91 0 20000 := by rw [q91]; exact (hI137_ 35 0 a137_4.toNatClampNeg)
              refine z_aload_n (pc := 215) C dX10_mended_215 rfl ?_
              refine z_iload (pc := 216) C dX10_mended_216 rfl ?_
              refine z_iload_n (pc := 218) C dX10_mended_218 rfl ?_
              refine z_callV (pc := 219) C zk_X10_141 (x_X10_standing _ _ a137_6 b51x a2 b137_2 hI137_) rfl rfl (by decide) rfl rfl (Nat.le_of_ble_eq_true rfl) dX10_mended_219 (fun r92 g92 q92 => ?_)
              obtain ⟨⟨v92, rfl, b92x⟩, hI92, hF92q, hp92_0⟩ := q92
              have hp92_0 := hp92_0 _ rfl
              obtain rfl := zFr_nil hF92q
              simp only [Option.toList, List.cons_append, List.nil_append]
              refine z_callS (pc := 222) C zk_X10_194 (x_X10_ones _ _ v92 b92x hI137_) rfl rfl (Nat.le_of_ble_eq_true rfl) dX10_mended_222 (fun r93 g93 q93 => ?_)
              obtain ⟨⟨v93, rfl, b93x⟩, hI93, hF93q, hp93_0⟩ := q93
              have hp93_0 := hp93_0 _ rfl
              obtain rfl := zFr_nil hF93q
              simp only [Option.toList, List.cons_append, List.nil_append]
              refine z_iadd (pc := 225) C dX10_mended_225 ?_
              refine w_gp (fun v => v = v91 + v93) rfl (fun v94 q94 => ?_)
              have e94 : v94.toInt = v91.toInt + v93.toInt := by rw [q94]; exact (zadd_eb b91x b93x (by decide) (by decide))
              have b94x : zB v94 0 20063 := by have q1 := b91x; have q2 := b93x; constructor <;> omega
              refine z_istore (pc := 226) C dX10_mended_226 (by rw [hn]; decide) rfl ?_
              refine z_aload_n (pc := 228) C dX10_mended_228 rfl ?_
              refine z_getR (pc := 229) C zf_X10_37 rfl rfl (by decide) dX10_mended_229 ?_
              refine z_iload (pc := 232) C dX10_mended_232 rfl ?_
              refine z_iload (pc := 234) C dX10_mended_234 rfl ?_
              refine z_if_eq (pc := 236) 256 C dX10_mended_236 (by decide) (fun h236_94 => ?_) (fun h236_94 => ?_)
              · skip
                have b96x : zB v90 0 0 := by have q1 := b90x; have q2 := (zB.of (x := 0) 0 (by decide)); simp only [z32lt, z32le, z32eq, Int32.reduceToInt, Int32.toInt_zero] at h236_94; constructor <;> omega
                refine z_aload_n (pc := 256) C dX10_mended_256 rfl ?_
                refine z_getR (pc := 257) C zf_X10_37 rfl rfl (by decide) dX10_mended_257 ?_
                refine z_iload (pc := 260) C dX10_mended_260 rfl ?_
                refine z_iald (pc := 262) C rfl (by decide) (zIx b51x (by decide) (by decide)) dX10_mended_262 ?_
                have kq262_96 : a137_6.toNatClampNeg = a137_6.toInt.toNat := rfl
                refine w_gp (fun v => v = g137_ 35 0 a137_6.toNatClampNeg) rfl (fun v97 q97 => ?_)
                have b97x : zB v97 0 20000 := by rw [q97]; exact (hI137_ 35 0 a137_6.toNatClampNeg)
                have kw263_97 : a137_6.toNatClampNeg = a137_6.toInt.toNat := rfl
                refine z_iast (pc := 263) C rfl (by decide) (zIx b51x (by decide) (by decide)) dX10_mended_263 ?_
                refine w_memx hI137_ hF137_ b97x rfl (fun g98 qm98 hI98 hF98 hq98 hx98 => ?_)
                have ek98_25_0_4 : (g98 25 0 4).toInt = (g137_ 25 0 4).toInt := by rw [hq98 25 0 4 (by omega)]
                have c98_25_0_4x : zB (g98 25 0 4) 1 12 := by rw [hq98 25 0 4 (by omega)]; exact f137_25_0_4
                refine z_iinc (pc := 264) (v := 1) C dX10_mended_264 rfl (by decide) (by rw [hn]; decide) rfl ?_
                obtain ⟨v99, hv99, e99⟩ : ∃ v : Int32, v = a137_6 + 1 ∧ v.toInt = a137_6.toInt + 1 := ⟨_, rfl, zadd_eb b51x (zB.of (x := 1) 1 (by decide)) (by decide) (by decide)⟩
                rw [← hv99]
                have b99x : zB v99 1 12 := by have q9 := b51x; constructor <;> omega
                refine z_goto (pc := 267) 137 C dX10_mended_267 (by decide) ?_
                refine w_mask [7, 8] ?_
                exact ih3 b137_1 b137_2 a137_3 b137_3 a137_4 b137_4 a137_5 b137_5 v99 (zB.wk (a' := 0) (b' := 12) b99x (by decide) (by decide)) g98 hI98 hF98 c98_25_0_4x (by
                                                                                          have hn : (v99).toInt.toNat = a137_6.toInt.toNat + 1 := by omega
                                                                                          have hq4 : a137_4.toNatClampNeg = a137_4.toInt.toNat := rfl
                                                                                          have hq6 : a137_6.toNatClampNeg = a137_6.toInt.toNat := rfl
                                                                                          have k25 : g137_ 25 0 = f 25 0 := funext (fun j => hF137_ 25 0 j rfl)
                                                                                          have k26 : g137_ 26 0 = f 26 0 := funext (fun j => hF137_ 26 0 j rfl)
                                                                                          have k27 : g137_ 27 0 = f 27 0 := funext (fun j => hF137_ 27 0 j rfl)
                                                                                          have k28 : g137_ 28 0 = f 28 0 := funext (fun j => hF137_ 28 0 j rfl)
                                                                                          have k30 : g137_ 30 0 = f 30 0 := funext (fun j => hF137_ 30 0 j rfl)
                                                                                          have s4 : (g137_ 35 0 a137_4.toInt.toNat).toInt = zrd (zFm f a2.toInt.toNat) (zWm_ f a2.toInt.toNat) (f 25 0 4).toInt.toNat (zCm f a2.toInt.toNat a137_3.toInt.toNat) a137_4.toInt.toNat a137_4.toInt.toNat := by
                                                                                            rw [hR137_0 _ (by omega)]
                                                                                            exact zrx_n (fun h => by have h2 := h.2.2; have h3 := zWm_0 f a2.toInt.toNat a137_4.toInt.toNat; omega)
                                                                                          have s6 : (g137_ 35 0 a137_6.toInt.toNat).toInt = zrd (zFm f a2.toInt.toNat) (zWm_ f a2.toInt.toNat) (f 25 0 4).toInt.toNat (zCm f a2.toInt.toNat a137_3.toInt.toNat) a137_4.toInt.toNat a137_6.toInt.toNat := by
                                                                                            rw [hR137_0 _ (by omega)]
                                                                                            exact zrx_n (fun h => absurd h.1 (Nat.lt_irrefl _))
                                                                                          have x174 : (v58).toNatClampNeg = 8 * a137_4.toInt.toNat + 2 := by omega
                                                                                          have r174 := q59
                                                                                          rw [x174, k28] at r174
                                                                                          have e178 : v60 = f 28 0 (8 * a137_4.toInt.toNat + 7) &&& 1 := by rw [q60, hR137_1]
                                                                                          have e182 : v61 = f 28 0 (8 * a137_4.toInt.toNat + 7) &&& 4 := by rw [q61, hR137_1]
                                                                                          have x197 : (v88).toNatClampNeg = 8 * a137_4.toInt.toNat + 1 := by omega
                                                                                          have r197 := q89
                                                                                          rw [x197, k28] at r197
                                                                                          have ho : zom f a137_4.toInt.toNat = v89 := by
                                                                                            unfold zom
                                                                                            rw [if_pos (show ¬ f 28 0 (8 * a137_4.toInt.toNat + 7) &&& 4 = 0 by rw [← e182]; assumption)]
                                                                                            exact r197.symm
                                                                                          have hc := hp90_0
                                                                                          rw [zfm_k k25 k26 k27 k28, r174, e178, ← ho] at hc
                                                                                          have hs := hp92_0
                                                                                          rw [zsr_k k25 k26 k27 k28 k30] at hs
                                                                                          have hon := hp93_0
                                                                                          rw [hs] at hon
                                                                                          have hw : zWm_ f a2.toInt.toNat a137_6.toInt.toNat = (zpn (zsr f a137_6.toInt.toNat a2.toInt.toNat) : Int) := rfl
                                                                                          have r214 : (v91).toInt = zrd (zFm f a2.toInt.toNat) (zWm_ f a2.toInt.toNat) (f 25 0 4).toInt.toNat (zCm f a2.toInt.toNat a137_3.toInt.toNat) a137_4.toInt.toNat a137_4.toInt.toNat := by
                                                                                            have h := q91
                                                                                            rw [hq4] at h
                                                                                            rw [h]; exact s4
                                                                                          have r262 : (v97).toInt = zrd (zFm f a2.toInt.toNat) (zWm_ f a2.toInt.toNat) (f 25 0 4).toInt.toNat (zCm f a2.toInt.toNat a137_3.toInt.toNat) a137_4.toInt.toNat a137_6.toInt.toNat := by
                                                                                            have h := q97
                                                                                            rw [hq6] at h
                                                                                            rw [h]; exact s6
                                                                                          intro j hj
                                                                                          rw [hn]
                                                                                          by_cases e : j = a137_6.toInt.toNat
                                                                                          · subst e
                                                                                            rw [qm98, hq6, zup_same]
                                                                                            rw [zrx_n (fun h => zbo_n hc (by omega) h.2.1)]; exact r262
                                                                                          · rw [qm98, zup_ne _ _ (by omega), hR137_0 j hj, zrx_o e]) (by exact hR137_1) (by exact hR137_2) (by exact hR137_3) (by omega) (by omega) (by omega) (by omega) (by omega)
              · skip
                have b100x : zB v90 1 1 := by have q1 := b90x; have q2 := (zB.of (x := 0) 0 (by decide)); simp only [z32lt, z32le, z32eq, Int32.reduceToInt, Int32.toInt_zero] at h236_94; constructor <;> omega
                refine z_iload (pc := 239) C dX10_mended_239 rfl ?_
                refine z_aload_n (pc := 241) C dX10_mended_241 rfl ?_
                refine z_getR (pc := 242) C zf_X10_37 rfl rfl (by decide) dX10_mended_242 ?_
                refine z_iload (pc := 245) C dX10_mended_245 rfl ?_
                refine z_iald (pc := 247) C rfl (by decide) (zIx b51x (by decide) (by decide)) dX10_mended_247 ?_
                have kq247_100 : a137_6.toNatClampNeg = a137_6.toInt.toNat := rfl
                refine w_gp (fun v => v = g137_ 35 0 a137_6.toNatClampNeg) rfl (fun v101 q101 => ?_)
                have b101x : zB v101 0 20000 := by rw [q101]; exact (hI137_ 35 0 a137_6.toNatClampNeg)
                refine z_icmp_ge (pc := 248) 256 C dX10_mended_248 (by decide) (fun h248_101 => ?_) (fun h248_101 => ?_)
                · skip
                  have rr103 : v94.toInt ≥ v101.toInt := by simp only [z32lt, z32le, z32eq] at h248_101; omega
                  refine z_aload_n (pc := 256) C dX10_mended_256 rfl ?_
                  refine z_getR (pc := 257) C zf_X10_37 rfl rfl (by decide) dX10_mended_257 ?_
                  refine z_iload (pc := 260) C dX10_mended_260 rfl ?_
                  refine z_iald (pc := 262) C rfl (by decide) (zIx b51x (by decide) (by decide)) dX10_mended_262 ?_
                  have kq262_103 : a137_6.toNatClampNeg = a137_6.toInt.toNat := rfl
                  refine w_gp (fun v => v = g137_ 35 0 a137_6.toNatClampNeg) rfl (fun v104 q104 => ?_)
                  have b104x : zB v104 0 20000 := by rw [q104]; exact (hI137_ 35 0 a137_6.toNatClampNeg)
                  have kw263_104 : a137_6.toNatClampNeg = a137_6.toInt.toNat := rfl
                  refine z_iast (pc := 263) C rfl (by decide) (zIx b51x (by decide) (by decide)) dX10_mended_263 ?_
                  refine w_memx hI137_ hF137_ b104x rfl (fun g105 qm105 hI105 hF105 hq105 hx105 => ?_)
                  have ek105_25_0_4 : (g105 25 0 4).toInt = (g137_ 25 0 4).toInt := by rw [hq105 25 0 4 (by omega)]
                  have c105_25_0_4x : zB (g105 25 0 4) 1 12 := by rw [hq105 25 0 4 (by omega)]; exact f137_25_0_4
                  refine z_iinc (pc := 264) (v := 1) C dX10_mended_264 rfl (by decide) (by rw [hn]; decide) rfl ?_
                  obtain ⟨v106, hv106, e106⟩ : ∃ v : Int32, v = a137_6 + 1 ∧ v.toInt = a137_6.toInt + 1 := ⟨_, rfl, zadd_eb b51x (zB.of (x := 1) 1 (by decide)) (by decide) (by decide)⟩
                  rw [← hv106]
                  have b106x : zB v106 1 12 := by have q9 := b51x; constructor <;> omega
                  refine z_goto (pc := 267) 137 C dX10_mended_267 (by decide) ?_
                  refine w_mask [7, 8] ?_
                  exact ih3 b137_1 b137_2 a137_3 b137_3 a137_4 b137_4 a137_5 b137_5 v106 (zB.wk (a' := 0) (b' := 12) b106x (by decide) (by decide)) g105 hI105 hF105 c105_25_0_4x (by
                                                                                          have hn : (v106).toInt.toNat = a137_6.toInt.toNat + 1 := by omega
                                                                                          have hq4 : a137_4.toNatClampNeg = a137_4.toInt.toNat := rfl
                                                                                          have hq6 : a137_6.toNatClampNeg = a137_6.toInt.toNat := rfl
                                                                                          have k25 : g137_ 25 0 = f 25 0 := funext (fun j => hF137_ 25 0 j rfl)
                                                                                          have k26 : g137_ 26 0 = f 26 0 := funext (fun j => hF137_ 26 0 j rfl)
                                                                                          have k27 : g137_ 27 0 = f 27 0 := funext (fun j => hF137_ 27 0 j rfl)
                                                                                          have k28 : g137_ 28 0 = f 28 0 := funext (fun j => hF137_ 28 0 j rfl)
                                                                                          have k30 : g137_ 30 0 = f 30 0 := funext (fun j => hF137_ 30 0 j rfl)
                                                                                          have s4 : (g137_ 35 0 a137_4.toInt.toNat).toInt = zrd (zFm f a2.toInt.toNat) (zWm_ f a2.toInt.toNat) (f 25 0 4).toInt.toNat (zCm f a2.toInt.toNat a137_3.toInt.toNat) a137_4.toInt.toNat a137_4.toInt.toNat := by
                                                                                            rw [hR137_0 _ (by omega)]
                                                                                            exact zrx_n (fun h => by have h2 := h.2.2; have h3 := zWm_0 f a2.toInt.toNat a137_4.toInt.toNat; omega)
                                                                                          have s6 : (g137_ 35 0 a137_6.toInt.toNat).toInt = zrd (zFm f a2.toInt.toNat) (zWm_ f a2.toInt.toNat) (f 25 0 4).toInt.toNat (zCm f a2.toInt.toNat a137_3.toInt.toNat) a137_4.toInt.toNat a137_6.toInt.toNat := by
                                                                                            rw [hR137_0 _ (by omega)]
                                                                                            exact zrx_n (fun h => absurd h.1 (Nat.lt_irrefl _))
                                                                                          have x174 : (v58).toNatClampNeg = 8 * a137_4.toInt.toNat + 2 := by omega
                                                                                          have r174 := q59
                                                                                          rw [x174, k28] at r174
                                                                                          have e178 : v60 = f 28 0 (8 * a137_4.toInt.toNat + 7) &&& 1 := by rw [q60, hR137_1]
                                                                                          have e182 : v61 = f 28 0 (8 * a137_4.toInt.toNat + 7) &&& 4 := by rw [q61, hR137_1]
                                                                                          have x197 : (v88).toNatClampNeg = 8 * a137_4.toInt.toNat + 1 := by omega
                                                                                          have r197 := q89
                                                                                          rw [x197, k28] at r197
                                                                                          have ho : zom f a137_4.toInt.toNat = v89 := by
                                                                                            unfold zom
                                                                                            rw [if_pos (show ¬ f 28 0 (8 * a137_4.toInt.toNat + 7) &&& 4 = 0 by rw [← e182]; assumption)]
                                                                                            exact r197.symm
                                                                                          have hc := hp90_0
                                                                                          rw [zfm_k k25 k26 k27 k28, r174, e178, ← ho] at hc
                                                                                          have hs := hp92_0
                                                                                          rw [zsr_k k25 k26 k27 k28 k30] at hs
                                                                                          have hon := hp93_0
                                                                                          rw [hs] at hon
                                                                                          have hw : zWm_ f a2.toInt.toNat a137_6.toInt.toNat = (zpn (zsr f a137_6.toInt.toNat a2.toInt.toNat) : Int) := rfl
                                                                                          have r214 : (v91).toInt = zrd (zFm f a2.toInt.toNat) (zWm_ f a2.toInt.toNat) (f 25 0 4).toInt.toNat (zCm f a2.toInt.toNat a137_3.toInt.toNat) a137_4.toInt.toNat a137_4.toInt.toNat := by
                                                                                            have h := q91
                                                                                            rw [hq4] at h
                                                                                            rw [h]; exact s4
                                                                                          have r247 : (v101).toInt = zrd (zFm f a2.toInt.toNat) (zWm_ f a2.toInt.toNat) (f 25 0 4).toInt.toNat (zCm f a2.toInt.toNat a137_3.toInt.toNat) a137_4.toInt.toNat a137_6.toInt.toNat := by
                                                                                            have h := q101
                                                                                            rw [hq6] at h
                                                                                            rw [h]; exact s6
                                                                                          have r262 : (v104).toInt = zrd (zFm f a2.toInt.toNat) (zWm_ f a2.toInt.toNat) (f 25 0 4).toInt.toNat (zCm f a2.toInt.toNat a137_3.toInt.toNat) a137_4.toInt.toNat a137_6.toInt.toNat := by
                                                                                            have h := q104
                                                                                            rw [hq6] at h
                                                                                            rw [h]; exact s6
                                                                                          intro j hj
                                                                                          rw [hn]
                                                                                          by_cases e : j = a137_6.toInt.toNat
                                                                                          · subst e
                                                                                            rw [qm105, hq6, zup_same]
                                                                                            rw [zrx_n (fun h => by have h2 := h.2.2; rw [hw] at h2; omega)]; exact r262
                                                                                          · rw [qm105, zup_ne _ _ (by omega), hR137_0 j hj, zrx_o e]) (by exact hR137_1) (by exact hR137_2) (by exact hR137_3) (by omega) (by omega) (by omega) (by omega) (by omega)
                · skip
                  have rr107 : v94.toInt < v101.toInt := by simp only [z32lt, z32le, z32eq] at h248_101; omega
                  have b108x : zB v94 0 19999 := by have q1 := b94x; have q2 := b101x; simp only [z32lt, z32le, z32eq, Int32.reduceToInt, Int32.toInt_zero] at h248_101; constructor <;> omega
                  have b109x : zB v101 1 20000 := by have q1 := b94x; have q2 := b101x; simp only [z32lt, z32le, z32eq, Int32.reduceToInt, Int32.toInt_zero] at h248_101; constructor <;> omega
                  refine z_iload (pc := 251) C dX10_mended_251 rfl ?_
                  refine z_goto (pc := 253) 263 C dX10_mended_253 (by decide) ?_
                  have kw263_109 : a137_6.toNatClampNeg = a137_6.toInt.toNat := rfl
                  refine z_iast (pc := 263) C rfl (by decide) (zIx b51x (by decide) (by decide)) dX10_mended_263 ?_
                  refine w_memx hI137_ hF137_ (zB.wk (a' := 0) (b' := 20000) b108x (by decide) (by decide)) rfl (fun g110 qm110 hI110 hF110 hq110 hx110 => ?_)
                  have ek110_25_0_4 : (g110 25 0 4).toInt = (g137_ 25 0 4).toInt := by rw [hq110 25 0 4 (by omega)]
                  have c110_25_0_4x : zB (g110 25 0 4) 1 12 := by rw [hq110 25 0 4 (by omega)]; exact f137_25_0_4
                  refine z_iinc (pc := 264) (v := 1) C dX10_mended_264 rfl (by decide) (by rw [hn]; decide) rfl ?_
                  obtain ⟨v111, hv111, e111⟩ : ∃ v : Int32, v = a137_6 + 1 ∧ v.toInt = a137_6.toInt + 1 := ⟨_, rfl, zadd_eb b51x (zB.of (x := 1) 1 (by decide)) (by decide) (by decide)⟩
                  rw [← hv111]
                  have b111x : zB v111 1 12 := by have q9 := b51x; constructor <;> omega
                  refine z_goto (pc := 267) 137 C dX10_mended_267 (by decide) ?_
                  refine w_mask [7, 8] ?_
                  exact ih3 b137_1 b137_2 a137_3 b137_3 a137_4 b137_4 a137_5 b137_5 v111 (zB.wk (a' := 0) (b' := 12) b111x (by decide) (by decide)) g110 hI110 hF110 c110_25_0_4x (by
                                                                                          have hn : (v111).toInt.toNat = a137_6.toInt.toNat + 1 := by omega
                                                                                          have hq4 : a137_4.toNatClampNeg = a137_4.toInt.toNat := rfl
                                                                                          have hq6 : a137_6.toNatClampNeg = a137_6.toInt.toNat := rfl
                                                                                          have k25 : g137_ 25 0 = f 25 0 := funext (fun j => hF137_ 25 0 j rfl)
                                                                                          have k26 : g137_ 26 0 = f 26 0 := funext (fun j => hF137_ 26 0 j rfl)
                                                                                          have k27 : g137_ 27 0 = f 27 0 := funext (fun j => hF137_ 27 0 j rfl)
                                                                                          have k28 : g137_ 28 0 = f 28 0 := funext (fun j => hF137_ 28 0 j rfl)
                                                                                          have k30 : g137_ 30 0 = f 30 0 := funext (fun j => hF137_ 30 0 j rfl)
                                                                                          have s4 : (g137_ 35 0 a137_4.toInt.toNat).toInt = zrd (zFm f a2.toInt.toNat) (zWm_ f a2.toInt.toNat) (f 25 0 4).toInt.toNat (zCm f a2.toInt.toNat a137_3.toInt.toNat) a137_4.toInt.toNat a137_4.toInt.toNat := by
                                                                                            rw [hR137_0 _ (by omega)]
                                                                                            exact zrx_n (fun h => by have h2 := h.2.2; have h3 := zWm_0 f a2.toInt.toNat a137_4.toInt.toNat; omega)
                                                                                          have s6 : (g137_ 35 0 a137_6.toInt.toNat).toInt = zrd (zFm f a2.toInt.toNat) (zWm_ f a2.toInt.toNat) (f 25 0 4).toInt.toNat (zCm f a2.toInt.toNat a137_3.toInt.toNat) a137_4.toInt.toNat a137_6.toInt.toNat := by
                                                                                            rw [hR137_0 _ (by omega)]
                                                                                            exact zrx_n (fun h => absurd h.1 (Nat.lt_irrefl _))
                                                                                          have x174 : (v58).toNatClampNeg = 8 * a137_4.toInt.toNat + 2 := by omega
                                                                                          have r174 := q59
                                                                                          rw [x174, k28] at r174
                                                                                          have e178 : v60 = f 28 0 (8 * a137_4.toInt.toNat + 7) &&& 1 := by rw [q60, hR137_1]
                                                                                          have e182 : v61 = f 28 0 (8 * a137_4.toInt.toNat + 7) &&& 4 := by rw [q61, hR137_1]
                                                                                          have x197 : (v88).toNatClampNeg = 8 * a137_4.toInt.toNat + 1 := by omega
                                                                                          have r197 := q89
                                                                                          rw [x197, k28] at r197
                                                                                          have ho : zom f a137_4.toInt.toNat = v89 := by
                                                                                            unfold zom
                                                                                            rw [if_pos (show ¬ f 28 0 (8 * a137_4.toInt.toNat + 7) &&& 4 = 0 by rw [← e182]; assumption)]
                                                                                            exact r197.symm
                                                                                          have hc := hp90_0
                                                                                          rw [zfm_k k25 k26 k27 k28, r174, e178, ← ho] at hc
                                                                                          have hs := hp92_0
                                                                                          rw [zsr_k k25 k26 k27 k28 k30] at hs
                                                                                          have hon := hp93_0
                                                                                          rw [hs] at hon
                                                                                          have hw : zWm_ f a2.toInt.toNat a137_6.toInt.toNat = (zpn (zsr f a137_6.toInt.toNat a2.toInt.toNat) : Int) := rfl
                                                                                          have r214 : (v91).toInt = zrd (zFm f a2.toInt.toNat) (zWm_ f a2.toInt.toNat) (f 25 0 4).toInt.toNat (zCm f a2.toInt.toNat a137_3.toInt.toNat) a137_4.toInt.toNat a137_4.toInt.toNat := by
                                                                                            have h := q91
                                                                                            rw [hq4] at h
                                                                                            rw [h]; exact s4
                                                                                          have r247 : (v101).toInt = zrd (zFm f a2.toInt.toNat) (zWm_ f a2.toInt.toNat) (f 25 0 4).toInt.toNat (zCm f a2.toInt.toNat a137_3.toInt.toNat) a137_4.toInt.toNat a137_6.toInt.toNat := by
                                                                                            have h := q101
                                                                                            rw [hq6] at h
                                                                                            rw [h]; exact s6
                                                                                          intro j hj
                                                                                          rw [hn]
                                                                                          by_cases e : j = a137_6.toInt.toNat
                                                                                          · subst e
                                                                                            rw [qm110, hq6, zup_same]
                                                                                            rw [zrx_y ⟨by omega, zbo_y hc (by omega), by rw [hw]; omega⟩, hw]; omega
                                                                                          · rw [qm110, zup_ne _ _ (by omega), hR137_0 j hj, zrx_o e]) (by exact hR137_1) (by exact hR137_2) (by exact hR137_3) (by omega) (by omega) (by omega) (by omega) (by omega)
      · skip
        intro b318_1 b318_2 a318_3 b318_3 a318_4 b318_4 g318_ hI318_ hF318_ f318_25_0_4 hR318_0 hR318_1 hR318_2 hR318_3 hR318_4 hR318_5 hR318_6 hM318_
        refine z_iload (pc := 318) C dX10_mended_318 rfl ?_
        refine z_aload_n (pc := 320) C dX10_mended_320 rfl ?_
        refine z_getI (pc := 321) C zf_X10_77 rfl rfl (by decide) dX10_mended_321 ?_
        refine w_gp (fun v => v = g318_ 25 0 4) rfl (fun v112 q112 => ?_)
        have e112 : v112.toInt = (g318_ 25 0 4).toInt := by rw [q112]
        have b112x : zB v112 0 12 := by first | exact zB.eqv e112 f318_25_0_4 | (have q9 := f318_25_0_4; constructor <;> omega)
        refine z_icmp_ge (pc := 324) 372 C dX10_mended_324 (by decide) (fun h324_112 => ?_) (fun h324_112 => ?_)
        · skip
          have rr114 : a318_4.toInt ≥ v112.toInt := by simp only [z32lt, z32le, z32eq] at h324_112; omega
          refine z_iload_n (pc := 372) C dX10_mended_372 rfl ?_
          refine z_sipush (pc := 373) (v := 9999) C dX10_mended_373 (by decide) ?_
          refine z_icmp_ge (pc := 376) 383 C dX10_mended_376 (by decide) (fun h376_114 => ?_) (fun h376_114 => ?_)
          · skip
            have b116x : zB a318_3 9999 20000 := by have q1 := b318_3; have q2 := (zB.of (x := 9999) 9999 (by decide)); simp only [z32lt, z32le, z32eq, Int32.reduceToInt, Int32.toInt_zero] at h376_114; constructor <;> omega
            refine z_bipush (pc := 383) (v := -4) C dX10_mended_383 (by decide) ?_
            exact z_iret (pc := 385) C hr dX10_mended_385 ⟨⟨_, rfl, (zB.wk (a' := (-4)) (b' := 9998) (zB.of (x := (-4)) (-4) (by decide)) (by decide) (by decide))⟩, hI318_, hF318_, (by
                                                                                          intro v hv; cases hv
                                                                                          have hk : (f 25 0 4).toInt.toNat = a318_4.toInt.toNat := by omega
                                                                                          have h2 := hR318_1
                                                                                          rw [← hk] at h2
                                                                                          first
                                                                                            | exact Or.inr ⟨hR318_3, Or.inr (Or.inr (Or.inl ⟨hR318_4, hR318_2, by omega, h2⟩))⟩
                                                                                            | exact Or.inr ⟨hR318_3, Or.inr (Or.inr (Or.inr ⟨hR318_4, hR318_2, by omega, rfl⟩))⟩)⟩
          · skip
            have b117x : zB a318_3 0 9998 := by have q1 := b318_3; have q2 := (zB.of (x := 9999) 9999 (by decide)); simp only [z32lt, z32le, z32eq, Int32.reduceToInt, Int32.toInt_zero] at h376_114; constructor <;> omega
            refine z_iload_n (pc := 379) C dX10_mended_379 rfl ?_
            refine z_goto (pc := 380) 385 C dX10_mended_380 (by decide) ?_
            exact z_iret (pc := 385) C hr dX10_mended_385 ⟨⟨_, rfl, (zB.wk (a' := (-4)) (b' := 9998) b117x (by decide) (by decide))⟩, hI318_, hF318_, (by
                                                                                          intro v hv; cases hv
                                                                                          have hk : (f 25 0 4).toInt.toNat = a318_4.toInt.toNat := by omega
                                                                                          have h2 := hR318_1
                                                                                          rw [← hk] at h2
                                                                                          first
                                                                                            | exact Or.inr ⟨hR318_3, Or.inr (Or.inr (Or.inl ⟨hR318_4, hR318_2, by omega, h2⟩))⟩
                                                                                            | exact Or.inr ⟨hR318_3, Or.inr (Or.inr (Or.inr ⟨hR318_4, hR318_2, by omega, rfl⟩))⟩)⟩
        · skip
          have rr118 : a318_4.toInt < v112.toInt := by simp only [z32lt, z32le, z32eq] at h324_112; omega
          have b119x : zB a318_4 0 11 := by have q1 := b318_4; have q2 := b112x; simp only [z32lt, z32le, z32eq, Int32.reduceToInt, Int32.toInt_zero] at h324_112; constructor <;> omega
          have b120x : zB v112 1 12 := by have q1 := b318_4; have q2 := b112x; simp only [z32lt, z32le, z32eq, Int32.reduceToInt, Int32.toInt_zero] at h324_112; constructor <;> omega
          have c121x : zB (g318_ 25 0 4) 1 12 := by first | assumption | (constructor <;> omega)
          refine z_aload_n (pc := 327) C dX10_mended_327 rfl ?_
          refine z_getR (pc := 328) C zf_X10_16 rfl rfl (by decide) dX10_mended_328 ?_
          refine z_bipush (pc := 331) (v := 8) C dX10_mended_331 (by decide) ?_
          refine z_iload (pc := 333) C dX10_mended_333 rfl ?_
          refine z_imul (pc := 335) C dX10_mended_335 ?_
          refine w_gp (fun v => v = (8 : Int32) * a318_4) rfl (fun v122 q122 => ?_)
          have e122 : v122.toInt = 8 * a318_4.toInt := by rw [q122]; exact (zmul_kb 8 (by decide) (by decide) b119x (by decide) (by decide))
          have b122x : zB v122 0 88 := zmul_bb e122 (by decide) b119x
          refine z_iconst (pc := 336) (v := 2) C dX10_mended_336 (by decide) ?_
          refine z_iadd (pc := 337) C dX10_mended_337 ?_
          refine w_gp (fun v => v = v122 + (2 : Int32)) rfl (fun v123 q123 => ?_)
          have e123 : v123.toInt = v122.toInt + 2 := by rw [q123]; exact (zadd_eb b122x (zB.of (x := 2) 2 (by decide)) (by decide) (by decide))
          have b123x : zB v123 2 90 := by have q1 := b122x; have q2 := (zB.of (x := 2) 2 (by decide)); constructor <;> omega
          refine z_iald (pc := 338) C rfl (by decide) (zIx b123x (by decide) (by decide)) dX10_mended_338 ?_
          have kq338_123 : v123.toNatClampNeg = v123.toInt.toNat := rfl
          refine w_gp (fun v => v = g318_ 28 0 v123.toNatClampNeg) rfl (fun v124 q124 => ?_)
          have b124x : zB v124 0 5 := by rw [q124]; exact (by have hq9 := hI318_ 28 0 v123.toNatClampNeg; rw [zrg28 (r := 2) (by have hq : v123.toNatClampNeg = v123.toInt.toNat := rfl; have hq2 := b123x; omega)] at hq9; exact hq9)
          refine z_iload_n (pc := 339) C dX10_mended_339 rfl ?_
          refine z_icmp_ne (pc := 340) 364 C dX10_mended_340 (by decide) (fun h340_124 => ?_) (fun h340_124 => ?_)
          · skip
            refine z_iload_n (pc := 364) C dX10_mended_364 rfl ?_
            refine z_istore_n (pc := 365) C dX10_mended_365 (by rw [hn]; decide) rfl ?_
            refine z_iinc (pc := 366) (v := 1) C dX10_mended_366 rfl (by decide) (by rw [hn]; decide) rfl ?_
            obtain ⟨v126, hv126, e126⟩ : ∃ v : Int32, v = a318_4 + 1 ∧ v.toInt = a318_4.toInt + 1 := ⟨_, rfl, zadd_eb b119x (zB.of (x := 1) 1 (by decide)) (by decide) (by decide)⟩
            rw [← hv126]
            have b126x : zB v126 1 12 := by have q9 := b119x; constructor <;> omega
            refine z_goto (pc := 369) 318 C dX10_mended_369 (by decide) ?_
            exact ih4 b318_1 b318_2 a318_3 b318_3 v126 (zB.wk (a' := 0) (b' := 12) b126x (by decide) (by decide)) g318_ hI318_ hF318_ (zB.wk c121x (by decide) (by decide)) (by exact hR318_0) (by
                                                                                          have hn : (v126).toInt.toNat = a318_4.toInt.toNat + 1 := by omega
                                                                                          have hq4 : a318_4.toNatClampNeg = a318_4.toInt.toNat := rfl
                                                                                          have k25 : g318_ 25 0 = f 25 0 := funext (fun j => hF318_ 25 0 j rfl)
                                                                                          have k26 : g318_ 26 0 = f 26 0 := funext (fun j => hF318_ 26 0 j rfl)
                                                                                          have k27 : g318_ 27 0 = f 27 0 := funext (fun j => hF318_ 27 0 j rfl)
                                                                                          have k28 : g318_ 28 0 = f 28 0 := funext (fun j => hF318_ 28 0 j rfl)
                                                                                          have k30 : g318_ 30 0 = f 30 0 := funext (fun j => hF318_ 30 0 j rfl)
                                                                                          have x338 : (v123).toNatClampNeg = 8 * a318_4.toInt.toNat + 2 := by omega
                                                                                          have r338 := q124
                                                                                          rw [x338, k28] at r338
                                                                                          have hb : ∀ k, zBEm f a1 a2.toInt.toNat k = zmn (fun k => f 28 0 (8 * k + 2) = a1) (zCm f a2.toInt.toNat (f 25 0 4).toInt.toNat) (@ite Int (f 30 0 1 = a1) (Classical.propDecidable _) 0 9999) k := fun k => rfl
                                                                                          have h2 := hR318_1
                                                                                          rw [hb] at h2
                                                                                          rw [hn, hb]
                                                                                          rw [zmn_n (fun h => absurd (r338.trans h.1) (by assumption))]; exact h2) (by exact hR318_2) (by exact hR318_3) (by exact hR318_4) (by omega) (by omega) (by omega)
          · skip
            have rr127 : v124.toInt = a1.toInt := by simp only [z32lt, z32le, z32eq] at h340_124; omega
            refine z_aload_n (pc := 343) C dX10_mended_343 rfl ?_
            refine z_getR (pc := 344) C zf_X10_37 rfl rfl (by decide) dX10_mended_344 ?_
            refine z_iload (pc := 347) C dX10_mended_347 rfl ?_
            refine z_iald (pc := 349) C rfl (by decide) (zIx b119x (by decide) (by decide)) dX10_mended_349 ?_
            have kq349_127 : a318_4.toNatClampNeg = a318_4.toInt.toNat := rfl
            refine w_gp (fun v => v = g318_ 35 0 a318_4.toNatClampNeg) rfl (fun v128 q128 => ?_)
            have b128x : zB v128 0 20000 := by rw [q128]; exact (hI318_ 35 0 a318_4.toNatClampNeg)
            refine z_iload_n (pc := 350) C dX10_mended_350 rfl ?_
            refine z_icmp_ge (pc := 351) 364 C dX10_mended_351 (by decide) (fun h351_128 => ?_) (fun h351_128 => ?_)
            · skip
              have rr130 : v128.toInt ≥ a318_3.toInt := by simp only [z32lt, z32le, z32eq] at h351_128; omega
              refine z_iload_n (pc := 364) C dX10_mended_364 rfl ?_
              refine z_istore_n (pc := 365) C dX10_mended_365 (by rw [hn]; decide) rfl ?_
              refine z_iinc (pc := 366) (v := 1) C dX10_mended_366 rfl (by decide) (by rw [hn]; decide) rfl ?_
              obtain ⟨v131, hv131, e131⟩ : ∃ v : Int32, v = a318_4 + 1 ∧ v.toInt = a318_4.toInt + 1 := ⟨_, rfl, zadd_eb b119x (zB.of (x := 1) 1 (by decide)) (by decide) (by decide)⟩
              rw [← hv131]
              have b131x : zB v131 1 12 := by have q9 := b119x; constructor <;> omega
              refine z_goto (pc := 369) 318 C dX10_mended_369 (by decide) ?_
              exact ih4 b318_1 b318_2 a318_3 b318_3 v131 (zB.wk (a' := 0) (b' := 12) b131x (by decide) (by decide)) g318_ hI318_ hF318_ (zB.wk c121x (by decide) (by decide)) (by exact hR318_0) (by
                                                                                          have hn : (v131).toInt.toNat = a318_4.toInt.toNat + 1 := by omega
                                                                                          have hq4 : a318_4.toNatClampNeg = a318_4.toInt.toNat := rfl
                                                                                          have k25 : g318_ 25 0 = f 25 0 := funext (fun j => hF318_ 25 0 j rfl)
                                                                                          have k26 : g318_ 26 0 = f 26 0 := funext (fun j => hF318_ 26 0 j rfl)
                                                                                          have k27 : g318_ 27 0 = f 27 0 := funext (fun j => hF318_ 27 0 j rfl)
                                                                                          have k28 : g318_ 28 0 = f 28 0 := funext (fun j => hF318_ 28 0 j rfl)
                                                                                          have k30 : g318_ 30 0 = f 30 0 := funext (fun j => hF318_ 30 0 j rfl)
                                                                                          have x338 : (v123).toNatClampNeg = 8 * a318_4.toInt.toNat + 2 := by omega
                                                                                          have r338 := q124
                                                                                          rw [x338, k28] at r338
                                                                                          have hb : ∀ k, zBEm f a1 a2.toInt.toNat k = zmn (fun k => f 28 0 (8 * k + 2) = a1) (zCm f a2.toInt.toNat (f 25 0 4).toInt.toNat) (@ite Int (f 30 0 1 = a1) (Classical.propDecidable _) 0 9999) k := fun k => rfl
                                                                                          have h2 := hR318_1
                                                                                          rw [hb] at h2
                                                                                          rw [hn, hb]
                                                                                          have hl : f 28 0 (8 * a318_4.toInt.toNat + 2) = a1 := r338.symm.trans (by assumption)
                                                                                          have r349 : (v128).toInt = zCm f a2.toInt.toNat (f 25 0 4).toInt.toNat a318_4.toInt.toNat := by
                                                                                            have h := q128
                                                                                            rw [hq4] at h
                                                                                            rw [h]; exact hR318_0 _ (by omega)
                                                                                          rw [zmn_n (fun h => by have h3 := h.2; rw [← r349, ← h2] at h3; omega)]; exact h2) (by exact hR318_2) (by exact hR318_3) (by exact hR318_4) (by omega) (by omega) (by omega)
            · skip
              have rr132 : v128.toInt < a318_3.toInt := by simp only [z32lt, z32le, z32eq] at h351_128; omega
              have b133x : zB v128 0 19999 := by have q1 := b128x; have q2 := b318_3; simp only [z32lt, z32le, z32eq, Int32.reduceToInt, Int32.toInt_zero] at h351_128; constructor <;> omega
              have b134x : zB a318_3 1 20000 := by have q1 := b128x; have q2 := b318_3; simp only [z32lt, z32le, z32eq, Int32.reduceToInt, Int32.toInt_zero] at h351_128; constructor <;> omega
              refine z_aload_n (pc := 354) C dX10_mended_354 rfl ?_
              refine z_getR (pc := 355) C zf_X10_37 rfl rfl (by decide) dX10_mended_355 ?_
              refine z_iload (pc := 358) C dX10_mended_358 rfl ?_
              refine z_iald (pc := 360) C rfl (by decide) (zIx b119x (by decide) (by decide)) dX10_mended_360 ?_
              have kq360_134 : a318_4.toNatClampNeg = a318_4.toInt.toNat := rfl
              refine w_gp (fun v => v = g318_ 35 0 a318_4.toNatClampNeg) rfl (fun v135 q135 => ?_)
              have b135x : zB v135 0 20000 := by rw [q135]; exact (hI318_ 35 0 a318_4.toNatClampNeg)
              refine z_goto (pc := 361) 365 C dX10_mended_361 (by decide) ?_
              refine z_istore_n (pc := 365) C dX10_mended_365 (by rw [hn]; decide) rfl ?_
              refine z_iinc (pc := 366) (v := 1) C dX10_mended_366 rfl (by decide) (by rw [hn]; decide) rfl ?_
              obtain ⟨v136, hv136, e136⟩ : ∃ v : Int32, v = a318_4 + 1 ∧ v.toInt = a318_4.toInt + 1 := ⟨_, rfl, zadd_eb b119x (zB.of (x := 1) 1 (by decide)) (by decide) (by decide)⟩
              rw [← hv136]
              have b136x : zB v136 1 12 := by have q9 := b119x; constructor <;> omega
              refine z_goto (pc := 369) 318 C dX10_mended_369 (by decide) ?_
              exact ih4 b318_1 b318_2 v135 b135x v136 (zB.wk (a' := 0) (b' := 12) b136x (by decide) (by decide)) g318_ hI318_ hF318_ (zB.wk c121x (by decide) (by decide)) (by exact hR318_0) (by
                                                                                          have hn : (v136).toInt.toNat = a318_4.toInt.toNat + 1 := by omega
                                                                                          have hq4 : a318_4.toNatClampNeg = a318_4.toInt.toNat := rfl
                                                                                          have k25 : g318_ 25 0 = f 25 0 := funext (fun j => hF318_ 25 0 j rfl)
                                                                                          have k26 : g318_ 26 0 = f 26 0 := funext (fun j => hF318_ 26 0 j rfl)
                                                                                          have k27 : g318_ 27 0 = f 27 0 := funext (fun j => hF318_ 27 0 j rfl)
                                                                                          have k28 : g318_ 28 0 = f 28 0 := funext (fun j => hF318_ 28 0 j rfl)
                                                                                          have k30 : g318_ 30 0 = f 30 0 := funext (fun j => hF318_ 30 0 j rfl)
                                                                                          have x338 : (v123).toNatClampNeg = 8 * a318_4.toInt.toNat + 2 := by omega
                                                                                          have r338 := q124
                                                                                          rw [x338, k28] at r338
                                                                                          have hb : ∀ k, zBEm f a1 a2.toInt.toNat k = zmn (fun k => f 28 0 (8 * k + 2) = a1) (zCm f a2.toInt.toNat (f 25 0 4).toInt.toNat) (@ite Int (f 30 0 1 = a1) (Classical.propDecidable _) 0 9999) k := fun k => rfl
                                                                                          have h2 := hR318_1
                                                                                          rw [hb] at h2
                                                                                          rw [hn, hb]
                                                                                          have hl : f 28 0 (8 * a318_4.toInt.toNat + 2) = a1 := r338.symm.trans (by assumption)
                                                                                          have r349 : (v128).toInt = zCm f a2.toInt.toNat (f 25 0 4).toInt.toNat a318_4.toInt.toNat := by
                                                                                            have h := q128
                                                                                            rw [hq4] at h
                                                                                            rw [h]; exact hR318_0 _ (by omega)
                                                                                          have r360 : (v135).toInt = zCm f a2.toInt.toNat (f 25 0 4).toInt.toNat a318_4.toInt.toNat := by
                                                                                            have h := q135
                                                                                            rw [hq4] at h
                                                                                            rw [h]; exact hR318_0 _ (by omega)
                                                                                          rw [zmn_y ⟨hl, by rw [← r349, ← h2]; omega⟩]; exact r360) (by exact hR318_2) (by exact hR318_3) (by exact hR318_4) (by omega) (by omega) (by omega)
  obtain ⟨J0, J1, J2, J3, J4⟩ := J 3764777
  show Z X 0 [some (zr 25 0), some (zi a1), some (zi a2), none, none, none, none, none, none] [] f
  refine z_iload_n (pc := 0) C dX10_mended_0 rfl ?_
  refine z_callSb (pc := 1) C zk_X10_83 (m_X10_isLand _ _ _) rfl rfl (Nat.le_of_ble_eq_true rfl) dX10_mended_1 (fun h1_136 => ?_) (fun h1_136 => ?_)
  · skip
    have b138x : zB a1 0 5 := h1_136
    refine z_if_eq (pc := 4) 15 C dX10_mended_4 (by decide) (fun h => absurd h (by decide)) (fun _ => ?_)
    refine z_aload_n (pc := 7) C dX10_mended_7 rfl ?_
    refine z_iload_n (pc := 8) C dX10_mended_8 rfl ?_
    refine z_callVb (pc := 9) C zk_X10_120 (m_X10_isDeed _ _ _ hI) rfl rfl (by decide) rfl rfl (Nat.le_of_ble_eq_true rfl) dX10_mended_9 (fun h9_138 => ?_) (fun h9_138 => ?_)
    · skip
      have b140x : zB a2 0 7 := (zltc h9_138 (hI 25 0 2).2)
      refine z_if_ne (pc := 12) 17 C dX10_mended_12 (by decide) (fun _ => ?_) (fun h => absurd h (by decide))
      refine z_aload_n (pc := 17) C dX10_mended_17 rfl ?_
      refine z_getR (pc := 18) C zf_X10_22 rfl rfl (by decide) dX10_mended_18 ?_
      refine z_iconst (pc := 21) (v := 5) C dX10_mended_21 (by decide) ?_
      refine z_iald (pc := 22) C rfl (by decide) (zIx (zB.of (x := 5) 5 (by decide)) (by decide) (by decide)) dX10_mended_22 ?_
      have kq22_140 : (5 : Int32).toNatClampNeg = (5 : Int32).toInt.toNat := rfl
      refine w_gp (fun v => v = f 30 0 (5 : Int32).toNatClampNeg) rfl (fun v141 q141 => ?_)
      have b141x : zB v141 0 255 := by rw [q141]; exact (hI 30 0 (5 : Int32).toNatClampNeg)
      refine z_iload_n (pc := 23) C dX10_mended_23 rfl ?_
      refine z_ishr (pc := 24) C dX10_mended_24 ?_
      refine w_gp (fun v => v = v141 >>> (a2 &&& 31)) rfl (fun v142 q142 => ?_)
      refine z_iconst (pc := 25) (v := 1) C dX10_mended_25 (by decide) ?_
      refine z_iand (pc := 26) C dX10_mended_26 ?_
      refine w_gp (fun v => v = v142 &&& (1 : Int32)) rfl (fun v143 q143 => ?_)
      have b143x : zB v143 0 1 := by rw [q143]; exact (zand_b (zB_any v142) (zB.of (x := 1) 1 (by decide)) (by decide))
      refine z_if_ne (pc := 27) 33 C dX10_mended_27 (by decide) (fun h27_143 => ?_) (fun h27_143 => ?_)
      · skip
        have b145x : zB v143 1 1 := by have q1 := b143x; have q2 := (zB.of (x := 0) 0 (by decide)); simp only [z32lt, z32le, z32eq, Int32.reduceToInt, Int32.toInt_zero] at h27_143; constructor <;> omega
        refine z_iconst (pc := 33) (v := 0) C dX10_mended_33 (by decide) ?_
        refine z_istore_n (pc := 34) C dX10_mended_34 (by rw [hn]; decide) rfl ?_
        exact J0 b138x b140x 0 (zB.wk (a' := 0) (b' := 12) (zB.of (x := 0) 0 (by decide)) (by decide) (by decide)) f hI hF ct25_0_4 (by intro j hj; exact absurd hj (Nat.not_lt_zero j)) (by omega) (by
                                                                                          have hd2 : a2 = nI a2.toInt.toNat := (nI_ofI (by omega)).1
                                                                                          have z := z01b (x := v141) (a := a2.toInt.toNat) (by omega)
                                                                                          rw [← hd2, ← q142, ← q143] at z
                                                                                          have r22 : v141 = f 30 0 5 := q141
                                                                                          rw [← r22]
                                                                                          cases q : bt v141 a2.toInt.toNat
                                                                                          · rw [q, if_neg (by decide)] at z
                                                                                            exact absurd z (by assumption)
                                                                                          · rfl) (by have qc0 : (0 : Int32).toInt = 0 := (by decide); omega) (by have qc0 : (0 : Int32).toInt = 0 := (by decide); omega) (by have qc0 : (0 : Int32).toInt = 0 := (by decide); omega)
      · skip
        have b146x : zB v143 0 0 := by have q1 := b143x; have q2 := (zB.of (x := 0) 0 (by decide)); simp only [z32lt, z32le, z32eq, Int32.reduceToInt, Int32.toInt_zero] at h27_143; constructor <;> omega
        refine z_bipush (pc := 30) (v := -4) C dX10_mended_30 (by decide) ?_
        exact z_iret (pc := 32) C hr dX10_mended_32 ⟨⟨_, rfl, (zB.wk (a' := (-4)) (b' := 9998) (zB.of (x := (-4)) (-4) (by decide)) (by decide) (by decide))⟩, hI, hF, (by
                                                                                          intro v hv; cases hv
                                                                                          have hd2 : a2 = nI a2.toInt.toNat := (nI_ofI (by omega)).1
                                                                                          have z := z01b (x := v141) (a := a2.toInt.toNat) (by omega)
                                                                                          rw [← hd2, ← q142, ← q143] at z
                                                                                          have r22 : v141 = f 30 0 5 := q141
                                                                                          refine Or.inr ⟨by omega, Or.inl ⟨fun h => ?_, rfl⟩⟩
                                                                                          rw [← r22] at h
                                                                                          rw [if_pos h] at z
                                                                                          exact absurd (show v143 = 0 by assumption) (by rw [z]; decide))⟩
    · skip
      refine z_if_ne (pc := 12) 17 C dX10_mended_12 (by decide) (fun h => absurd (by decide) h) (fun _ => ?_)
      refine z_iconst (pc := 15) (v := -1) C dX10_mended_15 (by decide) ?_
      exact z_iret (pc := 16) C hr dX10_mended_16 ⟨⟨_, rfl, (zB.wk (a' := (-4)) (b' := 9998) (zB.of (x := (-1)) (-1) (by decide)) (by decide) (by decide))⟩, hI, hF, (by intro v hv; cases hv; exact Or.inl ⟨by omega, rfl⟩)⟩
  · skip
    refine z_if_eq (pc := 4) 15 C dX10_mended_4 (by decide) (fun _ => ?_) (fun h => absurd (by decide) h)
    refine z_iconst (pc := 15) (v := -1) C dX10_mended_15 (by decide) ?_
    exact z_iret (pc := 16) C hr dX10_mended_16 ⟨⟨_, rfl, (zB.wk (a' := (-4)) (b' := 9998) (zB.of (x := (-1)) (-1) (by decide)) (by decide) (by decide))⟩, hI, hF, (by intro v hv; cases hv; exact Or.inl ⟨by omega, rfl⟩)⟩

theorem zmt_r {f : zM} (hI : zInv f) (Rd : zRd f) (Rq : zRq f) (Rl : zRl f) (Ro : zRo f) {a : Int32} {k : Nat} (ha : 0 ≤ a.toInt ∧ a.toInt ≤ 5) (hk : (k : Int) < (f 1 0 6).toInt) : zMTx f a k ↔ zTMm f a k := by
  have b8 : (f 1 0 6).toInt ≤ 8 := (hI 1 0 6).2
  have u0 : (f 1 0 5).toInt ≤ 24 := (hI 1 0 5).2
  have hC : ∀ q j, q < (f 1 0 5).toInt.toNat → j < 6 → (fun k j => f 26 0 (6 * k + j)) q j = (fun k j => f 7 k j) q j := fun i j hi hj => (Rq.2.2.1 i j (by omega) hj).symm
  obtain ⟨_, _, _, l4, _⟩ := Rl k hk
  have d0 := Rd.1 k 0 hk (by decide)
  have d4 := Rd.1 k 4 hk (by decide)
  have l4 := l4 a.toInt.toNat (by omega)
  have h255 : bt 255 k = true := zb255d k (by omega)
  have hz := zly_pos (C := fun k j => f 7 k j) (m := f 8 k 0) (l := a.toInt.toNat) (f 1 0 5).toInt.toNat (fun i hi => Ro.1 i (by omega))
  have hw := zcw_ne (C := fun k j => f 7 k j) (m := f 8 k 0) (l := a) (n := (f 1 0 5).toInt.toNat) (by omega)
  rw [← (nI_ofI ha.1).1] at hz
  unfold zMTx zTMm
  rw [← Rq.1, l4, hz, ← hw, zcw_congr _ hC, ← d0, ← d4]
  exact ⟨fun q => ⟨q.1, q.2, h255⟩, fun q => ⟨q.1, q.2.1⟩⟩
theorem zTRx_i {f : zM} (hI : zInv f) {a : Int32} {d : Nat} (hd : (d : Int) < (f 1 0 6).toInt) : zTRx f a d ↔ (f 6 0 1 = a ∧ zMTx f a d ∧ bt (f 6 0 6) d = true) := by
  have b8 : (f 1 0 6).toInt ≤ 8 := (hI 1 0 6).2
  unfold zTRx zMTx
  constructor
  · rintro ⟨e, h⟩
    rw [b_and, Bool.and_eq_true, zbf_bit (by omega) _ (by omega)] at h
    exact ⟨e, by rw [← e]; exact h.1.2, h.2⟩
  · rintro ⟨e, h1, h2⟩
    refine ⟨e, ?_⟩
    rw [b_and, Bool.and_eq_true, zbf_bit (by omega) _ (by omega)]
    exact ⟨⟨by omega, by rw [e]; exact h1⟩, h2⟩
theorem zrd_c {F : Nat → Nat → Prop} {W : Nat → Int} {n : Nat} {c : Nat → Int} {b : Int} (hW : ∀ j, 0 ≤ W j) (h : ∀ j, c j = b) : ∀ k j, zrd F W n c k j = b
  | 0, j => h j
  | k + 1, j => by
    have ih := zrd_c (F := F) (n := n) hW h k
    rw [zrd, zrx_n (fun z => by have z2 := z.2.2; rw [ih, ih] at z2; have := hW j; omega)]
    exact ih j
theorem zit_c {F : Nat → Nat → Prop} {W : Nat → Int} {n : Nat} {c : Nat → Int} {b : Int} (hW : ∀ j, 0 ≤ W j) (h : ∀ j, c j = b) : ∀ r j, zit F W n c r j = b
  | 0, j => h j
  | r + 1, j => zrd_c hW (zit_c hW h r) n j
theorem zmn_c {L : Nat → Prop} {c : Nat → Int} {b : Int} (h : ∀ j, c j = b) : ∀ k, zmn L c b k = b
  | 0 => rfl
  | k + 1 => by
    rw [zmn_n (fun z => by have z2 := z.2; rw [h, zmn_c h k] at z2; omega)]; exact zmn_c h k
theorem zMd_r {f : zM} (hI : zInv f) (Rc : zRc f) (Rd : zRd f) (Rq : zRq f) (Rp : zRp f) (Rl : zRl f) (Rn : zRn f) (Rm : zRm f) (Ro : zRo f) {a v v2 : Int32} {d : Nat} (ha : 0 ≤ a.toInt ∧ a.toInt ≤ 5) (hd : (d : Int) < (f 1 0 6).toInt) (hx : zFBx f a d v) (hm : zFBm f a d v2) : v2 = v := by
  obtain ⟨m0, m1, m2, m3, m4, m5, m6, m7⟩ := zRm_e Rm
  have b8 : (f 1 0 6).toInt ≤ 8 := (hI 1 0 6).2
  have b12 : (f 1 0 7).toInt ≤ 12 := (hI 1 0 7).2
  have htr := zTRx_i hI (a := a) hd
  have hmt := zmt_r hI Rd Rq Rl Ro ha hd
  unfold zFBx at hx
  unfold zFBm at hm
  rw [← Rp.1, ← m6] at hm
  by_cases hb : bt (f 6 0 6) d = true
  · have hF : ∀ i j, i < (f 1 0 7).toInt.toNat → j < (f 1 0 7).toInt.toNat → (zFx f d i j ↔ zFm f d i j) := fun i j hi hj => by
      have e1 := Rp.2.2.1 i 1 (by omega) (by decide)
      have e2 := Rp.2.2.1 i 2 (by omega) (by decide)
      have e7 := Rp.2.2.1 i 7 (by omega) (by decide)
      have b1 : 0 ≤ (f 11 i 1).toInt := (hI 11 i 1).1
      have ho : (zoi f i).toInt = -4 ∨ 0 ≤ (zoi f i).toInt := by
        unfold zoi
        by_cases q : ¬ f 11 i 7 &&& 4 = 0
        · rw [if_pos q]; exact Or.inr b1
        · rw [if_neg q]; exact Or.inl (by decide)
      have hz : zoi f i = zom f i := by unfold zoi zom; rw [e7, e1]
      unfold zFx zFm
      rw [zfa_r hI Rd Rq Rp Rl Rn ho (by omega) hd, e2, e7, hz]
    have hW : ∀ j, j < (f 1 0 7).toInt.toNat → zWx_ f d j = zWm_ f d j ∧ 0 ≤ zWx_ f d j ∧ zWx_ f d j ≤ 6 := fun j hj => by
      have h6 := zpn_6 (zbx f j d)
      refine ⟨?_, zWx_0 f d j, ?_⟩
      · unfold zWx_ zWm_; rw [zbx_r hI Rd Rq Rp Rl Rm (by omega) hd]
      · unfold zWx_; omega
    have hS0 : zSim (f 1 0 7).toInt.toNat 6 (zc0x f d) (zk0m f d) := fun j hj => by
      have hf : zF0x f d j ↔ zM0m f d j := by
        unfold zF0x zM0m
        rw [zfa_b hb (zb255d d (by omega)), zfa_r hI Rd Rq Rp Rl Rn m7 (by omega) hd, m1, m4, m5]
      obtain ⟨w1, w2, w3⟩ := hW j hj
      unfold zc0x zk0m
      rw [← Rp.1]
      by_cases q : zF0x f d j
      · rw [zrx_y ⟨hj, q, by omega⟩, zrx_y ⟨hj, hf.mp q, by omega⟩]
        left; omega
      · rw [zrx_n (fun y => q y.2.1), zrx_n (fun y => q (hf.mpr y.2.1))]
        exact Or.inr ⟨rfl, rfl⟩
    have hS := zSim_t (by omega) hS0 hF hW (f 1 0 7).toInt.toNat (by omega)
    have hS2 : zSim (f 1 0 7).toInt.toNat 870 (zCx f d (f 1 0 7).toInt.toNat) (zCm f d (f 1 0 7).toInt.toNat) := by
      have e : zCm f d (f 1 0 7).toInt.toNat = zit (zFm f d) (zWm_ f d) (f 1 0 7).toInt.toNat (zk0m f d) (f 1 0 7).toInt.toNat := by
        funext j; unfold zCm; rw [← Rp.1]
      rw [e]
      exact zSim_w hS (by omega)
    by_cases hat : f 6 0 1 = a
    · have h0 : zBEm f a d (f 1 0 7).toInt.toNat = 0 := by
        unfold zBEm
        rw [if_pos (show f 30 0 1 = a by rw [← m1]; exact hat), ← Rp.1]
        exact zmn_0 _ (fun j hj => by rcases hS2 j hj with q | q <;> omega)
      rw [h0] at hm
      have hT : zTRx f a d ↔ zTMm f a d := htr.trans ⟨fun q => hmt.mp q.2.1, fun q => ⟨hat, hmt.mpr q, hb⟩⟩
      rcases hx with ⟨t, e⟩ | ⟨t, ⟨mt, _⟩, e⟩ | ⟨t, n, e⟩
      · rcases hm with ⟨b, _⟩ | ⟨_, tm, _⟩ | ⟨_, tm, _, e2⟩ | ⟨_, tm, lt2, _⟩
        · exact absurd hb b
        · exact absurd (hT.mp t) tm
        · rw [z32eq, e2, e]; decide
        · exact absurd (by decide) lt2
      · exact absurd (hT.mpr (hmt.mp mt)) t
      · rcases hm with ⟨b, _⟩ | ⟨_, tm, e2⟩ | ⟨_, tm, _, e2⟩ | ⟨_, tm, lt2, e2⟩
        · exact absurd hb b
        · rw [e2, e]
        · exact absurd (hT.mpr tm) t
        · exact absurd (hT.mpr tm) t
    · have hB : zBEm f a d (f 1 0 7).toInt.toNat = zmn (fun k => f 28 0 (8 * k + 2) = a) (zCm f d (f 1 0 7).toInt.toNat) 9999 (f 1 0 7).toInt.toNat := by
        unfold zBEm
        rw [if_neg (show ¬ f 30 0 1 = a from fun q => hat (m1.trans q)), ← Rp.1]
      have hr := zmn_r (L := fun k => f 11 k 2 = a) (M := fun k => f 28 0 (8 * k + 2) = a) (b := 870) (by omega) hS2 (fun k hk => by rw [Rp.2.2.1 k 2 (by omega) (by decide)]) (f 1 0 7).toInt.toNat (Nat.le_refl _)
      have hBx : zBEx f a d (f 1 0 7).toInt.toNat = zmn (fun k => f 11 k 2 = a) (zCx f d (f 1 0 7).toInt.toNat) 1000 (f 1 0 7).toInt.toNat := rfl
      rw [← hB, ← hBx] at hr
      rcases hx with ⟨t, e⟩ | ⟨t, ⟨mt, lt⟩, e⟩ | ⟨t, n, e⟩
      · exact absurd (htr.mp t).1 hat
      · rcases hm with ⟨b, _⟩ | ⟨_, tm, _⟩ | ⟨_, tm, _, e2⟩ | ⟨_, tm, lt2, _⟩
        · exact absurd hb b
        · exact absurd (hmt.mp mt) tm
        · rw [z32eq, e2, e]; omega
        · exact absurd (show zBEm f a d (f 1 0 7).toInt.toNat < 9999 by omega) lt2
      · rcases hm with ⟨b, _⟩ | ⟨_, tm, e2⟩ | ⟨_, tm, lt2, e2⟩ | ⟨_, tm, lt2, e2⟩
        · exact absurd hb b
        · rw [e2, e]
        · exact absurd ⟨hmt.mpr tm, by omega⟩ n
        · rw [e2, e]
  · have hc : ∀ j, zc0x f d j = 1000 := fun j => by
      unfold zc0x
      rw [zrx_n (fun y => hb y.2.1.2.2.1)]
    have hC : ∀ j, zCx f d (f 1 0 7).toInt.toNat j = 1000 := fun j => zit_c (zWx_0 f d) hc _ j
    have hB : zBEx f a d (f 1 0 7).toInt.toNat = 1000 := zmn_c hC _
    rcases hm with ⟨_, e2⟩ | ⟨b, _⟩ | ⟨b, _⟩ | ⟨b, _⟩
    · rcases hx with ⟨t, e⟩ | ⟨t, ⟨mt, lt⟩, e⟩ | ⟨t, n, e⟩
      · exact absurd (htr.mp t).2.2 hb
      · omega
      · rw [e2, e]
    · exact absurd b hb
    · exact absurd b hb
    · exact absurd b hb

theorem qd_mended {f g g2 : zM} {v v2 : Int32} {a1 a2 : Int32} (hI : zInv f) (hg : zInv g) (Rc : zRc f) (Rd : zRd f) (Rq : zRq f) (Rp : zRp f) (Rl : zRl f) (Rn : zRn f) (Rm : zRm f) (Ro : zRo f) (hF : zFr [(6, some 1), (6, some 4), (6, some 5), (6, some 6), (11, some 8), (11, some 9), (17, none)] f g) (hG : zFr [(35, none)] g g2) (hP : (¬ ((0 ≤ a1.toInt ∧ a1.toInt ≤ 5) ∧ (0 ≤ a2.toInt ∧ a2.toInt < (f 1 0 6).toInt)) ∧ v = -1) ∨ (((0 ≤ a1.toInt ∧ a1.toInt ≤ 5) ∧ (0 ≤ a2.toInt ∧ a2.toInt < (f 1 0 6).toInt)) ∧ zFBx f a1 a2.toInt.toNat v)) (hQ : (¬ ((0 ≤ a1.toInt ∧ a1.toInt ≤ 5) ∧ (0 ≤ a2.toInt ∧ a2.toInt < (g 25 0 2).toInt)) ∧ v2 = -1) ∨ (((0 ≤ a1.toInt ∧ a1.toInt ≤ 5) ∧ (0 ≤ a2.toInt ∧ a2.toInt < (g 25 0 2).toInt)) ∧ zFBm g a1 a2.toInt.toNat v2)) : v2 = v := by
  have k25 : g 25 0 = f 25 0 := funext (fun j => hF 25 0 j rfl)
  have k26 : g 26 0 = f 26 0 := funext (fun j => hF 26 0 j rfl)
  have k27 : g 27 0 = f 27 0 := funext (fun j => hF 27 0 j rfl)
  have k28 : g 28 0 = f 28 0 := funext (fun j => hF 28 0 j rfl)
  have k30 : g 30 0 = f 30 0 := funext (fun j => hF 30 0 j rfl)
  rw [zFBm_k k25 k26 k27 k28 k30, k25, ← Rc.1] at hQ
  rcases hP with ⟨p1, p2⟩ | ⟨p1, p2⟩ <;> rcases hQ with ⟨q1, q2⟩ | ⟨q1, q2⟩
  · exact q2.trans p2.symm
  · exact absurd q1 p1
  · exact absurd p1 q1
  · exact zMd_r hI Rc Rd Rq Rp Rl Rn Rm Ro p1.1 (by omega) p2 q2
