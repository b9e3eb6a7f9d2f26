/-- a paper lets a DEED go to one who sits there, bound so: the class, the reference -/
def zga (f : zM) (p : Nat) (a d o b : Int32) (i : Nat) : Prop := (f 11 p 1 = a ∧ (o = -4 ∨ o = f 11 p 2)) ∧ (zcx f p i ∧ zbx f p i = 0) ∧ bt b i = true ∧ (¬ (¬ d = 0 ∧ f 11 p 7 &&& 1 = 0) ∨ ¬ bt (f 8 i 7) (f 11 p 2).toInt.toNat = true)
def zgr (f : zM) (p : Nat) (a d o b : Int32) (i : Nat) : Prop := f 28 0 (8 * p + 1) = a ∧ (zcr f p i ∧ zsr f p i = 0) ∧ zmg f p i d o b
theorem zga_r {f : zM} (hI : zInv f) (Rd : zRd f) (Rq : zRq f) (Rp : zRp f) (Rl : zRl f) (Rn : zRn f) (Rm : zRm f) {p i : Nat} {a d o b : Int32} (ho : o.toInt = -4 ∨ 0 ≤ o.toInt) (hp : (p : Int) < (f 1 0 7).toInt) (hi : (i : Int) < (f 1 0 6).toInt) : zga f p a d o b i ↔ zgr f p a d o b i := by
  have e1 := Rp.2.2.1 p 1 hp (by decide)
  have e2 := Rp.2.2.1 p 2 hp (by decide)
  have e7 := Rp.2.2.1 p 7 hp (by decide)
  have b7 : 0 ≤ (f 11 p 7).toInt ∧ (f 11 p 7).toInt ≤ 7 := hI 11 p 7
  have h1 := z1of8 ⟨(f 11 p 7).toInt.toNat, by omega⟩
  simp only at h1
  rw [← (nI_ofI b7.1).1] at h1
  have c4 : (-4 : Int32).toInt = -4 := by decide
  have ho2 : (o = -4 ∨ o = f 11 p 2) ↔ (o.toInt < 0 ∨ f 28 0 (8 * p + 2) = o) := by
    rw [← e2]
    constructor
    · rintro (q | q)
      · exact Or.inl (by rw [q, c4]; decide)
      · exact Or.inr q.symm
    · rintro (q | q)
      · exact Or.inl ((z32eq _ _).mpr (by rw [c4]; omega))
      · exact Or.inr q.symm
  have hx := zcx_r hI Rd Rq Rp Rl Rn hp (d := i) hi
  have hb := zbx_r hI Rd Rq Rp Rl Rm hp (d := i) hi
  have hd := zdead_r hI Rd Rq Rp Rl hp (d := i) hi
  unfold zga zgr zmg
  rw [ho2, hx, hb, hd, e1]
  constructor
  · rintro ⟨⟨q0, q1⟩, q2, q3, q4⟩
    refine ⟨q0, q2, ?_, q1, q3⟩
    rcases q4 with q4 | q4
    · by_cases z : d = 0
      · exact Or.inl z
      · exact Or.inr (Or.inl (by rw [← e7]; exact h1.mp (fun y => q4 ⟨z, y⟩)))
    · exact Or.inr (Or.inr q4)
  · rintro ⟨q0, q2, q4, q1, q3⟩
    refine ⟨⟨q0, q1⟩, q2, q3, ?_⟩
    rcases q4 with q4 | q4 | q4
    · exact Or.inl (fun y => y.1 q4)
    · exact Or.inl (fun y => by rw [← e7] at q4; exact h1.mpr q4 y.2)
    · exact Or.inr q4
theorem zbx_k0 {f g : zM} {p d : Nat} (a : ∀ j, j < 8 → g 11 p j = f 11 p j) (b : ∀ n j, g 8 n j = f 8 n j) (c0 : g 6 0 0 = f 6 0 0) (c2 : g 6 0 2 = f 6 0 2) : zbx g p d = zbx f p d := by
  unfold zbx
  rw [a 1 (by decide), a 2 (by decide), a 5 (by decide), a 6 (by decide), a 7 (by decide), b, b, b, b, b, c0, c2]
theorem zga_k {f g : zM} {p i : Nat} {x y z w : Int32} (a : ∀ j, j < 8 → g 11 p j = f 11 p j) (b : ∀ n j, g 8 n j = f 8 n j) (c : ∀ n j, g 9 n j = f 9 n j) (e : ∀ n j, g 10 n j = f 10 n j) (c0 : g 6 0 0 = f 6 0 0) (c2 : g 6 0 2 = f 6 0 2) : zga g p x y z w i ↔ zga f p x y z w i := by
  unfold zga
  rw [zcx_k a b c e, zbx_k0 a b c0 c2, a 1 (by decide), a 2 (by decide), a 7 (by decide), b]
/-- all papers are weighed -/
def zWs (g : zM) : Prop := ∀ q : Nat, (q : Int) < (g 1 0 7).toInt → g 11 q 8 = zbf (fun i => zcx g q i ∧ zbx g q i = 0) (g 1 0 6).toInt.toNat ∧ g 11 q 9 = zbf (fun i => bt (g 8 i 7) (g 11 q 2).toInt.toNat = true) (g 1 0 6).toInt.toNat
theorem zgb {f m : zM} {w p : Nat} {v : Int32} (hI : zInv f) (hW : zWs f) (hp : (p : Int) < (f 1 0 7).toInt) (k11 : ∀ j, m 11 p j = f 11 p j) (h : (¬ (m 11 p 1 = m 6 w 1 ∧ (m 6 w 5 = -4 ∨ m 6 w 5 = m 11 p 2)) ∧ v = 0) ∨ ((m 11 p 1 = m 6 w 1 ∧ (m 6 w 5 = -4 ∨ m 6 w 5 = m 11 p 2)) ∧ ¬ (¬ m 6 w 4 = 0 ∧ m 11 p 7 &&& 1 = 0) ∧ v = m 11 p 8 &&& m 6 w 6) ∨ ((m 11 p 1 = m 6 w 1 ∧ (m 6 w 5 = -4 ∨ m 6 w 5 = m 11 p 2)) ∧ (¬ m 6 w 4 = 0 ∧ m 11 p 7 &&& 1 = 0) ∧ v = (m 11 p 8 &&& m 6 w 6) &&& (m 11 p 9 ^^^ -1))) : v = zbf (zga f p (m 6 w 1) (m 6 w 4) (m 6 w 5) (m 6 w 6)) (f 1 0 6).toInt.toNat := by
  obtain ⟨w8, w9⟩ := hW p hp
  rw [k11, k11, k11, k11, k11, w8, w9] at h
  have b8 : (f 1 0 6).toInt ≤ 8 := (hI 1 0 6).2
  have hv := zgo_eq (n := (f 1 0 6).toInt.toNat) (by omega) h
  exact hv
theorem zgs {f m : zM} {p : Nat} {v a d o b : Int32} (hI : zInv f) (k25 : m 25 0 = f 25 0) (k26 : m 26 0 = f 26 0) (k27 : m 27 0 = f 27 0) (k28 : m 28 0 = f 28 0) (hO : m 31 0 p = zbf (fun i => zcr f p i ∧ zsr f p i = 0) (f 25 0 2).toInt.toNat) (h : v = zbf (fun i => m 28 0 (8 * p + 1) = a ∧ bt (m 31 0 p) i = true ∧ zmg m p i d o b) (m 25 0 2).toInt.toNat) : v = zbf (zgr f p a d o b) (f 25 0 2).toInt.toNat := by
  have b8 : (f 25 0 2).toInt ≤ 8 := (hI 25 0 2).2
  rw [h, hO, k25, k28]
  refine zbf_congr _ (fun i hi => ?_)
  rw [zmg_k k25 k26 k27 k28, zbf_bit (by omega) _ (by omega)]
  constructor
  · rintro ⟨q1, ⟨_, q2⟩, q3⟩; exact ⟨q1, q2, q3⟩
  · rintro ⟨q1, q2, q3⟩; exact ⟨q1, ⟨hi, q2⟩, q3⟩
/-- DEEDS for which one may be tried somewhere, bound to some -/
theorem ztr_r {f : zM} (hI : zInv f) (Rc : zRc f) (Rd : zRd f) (Rq : zRq f) (Rl : zRl f) (Ro : zRo f) {a b : Int32} (ha : 0 ≤ a.toInt ∧ a.toInt ≤ 5) : zbf (fun i => 0 < (f 9 i a.toInt.toNat).toInt ∧ f 8 i 4 = 0) (f 1 0 6).toInt.toNat &&& b = zbf (fun i => (¬ zcw (fun k j => f 26 0 (6 * k + j)) (f 27 0 (5 * i + 0)) (a) (f 25 0 0).toInt.toNat = 0 ∧ f 27 0 (5 * i + 4) = 0 ∧ bt (b) i = true)) (f 25 0 2).toInt.toNat := by
  have b8 : (f 1 0 6).toInt ≤ 8 := (hI 1 0 6).2
  have u0 : (f 1 0 5).toInt ≤ 24 := (hI 1 0 5).2
  have hC : ∀ q j, q < (f 1 0 5).toInt.toNat → j < 6 → (fun k j => f 26 0 (6 * k + j)) q j = (fun k j => f 7 k j) q j := fun i j hi hj => (Rq.2.2.1 i j (by omega) hj).symm
  rw [zbf_and (by omega), ← Rc.1, ← Rq.1]
  refine zbf_congr _ (fun k hk => ?_)
  obtain ⟨_, _, _, l4, _⟩ := Rl k (by omega)
  have d0 := Rd.1 k 0 (by omega) (by decide)
  have d4 := Rd.1 k 4 (by omega) (by decide)
  have l4 := l4 a.toInt.toNat (by omega)
  have hz := zly_pos (C := fun k j => f 7 k j) (m := f 8 k 0) (l := a.toInt.toNat) (f 1 0 5).toInt.toNat (fun i hi => Ro.1 i (by omega))
  have hw := zcw_ne (C := fun k j => f 7 k j) (m := f 8 k 0) (l := a) (n := (f 1 0 5).toInt.toNat) (by omega)
  rw [← (nI_ofI ha.1).1] at hz
  rw [l4, hz, ← hw, zcw_congr _ hC, ← d0, ← d4, and_assoc]
/-- a land is SAFE, a HARBOUR, as far as k papers tell -/
def zsfy (f : zM) (h : Int32) (l k : Nat) : Prop := (h = 0 ∨ zbf (fun i => 0 < (f 9 i l).toInt ∧ f 8 i 4 = 0) (f 1 0 6).toInt.toNat &&& 255 = 0) ∧ ∀ p, p < k → zbf (zga f p (nI l) 0 (-4) 255) (f 1 0 6).toInt.toNat = 0
def zsfx (f : zM) (h : Int32) (l : Nat) : Prop := zsfy f h l (f 1 0 7).toInt.toNat
def zsfn (f : zM) (h : Int32) (l k : Nat) : Prop := (h = 0 ∨ zbf (fun i => (¬ zcw (fun k j => f 26 0 (6 * k + j)) (f 27 0 (5 * i + 0)) (nI l) (f 25 0 0).toInt.toNat = 0 ∧ f 27 0 (5 * i + 4) = 0 ∧ bt (255) i = true)) (f 25 0 2).toInt.toNat = 0) ∧ ∀ p, p < k → zbf (zgr f p (nI l) 0 (-4) 255) (f 25 0 2).toInt.toNat = 0
def zsfm (f : zM) (h : Int32) (l : Nat) : Prop := zsfn f h l (f 25 0 4).toInt.toNat
theorem zsfx_r {f : zM} (hI : zInv f) (Rc : zRc f) (Rd : zRd f) (Rq : zRq f) (Rp : zRp f) (Rl : zRl f) (Rn : zRn f) (Rm : zRm f) (Ro : zRo f) {h : Int32} {l : Nat} (hl : l < 6) : zsfx f h l ↔ zsfm f h l := by
  have c : (nI l).toInt.toNat = l := nI_tt (by omega)
  have c2 : (nI l).toInt = l := nI_toInt (by omega)
  have ht := ztr_r hI Rc Rd Rq Rl Ro (a := nI l) (b := 255) (by omega)
  rw [c] at ht
  unfold zsfx zsfm zsfy zsfn
  rw [ht, ← Rp.1]
  have hq : ∀ p, p < (f 1 0 7).toInt.toNat → zbf (zga f p (nI l) 0 (-4) 255) (f 1 0 6).toInt.toNat = zbf (zgr f p (nI l) 0 (-4) 255) (f 25 0 2).toInt.toNat := fun p hp => by
    rw [← Rc.1]
    exact zbf_congr _ (fun i hi => zga_r hI Rd Rq Rp Rl Rn Rm (Or.inl (by decide)) (by omega) (by omega))
  constructor
  · rintro ⟨q1, q2⟩; exact ⟨q1, fun p hp => (hq p hp).symm.trans (q2 p hp)⟩
  · rintro ⟨q1, q2⟩; exact ⟨q1, fun p hp => (hq p hp).trans (q2 p hp)⟩
theorem zsfx_k {f g : zM} {h : Int32} {l : Nat} (k1 : ∀ j, g 1 0 j = f 1 0 j) (a : ∀ p j, j < 8 → g 11 p j = f 11 p j) (b : ∀ n j, g 8 n j = f 8 n j) (c : ∀ n j, g 9 n j = f 9 n j) (e : ∀ n j, g 10 n j = f 10 n j) (c0 : g 6 0 0 = f 6 0 0) (c2 : g 6 0 2 = f 6 0 2) : zsfx g h l ↔ zsfx f h l := by
  have hz : ∀ p, zbf (zga g p (nI l) 0 (-4) 255) (f 1 0 6).toInt.toNat = zbf (zga f p (nI l) 0 (-4) 255) (f 1 0 6).toInt.toNat := fun p => zbf_congr _ (fun i _ => zga_k (a p) b c e c0 c2)
  unfold zsfx zsfy
  simp only [k1, b, c, hz]
theorem zsfm_k {f g : zM} {h : Int32} {l : Nat} (k25 : g 25 0 = f 25 0) (k26 : g 26 0 = f 26 0) (k27 : g 27 0 = f 27 0) (k28 : g 28 0 = f 28 0) (k30 : g 30 0 = f 30 0) : zsfm g h l ↔ zsfm f h l := by
  have hz : ∀ p, zgr g p (nI l) 0 (-4) 255 = zgr f p (nI l) 0 (-4) 255 := fun p => funext (fun i => by unfold zgr; rw [zcr_k k25 k26 k27 k28, zsr_k k25 k26 k27 k28 k30, zmg_k k25 k26 k27 k28, k28])
  unfold zsfm zsfn
  simp only [hz, k25, k26, k27]

set_option maxRecDepth 100000 in
set_option maxHeartbeats 4000000 in
theorem x_X8_weighAll (d : Nat) (f : zM)  (hI : zInv f) : ZM (d + 3) yX8_weighAll cX8_weighAll 2 none [zr 1 0] f (fun r g => r = none ∧ zInv g ∧ zFr [(11, some 8), (11, some 9)] f g ∧ (zWs g)) := by
  refine ZM.intro (by decide +kernel) (Nat.le_of_ble_eq_true rfl) ?_
  intro X C hr hn
  have hF : zFr [(11, some 8), (11, some 9)] f f := zFr.rf _ _
  have ct1_0_7 : zB (f 1 0 7) 0 12 := hI 1 0 7
  have J : ∀ t : Nat, (∀ a2_1 : Int32, zB a2_1 0 12 → ∀ g : zM, zInv g → zFr [(11, some 8), (11, some 9)] f g → zB (g 1 0 7) 0 12 → ((∀ q, q < a2_1.toInt.toNat → g 11 q 8 = zbf (fun i => zcx f q i ∧ zbx f q i = 0) (f 1 0 6).toInt.toNat ∧ g 11 q 9 = zbf (fun i => bt (f 8 i 7) (f 11 q 2).toInt.toNat = true) (f 1 0 6).toInt.toNat)) → (a2_1.toInt ≤ (f 1 0 7).toInt) → ((g 1 0 7).toInt = (f 1 0 7).toInt) → (0 + 3 * (12 - a2_1.toInt) : Int) < t → Z X 2 [some (zr 1 0), some (zi a2_1)] [] g) := by
    intro t
    induction t with
    | zero =>
      intros; exfalso; omega
    | succ t ih =>
      have ih0 := ih
      intro a2_1 b2_1 g2_ hI2_ hF2_ f2_1_0_7 hR2_0 hR2_1 hR2_2 hM2_
      refine z_iload_n (pc := 2) C dX8_weighAll_2 rfl ?_
      refine z_aload_n (pc := 3) C dX8_weighAll_3 rfl ?_
      refine z_getI (pc := 4) C zf_X8_64 rfl rfl (by decide) dX8_weighAll_4 ?_
      refine w_gp (fun v => v = g2_ 1 0 7) rfl (fun v1 q1 => ?_)
      have e1 : v1.toInt = (g2_ 1 0 7).toInt := by rw [q1]
      have b1x : zB v1 0 12 := by first | exact zB.eqv e1 f2_1_0_7 | (have q9 := f2_1_0_7; constructor <;> omega)
      refine z_icmp_ge (pc := 7) 26 C dX8_weighAll_7 (by decide) (fun h7_1 => ?_) (fun h7_1 => ?_)
      · skip
        have rr3 : a2_1.toInt ≥ v1.toInt := by simp only [z32lt, z32le, z32eq] at h7_1; omega
        exact z_vret (pc := 26) C hr dX8_weighAll_26 ⟨rfl, hI2_, hF2_, (by
                                                                                          have k11 : ∀ q j, j < 8 → g2_ 11 q j = f 11 q j := fun q j hj => by rcases (show j = 0 ∨ j = 1 ∨ j = 2 ∨ j = 3 ∨ j = 4 ∨ j = 5 ∨ j = 6 ∨ j = 7 by omega) with rfl | rfl | rfl | rfl | rfl | rfl | rfl | rfl <;> exact hF2_ 11 q _ rfl
                                                                                          have k8 : ∀ n j, g2_ 8 n j = f 8 n j := fun n j => hF2_ 8 n j rfl
                                                                                          have k9 : ∀ n j, g2_ 9 n j = f 9 n j := fun n j => hF2_ 9 n j rfl
                                                                                          have k10 : ∀ n j, g2_ 10 n j = f 10 n j := fun n j => hF2_ 10 n j rfl
                                                                                          have k6 : ∀ n j, g2_ 6 n j = f 6 n j := fun n j => hF2_ 6 n j rfl
                                                                                          have k1 : g2_ 1 0 6 = f 1 0 6 := hF2_ 1 0 6 rfl
                                                                                          intro q hq
                                                                                          have hp := hR2_0 q (by omega)
                                                                                          refine ⟨hp.1.trans ?_, hp.2.trans ?_⟩
                                                                                          · rw [k1]
                                                                                            exact zbf_congr _ (fun i _ => by rw [zcx_k (k11 _) k8 k9 k10, zbx_k (k11 _) k8 k6])
                                                                                          · rw [k1]
                                                                                            exact zbf_congr _ (fun i _ => by rw [k8, k11 _ 2 (by decide)]))⟩
      · skip
        have rr4 : a2_1.toInt < v1.toInt := by simp only [z32lt, z32le, z32eq] at h7_1; omega
        have b5x : zB a2_1 0 11 := by have q1 := b2_1; have q2 := b1x; simp only [z32lt, z32le, z32eq, Int32.reduceToInt, Int32.toInt_zero] at h7_1; constructor <;> omega
        have b6x : zB v1 1 12 := by have q1 := b2_1; have q2 := b1x; simp only [z32lt, z32le, z32eq, Int32.reduceToInt, Int32.toInt_zero] at h7_1; constructor <;> omega
        have c7x : zB (g2_ 1 0 7) 1 12 := by first | assumption | (constructor <;> omega)
        refine z_aload_n (pc := 10) C dX8_weighAll_10 rfl ?_
        refine z_aload_n (pc := 11) C dX8_weighAll_11 rfl ?_
        refine z_getR (pc := 12) C zf_X8_25 rfl rfl (by decide) dX8_weighAll_12 ?_
        refine z_iload_n (pc := 15) C dX8_weighAll_15 rfl ?_
        refine z_aald (pc := 16) C rfl ⟨rfl, by decide⟩ (by decide) (zIx b5x (by decide) (by decide)) dX8_weighAll_16 ?_
        refine w_grx (by have hq := zN b5x (by decide); show 12 * 0 + a2_1.toNatClampNeg < 36; omega) (fun m8 q8r h8x => ?_)
        have q8r : m8 = 12 * 0 + a2_1.toNatClampNeg := q8r
        have k8r : a2_1.toNatClampNeg = a2_1.toInt.toNat := rfl
        refine z_callV (pc := 17) C zk_X8_147 (x_X8_weigh _ _ m8 h8x hI2_) rfl rfl (by decide) rfl rfl (Nat.le_of_ble_eq_true rfl) dX8_weighAll_17 (fun r9 g9 q9 => ?_)
        obtain ⟨rfl, hI9, hF9q, hp9_0, hp9_1, hp9_2⟩ := q9
        have hF9 := zFr.tr hF2_ hF9q (by decide)
        simp only [Option.toList, List.cons_append, List.nil_append]
        have ek9_1_0_7 : (g9 1 0 7).toInt = (g2_ 1 0 7).toInt := by rw [hF9q 1 0 7 rfl]
        have c9_1_0_7x : zB (g9 1 0 7) 1 12 := by rw [hF9q 1 0 7 rfl]; exact c7x
        refine z_iinc (pc := 20) (v := 1) C dX8_weighAll_20 rfl (by decide) (by rw [hn]; decide) rfl ?_
        obtain ⟨v10, hv10, e10⟩ : ∃ v : Int32, v = a2_1 + 1 ∧ v.toInt = a2_1.toInt + 1 := ⟨_, rfl, zadd_eb b5x (zB.of (x := 1) 1 (by decide)) (by decide) (by decide)⟩
        rw [← hv10]
        have b10x : zB v10 1 12 := by have q9 := b5x; constructor <;> omega
        refine z_goto (pc := 23) 2 C dX8_weighAll_23 (by decide) ?_
        exact ih0 v10 (zB.wk (a' := 0) (b' := 12) b10x (by decide) (by decide)) g9 hI9 hF9 (zB.wk c9_1_0_7x (by decide) (by decide)) (by
                                                                                          have hx : m8 = a2_1.toInt.toNat := by omega
                                                                                          have hn : (v10).toInt.toNat = a2_1.toInt.toNat + 1 := by omega
                                                                                          have h0 := hp9_0
                                                                                          have h1 := hp9_1
                                                                                          have h2 := hp9_2
                                                                                          rw [hx] at h0 h1 h2
                                                                                          have k11 : ∀ q j, j < 8 → g2_ 11 q j = f 11 q j := fun q j hj => by rcases (show j = 0 ∨ j = 1 ∨ j = 2 ∨ j = 3 ∨ j = 4 ∨ j = 5 ∨ j = 6 ∨ j = 7 by omega) with rfl | rfl | rfl | rfl | rfl | rfl | rfl | rfl <;> exact hF2_ 11 q _ rfl
                                                                                          have k8 : ∀ n j, g2_ 8 n j = f 8 n j := fun n j => hF2_ 8 n j rfl
                                                                                          have k9 : ∀ n j, g2_ 9 n j = f 9 n j := fun n j => hF2_ 9 n j rfl
                                                                                          have k10 : ∀ n j, g2_ 10 n j = f 10 n j := fun n j => hF2_ 10 n j rfl
                                                                                          have k6 : ∀ n j, g2_ 6 n j = f 6 n j := fun n j => hF2_ 6 n j rfl
                                                                                          have k1 : g2_ 1 0 6 = f 1 0 6 := hF2_ 1 0 6 rfl
                                                                                          intro q hq
                                                                                          rw [hn] at hq
                                                                                          by_cases e : q = a2_1.toInt.toNat
                                                                                          · rw [e]
                                                                                            refine ⟨?_, ?_⟩
                                                                                            · rw [h1, k1]
                                                                                              exact zbf_congr _ (fun i _ => by rw [zcx_k (k11 _) k8 k9 k10, zbx_k (k11 _) k8 k6])
                                                                                            · rw [h2, k1]
                                                                                              exact zbf_congr _ (fun i _ => by rw [k8, k11 _ 2 (by decide)])
                                                                                          · have hp := hR2_0 q (by omega)
                                                                                            exact ⟨(h0 11 q 8 (by omega)).trans hp.1, (h0 11 q 9 (by omega)).trans hp.2⟩) (by omega) (by omega) (by omega)
  have J0 := J 51
  show Z X 0 [some (zr 1 0), none] [] f
  refine z_iconst (pc := 0) (v := 0) C dX8_weighAll_0 (by decide) ?_
  refine z_istore_n (pc := 1) C dX8_weighAll_1 (by rw [hn]; decide) rfl ?_
  exact J0 0 (zB.wk (a' := 0) (b' := 12) (zB.of (x := 0) 0 (by decide)) (by decide) (by decide)) f hI hF ct1_0_7 (by intro q hq; exact absurd hq (Nat.not_lt_zero q)) (by have qc0 : (0 : Int32).toInt = 0 := (by decide); omega) (by have qc0 : (0 : Int32).toInt = 0 := (by decide); omega) (by have qc0 : (0 : Int32).toInt = 0 := (by decide); omega)

set_option maxRecDepth 100000 in
set_option maxHeartbeats 4000000 in
theorem y_X5_safeLands (d : Nat) (f : zM) (a1 : Int32) (b1 : zB a1 0 1) (hp0 : zWs f) (hI : zInv f) : ZM (d + 2) yX5_safeLands cX5_safeLands 6 (some .int) [zr 13 0, zi a1] f (fun r g => (∃ v, r = some (zi v) ∧ zB v 0 63) ∧ zInv g ∧ zFr [(6, some 1), (6, some 4), (6, some 5), (6, some 6)] f g ∧ (∀ v : Int32, r = some (zi v) → v = zbf (zsfx f a1) 6) ∧ (∀ v : Int32, r = some (zi v) → (∀ n j, n ≠ 2 → g 6 n j = f 6 n j))) := by
  refine ZM.intro (by decide +kernel) (Nat.le_of_ble_eq_true rfl) ?_
  intro X C hr hn
  have hF : zFr [(6, some 1), (6, some 4), (6, some 5), (6, some 6)] f f := zFr.rf _ _
  have ct1_0_7 : zB (f 1 0 7) 0 12 := hI 1 0 7
  have J : ∀ t : Nat, (∀ a4_2 : Int32, zB a4_2 0 63 → ∀ a4_3 : Int32, zB a4_3 0 6 → ∀ g : zM, zInv g → zFr [(6, some 1), (6, some 4), (6, some 5), (6, some 6)] f g → zB (g 1 0 7) 0 12 → ((∀ a b c, ¬ (a = 6 ∧ b = 2) → g a b c = f a b c)) → (a4_2 = zbf (zsfx f a1) a4_3.toInt.toNat) → ((g 1 0 7).toInt = (f 1 0 7).toInt) → (53 + 56 * (6 - a4_3.toInt) : Int) < t → Z X 4 [some (zr 13 0), some (zi a1), some (zi a4_2), some (zi a4_3), none, none] [] g) ∧ (∀ a46_2 : Int32, zB a46_2 0 63 → ∀ a46_3 : Int32, zB a46_3 0 5 → ∀ a46_4 : Int32, zB a46_4 0 1 → ∀ a46_5 : Int32, zB a46_5 0 12 → ∀ g : zM, zInv g → zFr [(6, some 1), (6, some 4), (6, some 5), (6, some 6)] f g → zB (g 1 0 7) 0 12 → ((∀ a b c, ¬ (a = 6 ∧ b = 2) → g a b c = f a b c)) → (g 6 2 1 = a46_3 ∧ g 6 2 4 = 0 ∧ g 6 2 5 = -4 ∧ g 6 2 6 = 255) → (a46_2 = zbf (zsfx f a1) a46_3.toInt.toNat) → (zbo a46_4 (zsfy f a1 a46_3.toInt.toNat a46_5.toInt.toNat)) → (a46_5.toInt ≤ (f 1 0 7).toInt) → ((g 1 0 7).toInt = (f 1 0 7).toInt) → (0 + 4 * (12 - a46_5.toInt) + 56 * (6 - a46_3.toInt) : Int) < t → Z X 46 [some (zr 13 0), some (zi a1), some (zi a46_2), some (zi a46_3), some (zi a46_4), some (zi a46_5)] [] g) := by
    intro t
    induction t with
    | zero =>
      refine ⟨?_, ?_⟩ <;> (intros; exfalso; omega)
    | succ t ih =>
      obtain ⟨ih0, ih1⟩ := ih
      refine ⟨?_, ?_⟩
      · skip
        intro a4_2 b4_2 a4_3 b4_3 g4_ hI4_ hF4_ f4_1_0_7 hR4_0 hR4_1 hR4_2 hM4_
        refine z_iload_n (pc := 4) C dX5_safeLands_4 rfl ?_
        refine z_bipush (pc := 5) (v := 6) C dX5_safeLands_5 (by decide) ?_
        refine z_icmp_ge (pc := 7) 117 C dX5_safeLands_7 (by decide) (fun h7_0 => ?_) (fun h7_0 => ?_)
        · skip
          have b2x : zB a4_3 6 6 := by have q1 := b4_3; have q2 := (zB.of (x := 6) 6 (by decide)); simp only [z32lt, z32le, z32eq, Int32.reduceToInt, Int32.toInt_zero] at h7_0; constructor <;> omega
          refine z_iload_n (pc := 117) C dX5_safeLands_117 rfl ?_
          exact z_iret (pc := 118) C hr dX5_safeLands_118 ⟨⟨_, rfl, b4_2⟩, hI4_, hF4_, (by
                                                                                          intro v hv; cases hv
                                                                                          have h6 : a4_3.toInt.toNat = 6 := by omega
                                                                                          rw [← h6]; exact hR4_1), (by intro v hv; cases hv; intro n j hn; exact hR4_0 6 n j (by omega))⟩
        · skip
          have b3x : zB a4_3 0 5 := by have q1 := b4_3; have q2 := (zB.of (x := 6) 6 (by decide)); simp only [z32lt, z32le, z32eq, Int32.reduceToInt, Int32.toInt_zero] at h7_0; constructor <;> omega
          refine z_aload_n (pc := 10) C dX5_safeLands_10 rfl ?_
          refine z_getR (pc := 11) C zf_X5_12 rfl rfl (by decide) dX5_safeLands_11 ?_
          refine z_iload_n (pc := 14) C dX5_safeLands_14 rfl ?_
          refine z_callV (pc := 15) C zk_X5_89 (x_X3_sit _ _ 2 (by decide) a4_3 b3x hI4_) rfl rfl (by decide) rfl rfl (Nat.le_of_ble_eq_true rfl) dX5_safeLands_15 (fun r4 g4 q4 => ?_)
          obtain ⟨rfl, hI4, hF4q, hp4_0⟩ := q4
          have hF4 := zFr.tr hF4_ hF4q (by decide)
          simp only [Option.toList, List.cons_append, List.nil_append]
          have ek4_1_0_7 : (g4 1 0 7).toInt = (g4_ 1 0 7).toInt := by rw [hF4q 1 0 7 rfl]
          have c4_1_0_7x : zB (g4 1 0 7) 0 12 := by rw [hF4q 1 0 7 rfl]; exact f4_1_0_7
          refine z_iload_n (pc := 18) C dX5_safeLands_18 rfl ?_
          refine z_if_eq (pc := 19) 36 C dX5_safeLands_19 (by decide) (fun h19_4 => ?_) (fun h19_4 => ?_)
          · skip
            have b6x : zB a1 0 0 := by have q1 := b1; have q2 := (zB.of (x := 0) 0 (by decide)); simp only [z32lt, z32le, z32eq, Int32.reduceToInt, Int32.toInt_zero] at h19_4; constructor <;> omega
            refine z_iconst (pc := 36) (v := 1) C dX5_safeLands_36 (by decide) ?_
            refine z_goto (pc := 37) 41 C dX5_safeLands_37 (by decide) ?_
            refine z_istore (pc := 41) C dX5_safeLands_41 (by rw [hn]; decide) rfl ?_
            refine z_iconst (pc := 43) (v := 0) C dX5_safeLands_43 (by decide) ?_
            refine z_istore (pc := 44) C dX5_safeLands_44 (by rw [hn]; decide) rfl ?_
            exact ih1 a4_2 b4_2 a4_3 b3x 1 (zB.wk (a' := 0) (b' := 1) (zB.of (x := 1) 1 (by decide)) (by decide) (by decide)) 0 (zB.wk (a' := 0) (b' := 12) (zB.of (x := 0) 0 (by decide)) (by decide) (by decide)) g4 hI4 hF4 c4_1_0_7x (by intro a b c h; exact ((show g4 a b c = g4_ a b c by rw [hp4_0, zup_ne _ _ (by omega), zup_ne _ _ (by omega), zup_ne _ _ (by omega), zup_ne _ _ (by omega)])).trans (hR4_0 a b c h)) (by rw [hp4_0]; simp [zup]) (by exact hR4_1) (by
                                                                                          have hO : (∀ a b c, ¬ (a = 6 ∧ b = 2) → g4 a b c = f a b c) := by intro a b c h; exact ((show g4 a b c = g4_ a b c by rw [hp4_0, zup_ne _ _ (by omega), zup_ne _ _ (by omega), zup_ne _ _ (by omega), zup_ne _ _ (by omega)])).trans (hR4_0 a b c h)
                                                                                          exact Or.inl ⟨rfl, Or.inl (by assumption), fun p hp => absurd hp (Nat.not_lt_zero p)⟩) (by have qc0 : (0 : Int32).toInt = 0 := (by decide); have qc1 : (1 : Int32).toInt = 1 := (by decide); omega) (by have qc0 : (0 : Int32).toInt = 0 := (by decide); have qc1 : (1 : Int32).toInt = 1 := (by decide); omega) (by have qc0 : (0 : Int32).toInt = 0 := (by decide); have qc1 : (1 : Int32).toInt = 1 := (by decide); omega)
          · skip
            have b7x : zB a1 1 1 := by have q1 := b1; have q2 := (zB.of (x := 0) 0 (by decide)); simp only [z32lt, z32le, z32eq, Int32.reduceToInt, Int32.toInt_zero] at h19_4; constructor <;> omega
            refine z_aload_n (pc := 22) C dX5_safeLands_22 rfl ?_
            refine z_getR (pc := 23) C zf_X5_31 rfl rfl (by decide) dX5_safeLands_23 ?_
            refine z_aload_n (pc := 26) C dX5_safeLands_26 rfl ?_
            refine z_getR (pc := 27) C zf_X5_12 rfl rfl (by decide) dX5_safeLands_27 ?_
            refine z_callV (pc := 30) C zk_X5_49 (x_X8_triedBy _ _ 2 (by decide) hI4) rfl rfl (by decide) rfl rfl (Nat.le_of_ble_eq_true rfl) dX5_safeLands_30 (fun r8 g8 q8 => ?_)
            obtain ⟨⟨v8, rfl, b8x⟩, hI8, hF8q, hp8_0⟩ := q8
            have hp8_0 := hp8_0 _ rfl
            obtain rfl := zFr_nil hF8q
            simp only [Option.toList, List.cons_append, List.nil_append]
            refine z_if_ne (pc := 33) 40 C dX5_safeLands_33 (by decide) (fun h33_8 => ?_) (fun h33_8 => ?_)
            · skip
              have b10x : zB v8 1 255 := by have q1 := b8x; have q2 := (zB.of (x := 0) 0 (by decide)); simp only [z32lt, z32le, z32eq, Int32.reduceToInt, Int32.toInt_zero] at h33_8; constructor <;> omega
              refine z_iconst (pc := 40) (v := 0) C dX5_safeLands_40 (by decide) ?_
              refine z_istore (pc := 41) C dX5_safeLands_41 (by rw [hn]; decide) rfl ?_
              refine z_iconst (pc := 43) (v := 0) C dX5_safeLands_43 (by decide) ?_
              refine z_istore (pc := 44) C dX5_safeLands_44 (by rw [hn]; decide) rfl ?_
              exact ih1 a4_2 b4_2 a4_3 b3x 0 (zB.wk (a' := 0) (b' := 1) (zB.of (x := 0) 0 (by decide)) (by decide) (by decide)) 0 (zB.wk (a' := 0) (b' := 12) (zB.of (x := 0) 0 (by decide)) (by decide) (by decide)) g4 hI4 hF4 c4_1_0_7x (by intro a b c h; exact ((show g4 a b c = g4_ a b c by rw [hp4_0, zup_ne _ _ (by omega), zup_ne _ _ (by omega), zup_ne _ _ (by omega), zup_ne _ _ (by omega)])).trans (hR4_0 a b c h)) (by rw [hp4_0]; simp [zup]) (by exact hR4_1) (by
                                                                                          have hO : (∀ a b c, ¬ (a = 6 ∧ b = 2) → g4 a b c = f a b c) := by intro a b c h; exact ((show g4 a b c = g4_ a b c by rw [hp4_0, zup_ne _ _ (by omega), zup_ne _ _ (by omega), zup_ne _ _ (by omega), zup_ne _ _ (by omega)])).trans (hR4_0 a b c h)
                                                                                          have hw : g4 6 2 1 = a4_3 ∧ g4 6 2 4 = 0 ∧ g4 6 2 5 = -4 ∧ g4 6 2 6 = 255 := by rw [hp4_0]; simp [zup]
                                                                                          have k9 : ∀ i j, g4 9 i j = f 9 i j := fun i j => hO _ _ _ (by omega)
                                                                                          have k8 : ∀ i j, g4 8 i j = f 8 i j := fun i j => hO _ _ _ (by omega)
                                                                                          have k1 : g4 1 0 6 = f 1 0 6 := hO _ _ _ (by omega)
                                                                                          have ht := hp8_0
                                                                                          simp only [k9, k8, k1, hw.1, hw.2.2.2] at ht
                                                                                          refine Or.inr ⟨rfl, fun h => ?_⟩
                                                                                          rcases h.1 with q | q
                                                                                          · exact absurd q (by assumption)
                                                                                          · exact absurd (ht.trans q) (by assumption)) (by have qc0 : (0 : Int32).toInt = 0 := (by decide); omega) (by have qc0 : (0 : Int32).toInt = 0 := (by decide); omega) (by have qc0 : (0 : Int32).toInt = 0 := (by decide); omega)
            · skip
              have b11x : zB v8 0 0 := by have q1 := b8x; have q2 := (zB.of (x := 0) 0 (by decide)); simp only [z32lt, z32le, z32eq, Int32.reduceToInt, Int32.toInt_zero] at h33_8; constructor <;> omega
              refine z_iconst (pc := 36) (v := 1) C dX5_safeLands_36 (by decide) ?_
              refine z_goto (pc := 37) 41 C dX5_safeLands_37 (by decide) ?_
              refine z_istore (pc := 41) C dX5_safeLands_41 (by rw [hn]; decide) rfl ?_
              refine z_iconst (pc := 43) (v := 0) C dX5_safeLands_43 (by decide) ?_
              refine z_istore (pc := 44) C dX5_safeLands_44 (by rw [hn]; decide) rfl ?_
              exact ih1 a4_2 b4_2 a4_3 b3x 1 (zB.wk (a' := 0) (b' := 1) (zB.of (x := 1) 1 (by decide)) (by decide) (by decide)) 0 (zB.wk (a' := 0) (b' := 12) (zB.of (x := 0) 0 (by decide)) (by decide) (by decide)) g4 hI4 hF4 c4_1_0_7x (by intro a b c h; exact ((show g4 a b c = g4_ a b c by rw [hp4_0, zup_ne _ _ (by omega), zup_ne _ _ (by omega), zup_ne _ _ (by omega), zup_ne _ _ (by omega)])).trans (hR4_0 a b c h)) (by rw [hp4_0]; simp [zup]) (by exact hR4_1) (by
                                                                                          have hO : (∀ a b c, ¬ (a = 6 ∧ b = 2) → g4 a b c = f a b c) := by intro a b c h; exact ((show g4 a b c = g4_ a b c by rw [hp4_0, zup_ne _ _ (by omega), zup_ne _ _ (by omega), zup_ne _ _ (by omega), zup_ne _ _ (by omega)])).trans (hR4_0 a b c h)
                                                                                          have hw : g4 6 2 1 = a4_3 ∧ g4 6 2 4 = 0 ∧ g4 6 2 5 = -4 ∧ g4 6 2 6 = 255 := by rw [hp4_0]; simp [zup]
                                                                                          have k9 : ∀ i j, g4 9 i j = f 9 i j := fun i j => hO _ _ _ (by omega)
                                                                                          have k8 : ∀ i j, g4 8 i j = f 8 i j := fun i j => hO _ _ _ (by omega)
                                                                                          have k1 : g4 1 0 6 = f 1 0 6 := hO _ _ _ (by omega)
                                                                                          have ht := hp8_0
                                                                                          simp only [k9, k8, k1, hw.1, hw.2.2.2] at ht
                                                                                          exact Or.inl ⟨rfl, Or.inr (ht.symm.trans (by assumption)), fun p hp => absurd hp (Nat.not_lt_zero p)⟩) (by have qc0 : (0 : Int32).toInt = 0 := (by decide); have qc1 : (1 : Int32).toInt = 1 := (by decide); omega) (by have qc0 : (0 : Int32).toInt = 0 := (by decide); have qc1 : (1 : Int32).toInt = 1 := (by decide); omega) (by have qc0 : (0 : Int32).toInt = 0 := (by decide); have qc1 : (1 : Int32).toInt = 1 := (by decide); omega)
      · skip
        intro a46_2 b46_2 a46_3 b46_3 a46_4 b46_4 a46_5 b46_5 g46_ hI46_ hF46_ f46_1_0_7 hR46_0 hR46_1 hR46_2 hR46_3 hR46_4 hR46_5 hM46_
        refine z_iload (pc := 46) C dX5_safeLands_46 rfl ?_
        refine z_aload_n (pc := 48) C dX5_safeLands_48 rfl ?_
        refine z_getR (pc := 49) C zf_X5_31 rfl rfl (by decide) dX5_safeLands_49 ?_
        refine z_getI (pc := 52) C zf_X5_76 rfl rfl (by decide) dX5_safeLands_52 ?_
        refine w_gp (fun v => v = g46_ 1 0 7) rfl (fun v12 q12 => ?_)
        have e12 : v12.toInt = (g46_ 1 0 7).toInt := by rw [q12]
        have b12x : zB v12 0 12 := by first | exact zB.eqv e12 f46_1_0_7 | (have q9 := f46_1_0_7; constructor <;> omega)
        refine z_icmp_ge (pc := 55) 96 C dX5_safeLands_55 (by decide) (fun h55_12 => ?_) (fun h55_12 => ?_)
        · skip
          have rr14 : a46_5.toInt ≥ v12.toInt := by simp only [z32lt, z32le, z32eq] at h55_12; omega
          refine z_iload_n (pc := 96) C dX5_safeLands_96 rfl ?_
          refine z_iload (pc := 97) C dX5_safeLands_97 rfl ?_
          refine z_if_eq (pc := 99) 108 C dX5_safeLands_99 (by decide) (fun h99_14 => ?_) (fun h99_14 => ?_)
          · skip
            have b16x : zB a46_4 0 0 := by have q1 := b46_4; have q2 := (zB.of (x := 0) 0 (by decide)); simp only [z32lt, z32le, z32eq, Int32.reduceToInt, Int32.toInt_zero] at h99_14; constructor <;> omega
            refine z_iconst (pc := 108) (v := 0) C dX5_safeLands_108 (by decide) ?_
            refine z_ior (pc := 109) C dX5_safeLands_109 ?_
            refine w_gp (fun v => v = a46_2 ||| (0 : Int32)) rfl (fun v17 q17 => ?_)
            have b17x : zB v17 0 63 := by rw [q17]; exact (zor_b 6 b46_2 (zB.of (x := 0) 0 (by decide)) (by decide) (by decide) (by decide) (by decide) (by decide))
            refine z_istore_n (pc := 110) C dX5_safeLands_110 (by rw [hn]; decide) rfl ?_
            refine z_iinc (pc := 111) (v := 1) C dX5_safeLands_111 rfl (by decide) (by rw [hn]; decide) rfl ?_
            obtain ⟨v18, hv18, e18⟩ : ∃ v : Int32, v = a46_3 + 1 ∧ v.toInt = a46_3.toInt + 1 := ⟨_, rfl, zadd_eb b46_3 (zB.of (x := 1) 1 (by decide)) (by decide) (by decide)⟩
            rw [← hv18]
            have b18x : zB v18 1 6 := by have q9 := b46_3; constructor <;> omega
            refine z_goto (pc := 114) 4 C dX5_safeLands_114 (by decide) ?_
            refine w_mask [4, 5] ?_
            exact ih0 v17 b17x v18 (zB.wk (a' := 0) (b' := 6) b18x (by decide) (by decide)) g46_ hI46_ hF46_ f46_1_0_7 (by exact hR46_0) (by
                                                                                          have hn : (v18).toInt.toNat = a46_3.toInt.toNat + 1 := by omega
                                                                                          have hi : a46_3 = nI a46_3.toInt.toNat := (nI_ofI (by omega)).1
                                                                                          have hk : (f 1 0 7).toInt.toNat = a46_5.toInt.toNat := by omega
                                                                                          have hz : zbo a46_4 (zsfx f a1 a46_3.toInt.toNat) := by unfold zsfx; rw [hk]; exact hR46_3
                                                                                          rw [hn, zbf, ← hR46_2, q17]
                                                                                          congr 1
                                                                                          rw [if_neg (zbo_n hz (by omega))]) (by omega) (by omega)
          · skip
            have b19x : zB a46_4 1 1 := by have q1 := b46_4; have q2 := (zB.of (x := 0) 0 (by decide)); simp only [z32lt, z32le, z32eq, Int32.reduceToInt, Int32.toInt_zero] at h99_14; constructor <;> omega
            refine z_iconst (pc := 102) (v := 1) C dX5_safeLands_102 (by decide) ?_
            refine z_iload_n (pc := 103) C dX5_safeLands_103 rfl ?_
            refine z_ishl (pc := 104) C dX5_safeLands_104 ?_
            refine w_gp (fun v => v = (1 : Int32) <<< (a46_3 &&& 31)) rfl (fun v20 q20 => ?_)
            have b20x : zB v20 0 32 := by rw [q20]; exact (zshl_b b46_3 5 (by decide) (by decide))
            refine z_goto (pc := 105) 109 C dX5_safeLands_105 (by decide) ?_
            refine z_ior (pc := 109) C dX5_safeLands_109 ?_
            refine w_gp (fun v => v = a46_2 ||| v20) rfl (fun v21 q21 => ?_)
            have b21x : zB v21 0 63 := by rw [q21]; exact (zor_b 6 b46_2 b20x (by decide) (by decide) (by decide) (by decide) (by decide))
            refine z_istore_n (pc := 110) C dX5_safeLands_110 (by rw [hn]; decide) rfl ?_
            refine z_iinc (pc := 111) (v := 1) C dX5_safeLands_111 rfl (by decide) (by rw [hn]; decide) rfl ?_
            obtain ⟨v22, hv22, e22⟩ : ∃ v : Int32, v = a46_3 + 1 ∧ v.toInt = a46_3.toInt + 1 := ⟨_, rfl, zadd_eb b46_3 (zB.of (x := 1) 1 (by decide)) (by decide) (by decide)⟩
            rw [← hv22]
            have b22x : zB v22 1 6 := by have q9 := b46_3; constructor <;> omega
            refine z_goto (pc := 114) 4 C dX5_safeLands_114 (by decide) ?_
            refine w_mask [4, 5] ?_
            exact ih0 v21 b21x v22 (zB.wk (a' := 0) (b' := 6) b22x (by decide) (by decide)) g46_ hI46_ hF46_ f46_1_0_7 (by exact hR46_0) (by
                                                                                          have hn : (v22).toInt.toNat = a46_3.toInt.toNat + 1 := by omega
                                                                                          have hi : a46_3 = nI a46_3.toInt.toNat := (nI_ofI (by omega)).1
                                                                                          have hk : (f 1 0 7).toInt.toNat = a46_5.toInt.toNat := by omega
                                                                                          have hz : zbo a46_4 (zsfx f a1 a46_3.toInt.toNat) := by unfold zsfx; rw [hk]; exact hR46_3
                                                                                          rw [hn, zbf, ← hR46_2, q21]
                                                                                          congr 1
                                                                                          rw [if_pos (zbo_y hz (by omega)), ← hi]
                                                                                          first | exact q20 | rfl) (by omega) (by omega)
        · skip
          have rr23 : a46_5.toInt < v12.toInt := by simp only [z32lt, z32le, z32eq] at h55_12; omega
          have b24x : zB a46_5 0 11 := by have q1 := b46_5; have q2 := b12x; simp only [z32lt, z32le, z32eq, Int32.reduceToInt, Int32.toInt_zero] at h55_12; constructor <;> omega
          have b25x : zB v12 1 12 := by have q1 := b46_5; have q2 := b12x; simp only [z32lt, z32le, z32eq, Int32.reduceToInt, Int32.toInt_zero] at h55_12; constructor <;> omega
          have c26x : zB (g46_ 1 0 7) 1 12 := by first | assumption | (constructor <;> omega)
          refine z_iload (pc := 58) C dX5_safeLands_58 rfl ?_
          refine z_if_eq (pc := 60) 87 C dX5_safeLands_60 (by decide) (fun h60_26 => ?_) (fun h60_26 => ?_)
          · skip
            have b28x : zB a46_4 0 0 := by have q1 := b46_4; have q2 := (zB.of (x := 0) 0 (by decide)); simp only [z32lt, z32le, z32eq, Int32.reduceToInt, Int32.toInt_zero] at h60_26; constructor <;> omega
            refine z_iconst (pc := 87) (v := 0) C dX5_safeLands_87 (by decide) ?_
            refine z_istore (pc := 88) C dX5_safeLands_88 (by rw [hn]; decide) rfl ?_
            refine z_iinc (pc := 90) (v := 1) C dX5_safeLands_90 rfl (by decide) (by rw [hn]; decide) rfl ?_
            obtain ⟨v29, hv29, e29⟩ : ∃ v : Int32, v = a46_5 + 1 ∧ v.toInt = a46_5.toInt + 1 := ⟨_, rfl, zadd_eb b24x (zB.of (x := 1) 1 (by decide)) (by decide) (by decide)⟩
            rw [← hv29]
            have b29x : zB v29 1 12 := by have q9 := b24x; constructor <;> omega
            refine z_goto (pc := 93) 46 C dX5_safeLands_93 (by decide) ?_
            exact ih1 a46_2 b46_2 a46_3 b46_3 0 (zB.wk (a' := 0) (b' := 1) (zB.of (x := 0) 0 (by decide)) (by decide) (by decide)) v29 (zB.wk (a' := 0) (b' := 12) b29x (by decide) (by decide)) g46_ hI46_ hF46_ (zB.wk c26x (by decide) (by decide)) (by exact hR46_0) (by exact hR46_1) (by exact hR46_2) (by
                                                                                          have hn : (v29).toInt.toNat = a46_5.toInt.toNat + 1 := by omega
                                                                                          rw [hn]
                                                                                          exact Or.inr ⟨rfl, fun h => zbo_n hR46_3 (by omega) ⟨h.1, fun p hp => h.2 p (by omega)⟩⟩) (by have qc0 : (0 : Int32).toInt = 0 := (by decide); omega) (by have qc0 : (0 : Int32).toInt = 0 := (by decide); omega) (by have qc0 : (0 : Int32).toInt = 0 := (by decide); omega)
          · skip
            have b30x : zB a46_4 1 1 := by have q1 := b46_4; have q2 := (zB.of (x := 0) 0 (by decide)); simp only [z32lt, z32le, z32eq, Int32.reduceToInt, Int32.toInt_zero] at h60_26; constructor <;> omega
            refine z_aload_n (pc := 63) C dX5_safeLands_63 rfl ?_
            refine z_getR (pc := 64) C zf_X5_12 rfl rfl (by decide) dX5_safeLands_64 ?_
            refine z_aload_n (pc := 67) C dX5_safeLands_67 rfl ?_
            refine z_getR (pc := 68) C zf_X5_31 rfl rfl (by decide) dX5_safeLands_68 ?_
            refine z_getR (pc := 71) C zf_X5_68 rfl rfl (by decide) dX5_safeLands_71 ?_
            refine z_iload (pc := 74) C dX5_safeLands_74 rfl ?_
            refine z_aald (pc := 76) C rfl ⟨rfl, by decide⟩ (by decide) (zIx b24x (by decide) (by decide)) dX5_safeLands_76 ?_
            refine w_grx (by have hq := zN b24x (by decide); show 12 * 0 + a46_5.toNatClampNeg < 36; omega) (fun m31 q31r h31x => ?_)
            have q31r : m31 = 12 * 0 + a46_5.toNatClampNeg := q31r
            have k31r : a46_5.toNatClampNeg = a46_5.toInt.toNat := rfl
            refine z_callV (pc := 77) C zk_X5_79 (x_X3_goesBy _ _ 2 (by decide) m31 h31x hI46_) rfl rfl (by decide) rfl rfl (Nat.le_of_ble_eq_true rfl) dX5_safeLands_77 (fun r32 g32 q32 => ?_)
            obtain ⟨⟨v32, rfl, b32x⟩, hI32, hF32q, hp32_0⟩ := q32
            have hp32_0 := hp32_0 _ rfl
            obtain rfl := zFr_nil hF32q
            simp only [Option.toList, List.cons_append, List.nil_append]
            refine z_if_ne (pc := 80) 87 C dX5_safeLands_80 (by decide) (fun h80_32 => ?_) (fun h80_32 => ?_)
            · skip
              have b34x : zB v32 1 255 := by have q1 := b32x; have q2 := (zB.of (x := 0) 0 (by decide)); simp only [z32lt, z32le, z32eq, Int32.reduceToInt, Int32.toInt_zero] at h80_32; constructor <;> omega
              refine z_iconst (pc := 87) (v := 0) C dX5_safeLands_87 (by decide) ?_
              refine z_istore (pc := 88) C dX5_safeLands_88 (by rw [hn]; decide) rfl ?_
              refine z_iinc (pc := 90) (v := 1) C dX5_safeLands_90 rfl (by decide) (by rw [hn]; decide) rfl ?_
              obtain ⟨v35, hv35, e35⟩ : ∃ v : Int32, v = a46_5 + 1 ∧ v.toInt = a46_5.toInt + 1 := ⟨_, rfl, zadd_eb b24x (zB.of (x := 1) 1 (by decide)) (by decide) (by decide)⟩
              rw [← hv35]
              have b35x : zB v35 1 12 := by have q9 := b24x; constructor <;> omega
              refine z_goto (pc := 93) 46 C dX5_safeLands_93 (by decide) ?_
              exact ih1 a46_2 b46_2 a46_3 b46_3 0 (zB.wk (a' := 0) (b' := 1) (zB.of (x := 0) 0 (by decide)) (by decide) (by decide)) v35 (zB.wk (a' := 0) (b' := 12) b35x (by decide) (by decide)) g46_ hI46_ hF46_ (zB.wk c26x (by decide) (by decide)) (by exact hR46_0) (by exact hR46_1) (by exact hR46_2) (by
                                                                                          have hn : (v35).toInt.toNat = a46_5.toInt.toNat + 1 := by omega
                                                                                          rw [hn]
                                                                                          have hx : m31 = a46_5.toInt.toNat := by omega
                                                                                          have hi : a46_3 = nI a46_3.toInt.toNat := (nI_ofI (by omega)).1
                                                                                          have hg := hp32_0
                                                                                          rw [hx] at hg
                                                                                          have hv := zgb (f := f) hI hp0 (by omega) (fun j => hR46_0 _ _ _ (by omega)) hg
                                                                                          rw [hR46_1.1, hR46_1.2.1, hR46_1.2.2.1, hR46_1.2.2.2] at hv
                                                                                          exact Or.inr ⟨rfl, fun h => by have q := h.2 a46_5.toInt.toNat (by omega); rw [← hi] at q; exact absurd (hv.trans q) (by assumption)⟩) (by have qc0 : (0 : Int32).toInt = 0 := (by decide); omega) (by have qc0 : (0 : Int32).toInt = 0 := (by decide); omega) (by have qc0 : (0 : Int32).toInt = 0 := (by decide); omega)
            · skip
              have b36x : zB v32 0 0 := by have q1 := b32x; have q2 := (zB.of (x := 0) 0 (by decide)); simp only [z32lt, z32le, z32eq, Int32.reduceToInt, Int32.toInt_zero] at h80_32; constructor <;> omega
              refine z_iconst (pc := 83) (v := 1) C dX5_safeLands_83 (by decide) ?_
              refine z_goto (pc := 84) 88 C dX5_safeLands_84 (by decide) ?_
              refine z_istore (pc := 88) C dX5_safeLands_88 (by rw [hn]; decide) rfl ?_
              refine z_iinc (pc := 90) (v := 1) C dX5_safeLands_90 rfl (by decide) (by rw [hn]; decide) rfl ?_
              obtain ⟨v37, hv37, e37⟩ : ∃ v : Int32, v = a46_5 + 1 ∧ v.toInt = a46_5.toInt + 1 := ⟨_, rfl, zadd_eb b24x (zB.of (x := 1) 1 (by decide)) (by decide) (by decide)⟩
              rw [← hv37]
              have b37x : zB v37 1 12 := by have q9 := b24x; constructor <;> omega
              refine z_goto (pc := 93) 46 C dX5_safeLands_93 (by decide) ?_
              exact ih1 a46_2 b46_2 a46_3 b46_3 1 (zB.wk (a' := 0) (b' := 1) (zB.of (x := 1) 1 (by decide)) (by decide) (by decide)) v37 (zB.wk (a' := 0) (b' := 12) b37x (by decide) (by decide)) g46_ hI46_ hF46_ (zB.wk c26x (by decide) (by decide)) (by exact hR46_0) (by exact hR46_1) (by exact hR46_2) (by
                                                                                          have hn : (v37).toInt.toNat = a46_5.toInt.toNat + 1 := by omega
                                                                                          rw [hn]
                                                                                          have hx : m31 = a46_5.toInt.toNat := by omega
                                                                                          have hi : a46_3 = nI a46_3.toInt.toNat := (nI_ofI (by omega)).1
                                                                                          have hg := hp32_0
                                                                                          rw [hx] at hg
                                                                                          have hv := zgb (f := f) hI hp0 (by omega) (fun j => hR46_0 _ _ _ (by omega)) hg
                                                                                          rw [hR46_1.1, hR46_1.2.1, hR46_1.2.2.1, hR46_1.2.2.2] at hv
                                                                                          have hy := zbo_y hR46_3 (by omega)
                                                                                          refine Or.inl ⟨rfl, hy.1, fun p hp => ?_⟩
                                                                                          by_cases e : p = a46_5.toInt.toNat
                                                                                          · rw [e, ← hi]; exact hv.symm.trans (by assumption)
                                                                                          · exact hy.2 p (by omega)) (by have qc0 : (1 : Int32).toInt = 1 := (by decide); omega) (by have qc0 : (1 : Int32).toInt = 1 := (by decide); omega) (by have qc0 : (1 : Int32).toInt = 1 := (by decide); omega)
  obtain ⟨J0, J1⟩ := J 457
  show Z X 0 [some (zr 13 0), some (zi a1), none, none, none, none] [] f
  refine z_iconst (pc := 0) (v := 0) C dX5_safeLands_0 (by decide) ?_
  refine z_istore_n (pc := 1) C dX5_safeLands_1 (by rw [hn]; decide) rfl ?_
  refine z_iconst (pc := 2) (v := 0) C dX5_safeLands_2 (by decide) ?_
  refine z_istore_n (pc := 3) C dX5_safeLands_3 (by rw [hn]; decide) rfl ?_
  exact J0 0 (zB.wk (a' := 0) (b' := 63) (zB.of (x := 0) 0 (by decide)) (by decide) (by decide)) 0 (zB.wk (a' := 0) (b' := 6) (zB.of (x := 0) 0 (by decide)) (by decide) (by decide)) f hI hF ct1_0_7 (by intro a b c h; rfl) (by rfl) (by have qc0 : (0 : Int32).toInt = 0 := (by decide); omega) (by have qc0 : (0 : Int32).toInt = 0 := (by decide); omega)

set_option maxRecDepth 100000 in
set_option maxHeartbeats 4000000 in
theorem y_X9_safe (d : Nat) (f : zM) (a1 : Int32) (b1 : zB a1 (-2147483648) 2147483647) (hI : zInv f) : ZM (d + 4) yX9_safe cX9_safe 2 (some .int) [zr 0 0, zi a1] f (fun r g => (∃ v, r = some (zi v) ∧ zB v (-1) 63) ∧ zInv g ∧ zFr [(6, some 1), (6, some 4), (6, some 5), (6, some 6), (11, some 8), (11, some 9)] f g ∧ (∀ v : Int32, r = some (zi v) → (¬ (0 ≤ a1.toInt ∧ a1.toInt ≤ 1) ∧ v = -1) ∨ ((0 ≤ a1.toInt ∧ a1.toInt ≤ 1) ∧ v = zbf (zsfx f a1) 6)) ∧ (∀ v : Int32, r = some (zi v) → (∀ n j, n ≠ 2 → g 6 n j = f 6 n j))) := by
  refine ZM.intro (by decide +kernel) (Nat.le_of_ble_eq_true rfl) ?_
  intro X C hr hn
  have hF : zFr [(6, some 1), (6, some 4), (6, some 5), (6, some 6), (11, some 8), (11, some 9)] f f := zFr.rf _ _
  show Z X 0 [some (zr 0 0), some (zi a1)] [] f
  refine z_iload_n (pc := 0) C dX9_safe_0 rfl ?_
  refine z_if_lt (pc := 1) 9 C dX9_safe_1 (by decide) (fun h1_0 => ?_) (fun h1_0 => ?_)
  · skip
    have b2x : zB a1 (-2147483648) (-1) := by have q1 := b1; have q2 := (zB.of (x := 0) 0 (by decide)); simp only [z32lt, z32le, z32eq, Int32.reduceToInt, Int32.toInt_zero] at h1_0; constructor <;> omega
    refine z_iconst (pc := 9) (v := -1) C dX9_safe_9 (by decide) ?_
    exact z_iret (pc := 10) C hr dX9_safe_10 ⟨⟨_, rfl, (zB.wk (a' := (-1)) (b' := 63) (zB.of (x := (-1)) (-1) (by decide)) (by decide) (by decide))⟩, hI, hF, (by intro v hv; cases hv; exact Or.inl ⟨by omega, rfl⟩), (by intro v hv; cases hv; intro n j hn; exact rfl)⟩
  · skip
    have b3x : zB a1 0 2147483647 := by have q1 := b1; have q2 := (zB.of (x := 0) 0 (by decide)); simp only [z32lt, z32le, z32eq, Int32.reduceToInt, Int32.toInt_zero] at h1_0; constructor <;> omega
    refine z_iload_n (pc := 4) C dX9_safe_4 rfl ?_
    refine z_iconst (pc := 5) (v := 1) C dX9_safe_5 (by decide) ?_
    refine z_icmp_le (pc := 6) 11 C dX9_safe_6 (by decide) (fun h6_3 => ?_) (fun h6_3 => ?_)
    · skip
      have b5x : zB a1 0 1 := by have q1 := b3x; have q2 := (zB.of (x := 1) 1 (by decide)); simp only [z32lt, z32le, z32eq, Int32.reduceToInt, Int32.toInt_zero] at h6_3; constructor <;> omega
      refine z_aload_n (pc := 11) C dX9_safe_11 rfl ?_
      refine z_getR (pc := 12) C zf_X9_10 rfl rfl (by decide) dX9_safe_12 ?_
      refine z_callV (pc := 15) C zk_X9_280 (x_X8_weighAll _ _  hI) rfl rfl (by decide) rfl rfl (Nat.le_of_ble_eq_true rfl) dX9_safe_15 (fun r6 g6 q6 => ?_)
      obtain ⟨rfl, hI6, hF6q, hp6_0⟩ := q6
      have hF6 := zFr.tr hF hF6q (by decide)
      simp only [Option.toList, List.cons_append, List.nil_append]
      refine z_aload_n (pc := 18) C dX9_safe_18 rfl ?_
      refine z_getR (pc := 19) C zf_X9_24 rfl rfl (by decide) dX9_safe_19 ?_
      refine z_iload_n (pc := 22) C dX9_safe_22 rfl ?_
      refine z_iconst (pc := 23) (v := 1) C dX9_safe_23 (by decide) ?_
      refine z_icmp_ne (pc := 24) 31 C dX9_safe_24 (by decide) (fun h24_6 => ?_) (fun h24_6 => ?_)
      · skip
        have b8x : zB a1 0 0 := by have q1 := b5x; have q2 := (zB.of (x := 1) 1 (by decide)); simp only [z32lt, z32le, z32eq, Int32.reduceToInt, Int32.toInt_zero] at h24_6; constructor <;> omega
        refine z_iconst (pc := 31) (v := 0) C dX9_safe_31 (by decide) ?_
        refine z_callV (pc := 32) C zk_X9_296 (y_X5_safeLands _ _ 0 (zB.wk (a' := 0) (b' := 1) (zB.of (x := 0) 0 (by decide)) (by decide) (by decide)) (by assumption) hI6) rfl rfl (by decide) rfl rfl (Nat.le_of_ble_eq_true rfl) dX9_safe_32 (fun r9 g9 q9 => ?_)
        have qa9_0 : (0 : Int32).toInt = 0 := by decide
        obtain ⟨⟨v9, rfl, b9x⟩, hI9, hF9q, hp9_0, hp9_1⟩ := q9
        have hp9_0 := hp9_0 _ rfl
        have hp9_1 := hp9_1 _ rfl
        have hF9 := zFr.tr hF6 hF9q (by decide)
        simp only [Option.toList, List.cons_append, List.nil_append]
        exact z_iret (pc := 35) C hr dX9_safe_35 ⟨⟨_, rfl, (zB.wk (a' := (-1)) (b' := 63) b9x (by decide) (by decide))⟩, hI9, hF9, (by
                                                                                          intro v hv; cases hv
                                                                                          have hv := hp9_0
                                                                                          have k11 : ∀ q j, j < 8 → g6 11 q j = f 11 q j := fun q j hj => by rcases (show j = 0 ∨ j = 1 ∨ j = 2 ∨ j = 3 ∨ j = 4 ∨ j = 5 ∨ j = 6 ∨ j = 7 by omega) with rfl | rfl | rfl | rfl | rfl | rfl | rfl | rfl <;> exact hF6q 11 q _ rfl
                                                                                          have k8 : ∀ n j, g6 8 n j = f 8 n j := fun n j => hF6q 8 n j rfl
                                                                                          have k9 : ∀ n j, g6 9 n j = f 9 n j := fun n j => hF6q 9 n j rfl
                                                                                          have k10 : ∀ n j, g6 10 n j = f 10 n j := fun n j => hF6q 10 n j rfl
                                                                                          have k6 : ∀ n j, g6 6 n j = f 6 n j := fun n j => hF6q 6 n j rfl
                                                                                          refine Or.inr ⟨by omega, hv.trans ?_⟩
                                                                                          first
                                                                                            | (rw [show a1 = 1 by assumption]; exact zbf_congr _ (fun l _ => zsfx_k (fun j => hF6q 1 0 j rfl) k11 k8 k9 k10 (k6 0 0) (k6 0 2)))
                                                                                            | (rw [show a1 = 0 from (z32eq _ _).mpr (by have c0 : (0 : Int32).toInt = 0 := (by decide); omega)]; exact zbf_congr _ (fun l _ => zsfx_k (fun j => hF6q 1 0 j rfl) k11 k8 k9 k10 (k6 0 0) (k6 0 2)))), (by intro v hv; cases hv; intro n j hn; exact ((hp9_1 n j hn)).trans (((hF6q 6 n j rfl)).trans (rfl)))⟩
      · skip
        have b10x : zB a1 1 1 := by have q1 := b5x; have q2 := (zB.of (x := 1) 1 (by decide)); simp only [z32lt, z32le, z32eq, Int32.reduceToInt, Int32.toInt_zero] at h24_6; constructor <;> omega
        refine z_iconst (pc := 27) (v := 1) C dX9_safe_27 (by decide) ?_
        refine z_goto (pc := 28) 32 C dX9_safe_28 (by decide) ?_
        refine z_callV (pc := 32) C zk_X9_296 (y_X5_safeLands _ _ 1 (zB.wk (a' := 0) (b' := 1) (zB.of (x := 1) 1 (by decide)) (by decide) (by decide)) (by assumption) hI6) rfl rfl (by decide) rfl rfl (Nat.le_of_ble_eq_true rfl) dX9_safe_32 (fun r11 g11 q11 => ?_)
        have qa11_1 : (1 : Int32).toInt = 1 := by decide
        obtain ⟨⟨v11, rfl, b11x⟩, hI11, hF11q, hp11_0, hp11_1⟩ := q11
        have hp11_0 := hp11_0 _ rfl
        have hp11_1 := hp11_1 _ rfl
        have hF11 := zFr.tr hF6 hF11q (by decide)
        simp only [Option.toList, List.cons_append, List.nil_append]
        exact z_iret (pc := 35) C hr dX9_safe_35 ⟨⟨_, rfl, (zB.wk (a' := (-1)) (b' := 63) b11x (by decide) (by decide))⟩, hI11, hF11, (by
                                                                                          intro v hv; cases hv
                                                                                          have hv := hp11_0
                                                                                          have k11 : ∀ q j, j < 8 → g6 11 q j = f 11 q j := fun q j hj => by rcases (show j = 0 ∨ j = 1 ∨ j = 2 ∨ j = 3 ∨ j = 4 ∨ j = 5 ∨ j = 6 ∨ j = 7 by omega) with rfl | rfl | rfl | rfl | rfl | rfl | rfl | rfl <;> exact hF6q 11 q _ rfl
                                                                                          have k8 : ∀ n j, g6 8 n j = f 8 n j := fun n j => hF6q 8 n j rfl
                                                                                          have k9 : ∀ n j, g6 9 n j = f 9 n j := fun n j => hF6q 9 n j rfl
                                                                                          have k10 : ∀ n j, g6 10 n j = f 10 n j := fun n j => hF6q 10 n j rfl
                                                                                          have k6 : ∀ n j, g6 6 n j = f 6 n j := fun n j => hF6q 6 n j rfl
                                                                                          refine Or.inr ⟨by omega, hv.trans ?_⟩
                                                                                          first
                                                                                            | (rw [show a1 = 1 by assumption]; exact zbf_congr _ (fun l _ => zsfx_k (fun j => hF6q 1 0 j rfl) k11 k8 k9 k10 (k6 0 0) (k6 0 2)))
                                                                                            | (rw [show a1 = 0 from (z32eq _ _).mpr (by have c0 : (0 : Int32).toInt = 0 := (by decide); omega)]; exact zbf_congr _ (fun l _ => zsfx_k (fun j => hF6q 1 0 j rfl) k11 k8 k9 k10 (k6 0 0) (k6 0 2)))), (by intro v hv; cases hv; intro n j hn; exact ((hp11_1 n j hn)).trans (((hF6q 6 n j rfl)).trans (rfl)))⟩
    · skip
      have b12x : zB a1 2 2147483647 := by have q1 := b3x; have q2 := (zB.of (x := 1) 1 (by decide)); simp only [z32lt, z32le, z32eq, Int32.reduceToInt, Int32.toInt_zero] at h6_3; constructor <;> omega
      refine z_iconst (pc := 9) (v := -1) C dX9_safe_9 (by decide) ?_
      exact z_iret (pc := 10) C hr dX9_safe_10 ⟨⟨_, rfl, (zB.wk (a' := (-1)) (b' := 63) (zB.of (x := (-1)) (-1) (by decide)) (by decide) (by decide))⟩, hI, hF, (by intro v hv; cases hv; exact Or.inl ⟨by omega, rfl⟩), (by intro v hv; cases hv; intro n j hn; exact rfl)⟩

set_option maxRecDepth 100000 in
set_option maxHeartbeats 4000000 in
theorem y_X10_safe (d : Nat) (f : zM) (a1 : Int32) (b1 : zB a1 (-2147483648) 2147483647) (hI : zInv f) : ZM (d + 5) yX10_safe cX10_safe 6 (some .int) [zr 25 0, zi a1] f (fun r g => (∃ v, r = some (zi v) ∧ zB v (-1) 63) ∧ zInv g ∧ zFr [(31, none)] f g ∧ (∀ v : Int32, r = some (zi v) → (¬ (0 ≤ a1.toInt ∧ a1.toInt ≤ 1) ∧ v = -1) ∨ ((0 ≤ a1.toInt ∧ a1.toInt ≤ 1) ∧ v = zbf (zsfm f a1) 6))) := by
  refine ZM.intro (by decide +kernel) (Nat.le_of_ble_eq_true rfl) ?_
  intro X C hr hn
  have hF : zFr [(31, none)] f f := zFr.rf _ _
  have ct25_0_4 : zB (f 25 0 4) 0 12 := hI 25 0 4
  have J : ∀ t : Nat, (zB a1 0 1 → ∀ a20_2 : Int32, zB a20_2 0 63 → ∀ a20_3 : Int32, zB a20_3 0 6 → ∀ g : zM, zInv g → zFr [(31, none)] f g → zB (g 25 0 4) 0 12 → ((∀ q : Nat, (q : Int) < (f 25 0 4).toInt → g 31 0 q = zbf (fun i => zcr f q i ∧ zsr f q i = 0) (f 25 0 2).toInt.toNat)) → (a20_2 = zbf (zsfm f a1) a20_3.toInt.toNat) → ((g 25 0 4).toInt = (f 25 0 4).toInt) → ((0 ≤ a1.toInt ∧ a1.toInt ≤ 1)) → (53 + 56 * (6 - a20_3.toInt) : Int) < t → Z X 20 [some (zr 25 0), some (zi a1), some (zi a20_2), some (zi a20_3), none, none] [] g) ∧ (zB a1 0 1 → ∀ a51_2 : Int32, zB a51_2 0 63 → ∀ a51_3 : Int32, zB a51_3 0 5 → ∀ a51_4 : Int32, zB a51_4 0 1 → ∀ a51_5 : Int32, zB a51_5 0 12 → ∀ g : zM, zInv g → zFr [(31, none)] f g → zB (g 25 0 4) 0 12 → ((∀ q : Nat, (q : Int) < (f 25 0 4).toInt → g 31 0 q = zbf (fun i => zcr f q i ∧ zsr f q i = 0) (f 25 0 2).toInt.toNat)) → (a51_2 = zbf (zsfm f a1) a51_3.toInt.toNat) → (zbo a51_4 (zsfn f a1 a51_3.toInt.toNat a51_5.toInt.toNat)) → (a51_5.toInt ≤ (f 25 0 4).toInt) → ((g 25 0 4).toInt = (f 25 0 4).toInt) → ((0 ≤ a1.toInt ∧ a1.toInt ≤ 1)) → (0 + 4 * (12 - a51_5.toInt) + 56 * (6 - a51_3.toInt) : Int) < t → Z X 51 [some (zr 25 0), some (zi a1), some (zi a51_2), some (zi a51_3), some (zi a51_4), some (zi a51_5)] [] g) := by
    intro t
    induction t with
    | zero =>
      refine ⟨?_, ?_⟩ <;> (intros; exfalso; omega)
    | succ t ih =>
      obtain ⟨ih0, ih1⟩ := ih
      refine ⟨?_, ?_⟩
      · skip
        intro b20_1 a20_2 b20_2 a20_3 b20_3 g20_ hI20_ hF20_ f20_25_0_4 hR20_0 hR20_1 hR20_2 hR20_3 hM20_
        refine z_iload_n (pc := 20) C dX10_safe_20 rfl ?_
        refine z_bipush (pc := 21) (v := 6) C dX10_safe_21 (by decide) ?_
        refine z_icmp_ge (pc := 23) 115 C dX10_safe_23 (by decide) (fun h23_0 => ?_) (fun h23_0 => ?_)
        · skip
          have b2x : zB a20_3 6 6 := by have q1 := b20_3; have q2 := (zB.of (x := 6) 6 (by decide)); simp only [z32lt, z32le, z32eq, Int32.reduceToInt, Int32.toInt_zero] at h23_0; constructor <;> omega
          refine z_iload_n (pc := 115) C dX10_safe_115 rfl ?_
          exact z_iret (pc := 116) C hr dX10_safe_116 ⟨⟨_, rfl, (zB.wk (a' := (-1)) (b' := 63) b20_2 (by decide) (by decide))⟩, hI20_, hF20_, (by
                                                                                          intro v hv; cases hv
                                                                                          have h6 : a20_3.toInt.toNat = 6 := by omega
                                                                                          exact Or.inr ⟨hR20_3, by rw [← h6]; exact hR20_1⟩)⟩
        · skip
          have b3x : zB a20_3 0 5 := by have q1 := b20_3; have q2 := (zB.of (x := 6) 6 (by decide)); simp only [z32lt, z32le, z32eq, Int32.reduceToInt, Int32.toInt_zero] at h23_0; constructor <;> omega
          refine z_iload_n (pc := 26) C dX10_safe_26 rfl ?_
          refine z_if_eq (pc := 27) 41 C dX10_safe_27 (by decide) (fun h27_3 => ?_) (fun h27_3 => ?_)
          · skip
            have b5x : zB a1 0 0 := by have q1 := b20_1; have q2 := (zB.of (x := 0) 0 (by decide)); simp only [z32lt, z32le, z32eq, Int32.reduceToInt, Int32.toInt_zero] at h27_3; constructor <;> omega
            refine z_iconst (pc := 41) (v := 1) C dX10_safe_41 (by decide) ?_
            refine z_goto (pc := 42) 46 C dX10_safe_42 (by decide) ?_
            refine z_istore (pc := 46) C dX10_safe_46 (by rw [hn]; decide) rfl ?_
            refine z_iconst (pc := 48) (v := 0) C dX10_safe_48 (by decide) ?_
            refine z_istore (pc := 49) C dX10_safe_49 (by rw [hn]; decide) rfl ?_
            exact ih1 (zB.wk (a' := 0) (b' := 1) b5x (by decide) (by decide)) a20_2 b20_2 a20_3 b3x 1 (zB.wk (a' := 0) (b' := 1) (zB.of (x := 1) 1 (by decide)) (by decide) (by decide)) 0 (zB.wk (a' := 0) (b' := 12) (zB.of (x := 0) 0 (by decide)) (by decide) (by decide)) g20_ hI20_ hF20_ f20_25_0_4 (by exact hR20_0) (by exact hR20_1) (by exact Or.inl ⟨rfl, Or.inl (by assumption), fun p hp => absurd hp (Nat.not_lt_zero p)⟩) (by have qc0 : (0 : Int32).toInt = 0 := (by decide); have qc1 : (1 : Int32).toInt = 1 := (by decide); omega) (by have qc0 : (0 : Int32).toInt = 0 := (by decide); have qc1 : (1 : Int32).toInt = 1 := (by decide); omega) (by exact hR20_3) (by have qc0 : (0 : Int32).toInt = 0 := (by decide); have qc1 : (1 : Int32).toInt = 1 := (by decide); omega)
          · skip
            have b6x : zB a1 1 1 := by have q1 := b20_1; have q2 := (zB.of (x := 0) 0 (by decide)); simp only [z32lt, z32le, z32eq, Int32.reduceToInt, Int32.toInt_zero] at h27_3; constructor <;> omega
            refine z_aload_n (pc := 30) C dX10_safe_30 rfl ?_
            refine z_iload_n (pc := 31) C dX10_safe_31 rfl ?_
            refine z_sipush (pc := 32) (v := 255) C dX10_safe_32 (by decide) ?_
            refine z_callV (pc := 35) C zk_X10_165 (x_X10_triedAt _ _ a20_3 b3x 255 (zB.wk (a' := 0) (b' := 255) (zB.of (x := 255) 255 (by decide)) (by decide) (by decide)) hI20_) rfl rfl (by decide) rfl rfl (Nat.le_of_ble_eq_true rfl) dX10_safe_35 (fun r7 g7 q7 => ?_)
            have qa7_255 : (255 : Int32).toInt = 255 := by decide
            obtain ⟨⟨v7, rfl, b7x⟩, hI7, hF7q, hp7_0⟩ := q7
            have hp7_0 := hp7_0 _ rfl
            obtain rfl := zFr_nil hF7q
            simp only [Option.toList, List.cons_append, List.nil_append]
            refine z_if_ne (pc := 38) 45 C dX10_safe_38 (by decide) (fun h38_7 => ?_) (fun h38_7 => ?_)
            · skip
              have b9x : zB v7 1 255 := by have q1 := b7x; have q2 := (zB.of (x := 0) 0 (by decide)); simp only [z32lt, z32le, z32eq, Int32.reduceToInt, Int32.toInt_zero] at h38_7; constructor <;> omega
              refine z_iconst (pc := 45) (v := 0) C dX10_safe_45 (by decide) ?_
              refine z_istore (pc := 46) C dX10_safe_46 (by rw [hn]; decide) rfl ?_
              refine z_iconst (pc := 48) (v := 0) C dX10_safe_48 (by decide) ?_
              refine z_istore (pc := 49) C dX10_safe_49 (by rw [hn]; decide) rfl ?_
              exact ih1 (zB.wk (a' := 0) (b' := 1) b6x (by decide) (by decide)) a20_2 b20_2 a20_3 b3x 0 (zB.wk (a' := 0) (b' := 1) (zB.of (x := 0) 0 (by decide)) (by decide) (by decide)) 0 (zB.wk (a' := 0) (b' := 12) (zB.of (x := 0) 0 (by decide)) (by decide) (by decide)) g20_ hI20_ hF20_ f20_25_0_4 (by exact hR20_0) (by exact hR20_1) (by
                                                                                          have hi : a20_3 = nI a20_3.toInt.toNat := (nI_ofI (by omega)).1
                                                                                          have k25 : g20_ 25 0 = f 25 0 := funext (fun j => hF20_ 25 0 j rfl)
                                                                                          have k26 : g20_ 26 0 = f 26 0 := funext (fun j => hF20_ 26 0 j rfl)
                                                                                          have k27 : g20_ 27 0 = f 27 0 := funext (fun j => hF20_ 27 0 j rfl)
                                                                                          have k28 : g20_ 28 0 = f 28 0 := funext (fun j => hF20_ 28 0 j rfl)
                                                                                          have k30 : g20_ 30 0 = f 30 0 := funext (fun j => hF20_ 30 0 j rfl)
                                                                                          have ht := hp7_0
                                                                                          rw [k25, k26, k27] at ht
                                                                                          refine Or.inr ⟨rfl, fun h => ?_⟩
                                                                                          rcases h.1 with q | q
                                                                                          · exact absurd q (by assumption)
                                                                                          · rw [← hi] at q; exact absurd (ht.trans q) (by assumption)) (by have qc0 : (0 : Int32).toInt = 0 := (by decide); omega) (by have qc0 : (0 : Int32).toInt = 0 := (by decide); omega) (by exact hR20_3) (by have qc0 : (0 : Int32).toInt = 0 := (by decide); omega)
            · skip
              have b10x : zB v7 0 0 := by have q1 := b7x; have q2 := (zB.of (x := 0) 0 (by decide)); simp only [z32lt, z32le, z32eq, Int32.reduceToInt, Int32.toInt_zero] at h38_7; constructor <;> omega
              refine z_iconst (pc := 41) (v := 1) C dX10_safe_41 (by decide) ?_
              refine z_goto (pc := 42) 46 C dX10_safe_42 (by decide) ?_
              refine z_istore (pc := 46) C dX10_safe_46 (by rw [hn]; decide) rfl ?_
              refine z_iconst (pc := 48) (v := 0) C dX10_safe_48 (by decide) ?_
              refine z_istore (pc := 49) C dX10_safe_49 (by rw [hn]; decide) rfl ?_
              exact ih1 (zB.wk (a' := 0) (b' := 1) b6x (by decide) (by decide)) a20_2 b20_2 a20_3 b3x 1 (zB.wk (a' := 0) (b' := 1) (zB.of (x := 1) 1 (by decide)) (by decide) (by decide)) 0 (zB.wk (a' := 0) (b' := 12) (zB.of (x := 0) 0 (by decide)) (by decide) (by decide)) g20_ hI20_ hF20_ f20_25_0_4 (by exact hR20_0) (by exact hR20_1) (by
                                                                                          have hi : a20_3 = nI a20_3.toInt.toNat := (nI_ofI (by omega)).1
                                                                                          have k25 : g20_ 25 0 = f 25 0 := funext (fun j => hF20_ 25 0 j rfl)
                                                                                          have k26 : g20_ 26 0 = f 26 0 := funext (fun j => hF20_ 26 0 j rfl)
                                                                                          have k27 : g20_ 27 0 = f 27 0 := funext (fun j => hF20_ 27 0 j rfl)
                                                                                          have k28 : g20_ 28 0 = f 28 0 := funext (fun j => hF20_ 28 0 j rfl)
                                                                                          have k30 : g20_ 30 0 = f 30 0 := funext (fun j => hF20_ 30 0 j rfl)
                                                                                          have ht := hp7_0
                                                                                          rw [k25, k26, k27] at ht
                                                                                          exact Or.inl ⟨rfl, Or.inr (by rw [← hi]; exact ht.symm.trans (by assumption)), fun p hp => absurd hp (Nat.not_lt_zero p)⟩) (by have qc0 : (0 : Int32).toInt = 0 := (by decide); have qc1 : (1 : Int32).toInt = 1 := (by decide); omega) (by have qc0 : (0 : Int32).toInt = 0 := (by decide); have qc1 : (1 : Int32).toInt = 1 := (by decide); omega) (by exact hR20_3) (by have qc0 : (0 : Int32).toInt = 0 := (by decide); have qc1 : (1 : Int32).toInt = 1 := (by decide); omega)
      · skip
        intro b51_1 a51_2 b51_2 a51_3 b51_3 a51_4 b51_4 a51_5 b51_5 g51_ hI51_ hF51_ f51_25_0_4 hR51_0 hR51_1 hR51_2 hR51_3 hR51_4 hR51_5 hM51_
        refine z_iload (pc := 51) C dX10_safe_51 rfl ?_
        refine z_aload_n (pc := 53) C dX10_safe_53 rfl ?_
        refine z_getI (pc := 54) C zf_X10_77 rfl rfl (by decide) dX10_safe_54 ?_
        refine w_gp (fun v => v = g51_ 25 0 4) rfl (fun v11 q11 => ?_)
        have e11 : v11.toInt = (g51_ 25 0 4).toInt := by rw [q11]
        have b11x : zB v11 0 12 := by first | exact zB.eqv e11 f51_25_0_4 | (have q9 := f51_25_0_4; constructor <;> omega)
        refine z_icmp_ge (pc := 57) 94 C dX10_safe_57 (by decide) (fun h57_11 => ?_) (fun h57_11 => ?_)
        · skip
          have rr13 : a51_5.toInt ≥ v11.toInt := by simp only [z32lt, z32le, z32eq] at h57_11; omega
          refine z_iload_n (pc := 94) C dX10_safe_94 rfl ?_
          refine z_iload (pc := 95) C dX10_safe_95 rfl ?_
          refine z_if_eq (pc := 97) 106 C dX10_safe_97 (by decide) (fun h97_13 => ?_) (fun h97_13 => ?_)
          · skip
            have b15x : zB a51_4 0 0 := by have q1 := b51_4; have q2 := (zB.of (x := 0) 0 (by decide)); simp only [z32lt, z32le, z32eq, Int32.reduceToInt, Int32.toInt_zero] at h97_13; constructor <;> omega
            refine z_iconst (pc := 106) (v := 0) C dX10_safe_106 (by decide) ?_
            refine z_ior (pc := 107) C dX10_safe_107 ?_
            refine w_gp (fun v => v = a51_2 ||| (0 : Int32)) rfl (fun v16 q16 => ?_)
            have b16x : zB v16 0 63 := by rw [q16]; exact (zor_b 6 b51_2 (zB.of (x := 0) 0 (by decide)) (by decide) (by decide) (by decide) (by decide) (by decide))
            refine z_istore_n (pc := 108) C dX10_safe_108 (by rw [hn]; decide) rfl ?_
            refine z_iinc (pc := 109) (v := 1) C dX10_safe_109 rfl (by decide) (by rw [hn]; decide) rfl ?_
            obtain ⟨v17, hv17, e17⟩ : ∃ v : Int32, v = a51_3 + 1 ∧ v.toInt = a51_3.toInt + 1 := ⟨_, rfl, zadd_eb b51_3 (zB.of (x := 1) 1 (by decide)) (by decide) (by decide)⟩
            rw [← hv17]
            have b17x : zB v17 1 6 := by have q9 := b51_3; constructor <;> omega
            refine z_goto (pc := 112) 20 C dX10_safe_112 (by decide) ?_
            refine w_mask [4, 5] ?_
            exact ih0 b51_1 v16 b16x v17 (zB.wk (a' := 0) (b' := 6) b17x (by decide) (by decide)) g51_ hI51_ hF51_ f51_25_0_4 (by exact hR51_0) (by
                                                                                          have hn : (v17).toInt.toNat = a51_3.toInt.toNat + 1 := by omega
                                                                                          have hi : a51_3 = nI a51_3.toInt.toNat := (nI_ofI (by omega)).1
                                                                                          rw [hn, zbf, ← hR51_1, q16]
                                                                                          congr 1
                                                                                          rw [if_neg (fun h => zbo_n hR51_2 (by omega) ⟨h.1, fun p hp => h.2 p (by omega)⟩)]) (by omega) (by exact hR51_5) (by omega)
          · skip
            have b18x : zB a51_4 1 1 := by have q1 := b51_4; have q2 := (zB.of (x := 0) 0 (by decide)); simp only [z32lt, z32le, z32eq, Int32.reduceToInt, Int32.toInt_zero] at h97_13; constructor <;> omega
            refine z_iconst (pc := 100) (v := 1) C dX10_safe_100 (by decide) ?_
            refine z_iload_n (pc := 101) C dX10_safe_101 rfl ?_
            refine z_ishl (pc := 102) C dX10_safe_102 ?_
            refine w_gp (fun v => v = (1 : Int32) <<< (a51_3 &&& 31)) rfl (fun v19 q19 => ?_)
            have b19x : zB v19 0 32 := by rw [q19]; exact (zshl_b b51_3 5 (by decide) (by decide))
            refine z_goto (pc := 103) 107 C dX10_safe_103 (by decide) ?_
            refine z_ior (pc := 107) C dX10_safe_107 ?_
            refine w_gp (fun v => v = a51_2 ||| v19) rfl (fun v20 q20 => ?_)
            have b20x : zB v20 0 63 := by rw [q20]; exact (zor_b 6 b51_2 b19x (by decide) (by decide) (by decide) (by decide) (by decide))
            refine z_istore_n (pc := 108) C dX10_safe_108 (by rw [hn]; decide) rfl ?_
            refine z_iinc (pc := 109) (v := 1) C dX10_safe_109 rfl (by decide) (by rw [hn]; decide) rfl ?_
            obtain ⟨v21, hv21, e21⟩ : ∃ v : Int32, v = a51_3 + 1 ∧ v.toInt = a51_3.toInt + 1 := ⟨_, rfl, zadd_eb b51_3 (zB.of (x := 1) 1 (by decide)) (by decide) (by decide)⟩
            rw [← hv21]
            have b21x : zB v21 1 6 := by have q9 := b51_3; constructor <;> omega
            refine z_goto (pc := 112) 20 C dX10_safe_112 (by decide) ?_
            refine w_mask [4, 5] ?_
            exact ih0 b51_1 v20 b20x v21 (zB.wk (a' := 0) (b' := 6) b21x (by decide) (by decide)) g51_ hI51_ hF51_ f51_25_0_4 (by exact hR51_0) (by
                                                                                          have hn : (v21).toInt.toNat = a51_3.toInt.toNat + 1 := by omega
                                                                                          have hi : a51_3 = nI a51_3.toInt.toNat := (nI_ofI (by omega)).1
                                                                                          rw [hn, zbf, ← hR51_1, q20]
                                                                                          congr 1
                                                                                          have hk : (f 25 0 4).toInt.toNat = a51_5.toInt.toNat := by omega
                                                                                          have hz : zsfm f a1 a51_3.toInt.toNat := by unfold zsfm; rw [hk]; exact zbo_y hR51_2 (by omega)
                                                                                          rw [if_pos hz, ← hi]
                                                                                          first | exact q19 | rfl) (by omega) (by exact hR51_5) (by omega)
        · skip
          have rr22 : a51_5.toInt < v11.toInt := by simp only [z32lt, z32le, z32eq] at h57_11; omega
          have b23x : zB a51_5 0 11 := by have q1 := b51_5; have q2 := b11x; simp only [z32lt, z32le, z32eq, Int32.reduceToInt, Int32.toInt_zero] at h57_11; constructor <;> omega
          have b24x : zB v11 1 12 := by have q1 := b51_5; have q2 := b11x; simp only [z32lt, z32le, z32eq, Int32.reduceToInt, Int32.toInt_zero] at h57_11; constructor <;> omega
          have c25x : zB (g51_ 25 0 4) 1 12 := by first | assumption | (constructor <;> omega)
          refine z_iload (pc := 60) C dX10_safe_60 rfl ?_
          refine z_if_eq (pc := 62) 94 C dX10_safe_62 (by decide) (fun h62_25 => ?_) (fun h62_25 => ?_)
          · skip
            have b27x : zB a51_4 0 0 := by have q1 := b51_4; have q2 := (zB.of (x := 0) 0 (by decide)); simp only [z32lt, z32le, z32eq, Int32.reduceToInt, Int32.toInt_zero] at h62_25; constructor <;> omega
            refine z_iload_n (pc := 94) C dX10_safe_94 rfl ?_
            refine z_iload (pc := 95) C dX10_safe_95 rfl ?_
            refine z_if_eq (pc := 97) 106 C dX10_safe_97 (by decide) (fun h97_27 => ?_) (fun h97_27 => absurd h97_27 (by have q1 := b27x; have q2 := (zB.of (x := 0) 0 (by decide)); first | (simp only [z32lt, z32le, z32eq]; omega) | (simp only [z32lt, z32le, z32eq] at *; omega)))
            refine z_iconst (pc := 106) (v := 0) C dX10_safe_106 (by decide) ?_
            refine z_ior (pc := 107) C dX10_safe_107 ?_
            refine w_gp (fun v => v = a51_2 ||| (0 : Int32)) rfl (fun v29 q29 => ?_)
            have b29x : zB v29 0 63 := by rw [q29]; exact (zor_b 6 b51_2 (zB.of (x := 0) 0 (by decide)) (by decide) (by decide) (by decide) (by decide) (by decide))
            refine z_istore_n (pc := 108) C dX10_safe_108 (by rw [hn]; decide) rfl ?_
            refine z_iinc (pc := 109) (v := 1) C dX10_safe_109 rfl (by decide) (by rw [hn]; decide) rfl ?_
            obtain ⟨v30, hv30, e30⟩ : ∃ v : Int32, v = a51_3 + 1 ∧ v.toInt = a51_3.toInt + 1 := ⟨_, rfl, zadd_eb b51_3 (zB.of (x := 1) 1 (by decide)) (by decide) (by decide)⟩
            rw [← hv30]
            have b30x : zB v30 1 6 := by have q9 := b51_3; constructor <;> omega
            refine z_goto (pc := 112) 20 C dX10_safe_112 (by decide) ?_
            refine w_mask [4, 5] ?_
            exact ih0 b51_1 v29 b29x v30 (zB.wk (a' := 0) (b' := 6) b30x (by decide) (by decide)) g51_ hI51_ hF51_ (zB.wk c25x (by decide) (by decide)) (by exact hR51_0) (by
                                                                                          have hn : (v30).toInt.toNat = a51_3.toInt.toNat + 1 := by omega
                                                                                          have hi : a51_3 = nI a51_3.toInt.toNat := (nI_ofI (by omega)).1
                                                                                          rw [hn, zbf, ← hR51_1, q29]
                                                                                          congr 1
                                                                                          rw [if_neg (fun h => zbo_n hR51_2 (by omega) ⟨h.1, fun p hp => h.2 p (by omega)⟩)]) (by omega) (by exact hR51_5) (by omega)
          · skip
            have b31x : zB a51_4 1 1 := by have q1 := b51_4; have q2 := (zB.of (x := 0) 0 (by decide)); simp only [z32lt, z32le, z32eq, Int32.reduceToInt, Int32.toInt_zero] at h62_25; constructor <;> omega
            refine z_aload_n (pc := 65) C dX10_safe_65 rfl ?_
            refine z_iload (pc := 66) C dX10_safe_66 rfl ?_
            refine z_iload_n (pc := 68) C dX10_safe_68 rfl ?_
            refine z_iconst (pc := 69) (v := 0) C dX10_safe_69 (by decide) ?_
            refine z_bipush (pc := 70) (v := -4) C dX10_safe_70 (by decide) ?_
            refine z_sipush (pc := 72) (v := 255) C dX10_safe_72 (by decide) ?_
            refine z_callV (pc := 75) C zk_X10_147 (x_X10_goes _ _ a51_5 b23x a51_3 b51_3 0 (zB.wk (a' := 0) (b' := 1) (zB.of (x := 0) 0 (by decide)) (by decide) (by decide)) (-4) (zB.wk (a' := (-4)) (b' := 5) (zB.of (x := (-4)) (-4) (by decide)) (by decide) (by decide)) 255 (zB.wk (a' := 0) (b' := 255) (zB.of (x := 255) 255 (by decide)) (by decide) (by decide)) hI51_) rfl rfl (by decide) rfl rfl (Nat.le_of_ble_eq_true rfl) dX10_safe_75 (fun r32 g32 q32 => ?_)
            have qa32_m4 : ((-4) : Int32).toInt = (-4) := by decide
            have qa32_0 : (0 : Int32).toInt = 0 := by decide
            have qa32_255 : (255 : Int32).toInt = 255 := by decide
            obtain ⟨⟨v32, rfl, b32x⟩, hI32, hF32q, hp32_0⟩ := q32
            have hp32_0 := hp32_0 _ rfl
            obtain rfl := zFr_nil hF32q
            simp only [Option.toList, List.cons_append, List.nil_append]
            refine z_if_ne (pc := 78) 85 C dX10_safe_78 (by decide) (fun h78_32 => ?_) (fun h78_32 => ?_)
            · skip
              have b34x : zB v32 1 255 := by have q1 := b32x; have q2 := (zB.of (x := 0) 0 (by decide)); simp only [z32lt, z32le, z32eq, Int32.reduceToInt, Int32.toInt_zero] at h78_32; constructor <;> omega
              refine z_iconst (pc := 85) (v := 0) C dX10_safe_85 (by decide) ?_
              refine z_istore (pc := 86) C dX10_safe_86 (by rw [hn]; decide) rfl ?_
              refine z_iinc (pc := 88) (v := 1) C dX10_safe_88 rfl (by decide) (by rw [hn]; decide) rfl ?_
              obtain ⟨v35, hv35, e35⟩ : ∃ v : Int32, v = a51_5 + 1 ∧ v.toInt = a51_5.toInt + 1 := ⟨_, rfl, zadd_eb b23x (zB.of (x := 1) 1 (by decide)) (by decide) (by decide)⟩
              rw [← hv35]
              have b35x : zB v35 1 12 := by have q9 := b23x; constructor <;> omega
              refine z_goto (pc := 91) 51 C dX10_safe_91 (by decide) ?_
              exact ih1 b51_1 a51_2 b51_2 a51_3 b51_3 0 (zB.wk (a' := 0) (b' := 1) (zB.of (x := 0) 0 (by decide)) (by decide) (by decide)) v35 (zB.wk (a' := 0) (b' := 12) b35x (by decide) (by decide)) g51_ hI51_ hF51_ (zB.wk c25x (by decide) (by decide)) (by exact hR51_0) (by exact hR51_1) (by
                                                                                          have hn : (v35).toInt.toNat = a51_5.toInt.toNat + 1 := by omega
                                                                                          have hi : a51_3 = nI a51_3.toInt.toNat := (nI_ofI (by omega)).1
                                                                                          rw [hn]
                                                                                          have k25 : g51_ 25 0 = f 25 0 := funext (fun j => hF51_ 25 0 j rfl)
                                                                                          have k26 : g51_ 26 0 = f 26 0 := funext (fun j => hF51_ 26 0 j rfl)
                                                                                          have k27 : g51_ 27 0 = f 27 0 := funext (fun j => hF51_ 27 0 j rfl)
                                                                                          have k28 : g51_ 28 0 = f 28 0 := funext (fun j => hF51_ 28 0 j rfl)
                                                                                          have k30 : g51_ 30 0 = f 30 0 := funext (fun j => hF51_ 30 0 j rfl)
                                                                                          have hv := zgs (f := f) hI k25 k26 k27 k28 (hR51_0 a51_5.toInt.toNat (by omega)) hp32_0
                                                                                          exact Or.inr ⟨rfl, fun h => by have q := h.2 a51_5.toInt.toNat (by omega); rw [← hi] at q; exact absurd (hv.trans q) (by assumption)⟩) (by have qc0 : (0 : Int32).toInt = 0 := (by decide); omega) (by have qc0 : (0 : Int32).toInt = 0 := (by decide); omega) (by exact hR51_5) (by have qc0 : (0 : Int32).toInt = 0 := (by decide); omega)
            · skip
              have b36x : zB v32 0 0 := by have q1 := b32x; have q2 := (zB.of (x := 0) 0 (by decide)); simp only [z32lt, z32le, z32eq, Int32.reduceToInt, Int32.toInt_zero] at h78_32; constructor <;> omega
              refine z_iconst (pc := 81) (v := 1) C dX10_safe_81 (by decide) ?_
              refine z_goto (pc := 82) 86 C dX10_safe_82 (by decide) ?_
              refine z_istore (pc := 86) C dX10_safe_86 (by rw [hn]; decide) rfl ?_
              refine z_iinc (pc := 88) (v := 1) C dX10_safe_88 rfl (by decide) (by rw [hn]; decide) rfl ?_
              obtain ⟨v37, hv37, e37⟩ : ∃ v : Int32, v = a51_5 + 1 ∧ v.toInt = a51_5.toInt + 1 := ⟨_, rfl, zadd_eb b23x (zB.of (x := 1) 1 (by decide)) (by decide) (by decide)⟩
              rw [← hv37]
              have b37x : zB v37 1 12 := by have q9 := b23x; constructor <;> omega
              refine z_goto (pc := 91) 51 C dX10_safe_91 (by decide) ?_
              exact ih1 b51_1 a51_2 b51_2 a51_3 b51_3 1 (zB.wk (a' := 0) (b' := 1) (zB.of (x := 1) 1 (by decide)) (by decide) (by decide)) v37 (zB.wk (a' := 0) (b' := 12) b37x (by decide) (by decide)) g51_ hI51_ hF51_ (zB.wk c25x (by decide) (by decide)) (by exact hR51_0) (by exact hR51_1) (by
                                                                                          have hn : (v37).toInt.toNat = a51_5.toInt.toNat + 1 := by omega
                                                                                          have hi : a51_3 = nI a51_3.toInt.toNat := (nI_ofI (by omega)).1
                                                                                          rw [hn]
                                                                                          have k25 : g51_ 25 0 = f 25 0 := funext (fun j => hF51_ 25 0 j rfl)
                                                                                          have k26 : g51_ 26 0 = f 26 0 := funext (fun j => hF51_ 26 0 j rfl)
                                                                                          have k27 : g51_ 27 0 = f 27 0 := funext (fun j => hF51_ 27 0 j rfl)
                                                                                          have k28 : g51_ 28 0 = f 28 0 := funext (fun j => hF51_ 28 0 j rfl)
                                                                                          have k30 : g51_ 30 0 = f 30 0 := funext (fun j => hF51_ 30 0 j rfl)
                                                                                          have hv := zgs (f := f) hI k25 k26 k27 k28 (hR51_0 a51_5.toInt.toNat (by omega)) hp32_0
                                                                                          have hy := zbo_y hR51_2 (by omega)
                                                                                          refine Or.inl ⟨rfl, hy.1, fun p hp => ?_⟩
                                                                                          by_cases e : p = a51_5.toInt.toNat
                                                                                          · rw [e, ← hi]; exact hv.symm.trans (by assumption)
                                                                                          · exact hy.2 p (by omega)) (by have qc0 : (1 : Int32).toInt = 1 := (by decide); omega) (by have qc0 : (1 : Int32).toInt = 1 := (by decide); omega) (by exact hR51_5) (by have qc0 : (1 : Int32).toInt = 1 := (by decide); omega)
  obtain ⟨J0, J1⟩ := J 457
  show Z X 0 [some (zr 25 0), some (zi a1), none, none, none, none] [] f
  refine z_iload_n (pc := 0) C dX10_safe_0 rfl ?_
  refine z_i2l (pc := 1) C dX10_safe_1 ?_
  refine z_lconst (pc := 2) (v := 0) C dX10_safe_2 (by decide) ?_
  refine z_lconst (pc := 3) (v := 1) C dX10_safe_3 (by decide) ?_
  refine z_callSb (pc := 4) C zk_X10_69 (m_X10_in _ _ _ _ _) rfl rfl (Nat.le_of_ble_eq_true rfl) dX10_safe_4 (fun h4_37 => ?_) (fun h4_37 => ?_)
  · skip
    have hc4_1 : (0 ≤ a1.toInt ∧ a1.toInt ≤ 1) := by have q9 := h4_37; simp only [z64] at q9; exact q9
    have b39x : zB a1 0 1 := zin64 h4_37 rfl rfl
    refine z_if_ne (pc := 7) 12 C dX10_safe_7 (by decide) (fun _ => ?_) (fun h => absurd h (by decide))
    refine z_aload_n (pc := 12) C dX10_safe_12 rfl ?_
    refine z_callV (pc := 13) C zk_X10_151 (x_X10_findOpen _ _  hI) rfl rfl (by decide) rfl rfl (Nat.le_of_ble_eq_true rfl) dX10_safe_13 (fun r40 g40 q40 => ?_)
    obtain ⟨rfl, hI40, hF40q, hp40_0⟩ := q40
    have hF40 := zFr.tr hF hF40q (by decide)
    simp only [Option.toList, List.cons_append, List.nil_append]
    have ek40_25_0_4 : (g40 25 0 4).toInt = (f 25 0 4).toInt := by rw [hF40q 25 0 4 rfl]
    have c40_25_0_4x : zB (g40 25 0 4) 0 12 := by rw [hF40q 25 0 4 rfl]; exact ct25_0_4
    refine z_iconst (pc := 16) (v := 0) C dX10_safe_16 (by decide) ?_
    refine z_istore_n (pc := 17) C dX10_safe_17 (by rw [hn]; decide) rfl ?_
    refine z_iconst (pc := 18) (v := 0) C dX10_safe_18 (by decide) ?_
    refine z_istore_n (pc := 19) C dX10_safe_19 (by rw [hn]; decide) rfl ?_
    exact J0 b39x 0 (zB.wk (a' := 0) (b' := 63) (zB.of (x := 0) 0 (by decide)) (by decide) (by decide)) 0 (zB.wk (a' := 0) (b' := 6) (zB.of (x := 0) 0 (by decide)) (by decide) (by decide)) g40 hI40 hF40 c40_25_0_4x (by exact hp40_0) (by rfl) (by have qc0 : (0 : Int32).toInt = 0 := (by decide); omega) (by omega) (by have qc0 : (0 : Int32).toInt = 0 := (by decide); omega)
  · skip
    have hc4_0 : ¬ (0 ≤ a1.toInt ∧ a1.toInt ≤ 1) := by have q9 := h4_37; simp only [z64] at q9; exact q9
    refine z_if_ne (pc := 7) 12 C dX10_safe_7 (by decide) (fun h => absurd (by decide) h) (fun _ => ?_)
    refine z_iconst (pc := 10) (v := -1) C dX10_safe_10 (by decide) ?_
    exact z_iret (pc := 11) C hr dX10_safe_11 ⟨⟨_, rfl, (zB.wk (a' := (-1)) (b' := 63) (zB.of (x := (-1)) (-1) (by decide)) (by decide) (by decide))⟩, hI, hF, (by intro v hv; cases hv; exact Or.inl ⟨by omega, rfl⟩)⟩

theorem qd_safe {f g g2 : zM} {v v2 : Int32} {a1 : Int32} (hI : zInv f) (hg : zInv g) (Rc : zRc f) (Rd : zRd f) (Rq : zRq f) (Rp : zRp f) (Rl : zRl f) (Rn : zRn f) (Rm : zRm f) (Ro : zRo f) (hF : zFr [(6, some 1), (6, some 4), (6, some 5), (6, some 6), (11, some 8), (11, some 9)] f g) (hG : zFr [(31, none)] g g2) (hP : (¬ (0 ≤ a1.toInt ∧ a1.toInt ≤ 1) ∧ v = -1) ∨ ((0 ≤ a1.toInt ∧ a1.toInt ≤ 1) ∧ v = zbf (zsfx f a1) 6)) (hQ : (¬ (0 ≤ a1.toInt ∧ a1.toInt ≤ 1) ∧ v2 = -1) ∨ ((0 ≤ a1.toInt ∧ a1.toInt ≤ 1) ∧ v2 = zbf (zsfm g a1) 6)) : v2 = v := by
  have k25 : g 25 0 = f 25 0 := funext (fun j => hF 25 0 j rfl)
  have k26 : g 26 0 = f 26 0 := funext (fun j => hF 26 0 j rfl)
  have k27 : g 27 0 = f 27 0 := funext (fun j => hF 27 0 j rfl)
  have k28 : g 28 0 = f 28 0 := funext (fun j => hF 28 0 j rfl)
  have k30 : g 30 0 = f 30 0 := funext (fun j => hF 30 0 j rfl)
  rcases hP with ⟨p1, p2⟩ | ⟨p1, p2⟩ <;> rcases hQ with ⟨q1, q2⟩ | ⟨q1, q2⟩
  · exact q2.trans p2.symm
  · exact absurd q1 p1
  · exact absurd p1 q1
  · rw [q2, p2]
    exact (zbf_congr _ (fun l hl => (zsfx_r hI Rc Rd Rq Rp Rl Rn Rm Ro hl).trans (zsfm_k k25 k26 k27 k28 k30).symm)).symm
