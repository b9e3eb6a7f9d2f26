def zOx_ (s : Nat) : Int32 := if s / 256 % 7 = 0 then -4 else nI (s / 256 % 7 - 1)
noncomputable def zGsx (f : zM) (s p : Nat) : Int32 := zbf (zga f p (zAt_ s) (zDi_ s) (zOx_ s) (zDe_ s)) (f 1 0 6).toInt.toNat
def zGpx (f : zM) (s p : Nat) : Prop := (p : Int) < (f 1 0 7).toInt ∧ ¬ zGsx f s p = 0
noncomputable def zNsx (f : zM) (s p : Nat) : Nat := @ite Nat ((p : Int) < (f 1 0 7).toInt) (Classical.propDecidable _) (zcd (zAl (f 1 0 6)) (f 11 p 2) (f 11 p 7 &&& 1) (@ite Int32 (¬ f 11 p 7 &&& 4 = 0) (Classical.propDecidable _) (zAt_ s) (-4)) (@ite Int32 (¬ f 11 p 7 &&& 2 = 0) (Classical.propDecidable _) (zGsx f s p) 255)) 0
noncomputable def zS0x (f : zM) : Nat := zcd (zAl (f 1 0 6)) (f 6 0 1) (f 6 0 4) (f 6 0 5) (f 6 0 6)
/-- the state that a step's key tells -/
noncomputable def zKs (f : zM) (key : Nat) : Nat := zcd (zAl (f 1 0 6)) (f 11 (key / 256) 2) (f 11 (key / 256) 7 &&& 1) (@ite Int32 (¬ f 11 (key / 256) 7 &&& 4 = 0) (Classical.propDecidable _) (f 11 (key / 256) 1) (-4)) (@ite Int32 (¬ f 11 (key / 256) 7 &&& 2 = 0) (Classical.propDecidable _) (nI (key % 256)) 255)
theorem zGsx_c {f : zM} (hI : zInv f) {p : Nat} {a d o b : Int32} (ha : 0 ≤ a.toInt ∧ a.toInt ≤ 5) (hd : 0 ≤ d.toInt ∧ d.toInt ≤ 1) (ho : (o.toInt = -4 ∨ 0 ≤ o.toInt) ∧ o.toInt ≤ 5) : zGsx f (zcd (zAl (f 1 0 6)) a d o b) p = zbf (zga f p a d o b) (f 1 0 6).toInt.toNat := by
  have hc : 0 ≤ (f 1 0 6).toInt ∧ (f 1 0 6).toInt ≤ 8 := hI 1 0 6
  obtain ⟨l1, l2, l3⟩ := zAl_b hc
  obtain ⟨x0, x1, x2, x3, x4⟩ := zcd_x (al := zAl (f 1 0 6)) (a := a) (d := d) (o := o) (b := b) ⟨l1, l2⟩ ha hd ho.2
  have hb := zcd_b (al := zAl (f 1 0 6)) (b := b) ⟨l1, l2⟩
  have e1 : zAt_ (zcd (zAl (f 1 0 6)) a d o b) = a := by unfold zAt_; rw [x1]; exact (nI_ofI ha.1).1.symm
  have e2 : zDi_ (zcd (zAl (f 1 0 6)) a d o b) = d := by unfold zDi_; rw [x2]; exact (nI_ofI hd.1).1.symm
  have e3 : zDe_ (zcd (zAl (f 1 0 6)) a d o b) = b &&& zAl (f 1 0 6) := by unfold zDe_; rw [x4]; exact (nI_ofI (by omega)).1.symm
  have e4 : zOx_ (zcd (zAl (f 1 0 6)) a d o b) = o := by
    unfold zOx_
    rw [x3]
    unfold zon
    rcases ho.1 with q | q
    · rw [if_pos (show o.toInt < 0 by omega), if_pos rfl, z32eq, q]; decide
    · rw [if_neg (show ¬ o.toInt < 0 by omega), if_neg (by omega), Nat.add_sub_cancel]
      exact (nI_ofI q).1.symm
  unfold zGsx
  rw [e1, e2, e3, e4]
  refine zbf_congr _ (fun i hi => ?_)
  have hbt : bt (b &&& zAl (f 1 0 6)) i = true ↔ bt b i = true := by
    rw [b_and, Bool.and_eq_true]
    exact ⟨fun q => q.1, fun q => ⟨q, (l3 i (by omega)).mpr hi⟩⟩
  unfold zga
  rw [hbt]
theorem zGx_k {f g : zM} (k1 : ∀ j, j < 8 → g 1 0 j = f 1 0 j) (a : ∀ p j, j < 8 → g 11 p j = f 11 p j) (b : ∀ n j, g 8 n j = f 8 n j) (c : ∀ n j, g 9 n j = f 9 n j) (e : ∀ n j, g 10 n j = f 10 n j) (k6 : ∀ j, g 6 0 j = f 6 0 j) : zGsx g = zGsx f ∧ zGpx g = zGpx f ∧ zNsx g = zNsx f ∧ zS0x g = zS0x f ∧ zKs g = zKs f := by
  have h1 : zGsx g = zGsx f := funext (fun s => funext (fun p => by
    unfold zGsx
    rw [k1 6 (by decide)]
    exact zbf_congr _ (fun i _ => zga_k (a p) b c e (k6 0) (k6 2))))
  refine ⟨h1, ?_, ?_, ?_, ?_⟩
  · funext s p; unfold zGpx; rw [h1, k1 7 (by decide)]
  · funext s p; unfold zNsx; rw [h1, k1 7 (by decide), k1 6 (by decide), a p 2 (by decide), a p 7 (by decide)]
  · unfold zS0x; rw [k1 6 (by decide), k6, k6, k6, k6]
  · funext key; unfold zKs; rw [k1 6 (by decide), a _ 1 (by decide), a _ 2 (by decide), a _ 7 (by decide)]
/-- both systems are one -/
theorem zGx_r {f : zM} (hI : zInv f) (Rc : zRc f) (Rd : zRd f) (Rq : zRq f) (Rp : zRp f) (Rl : zRl f) (Rn : zRn f) (Rm : zRm f) : zGpx f = zGp f ∧ zNsx f = zNs f ∧ zS0x f = zS0 f := by
  obtain ⟨m0, m1, m2, m3, m4, m5, m6, m7⟩ := zRm_e Rm
  have hc : 0 ≤ (f 1 0 6).toInt ∧ (f 1 0 6).toInt ≤ 8 := hI 1 0 6
  have hG : ∀ s p : Nat, (p : Int) < (f 1 0 7).toInt → zGsx f s p = zGs f s p := fun s p hp => by
    unfold zGsx zGs
    rw [← Rc.1]
    refine zbf_congr _ (fun i hi => ?_)
    have ho : (zOx_ s).toInt = -4 ∨ 0 ≤ (zOx_ s).toInt := by
      unfold zOx_
      split
      · exact Or.inl (by decide)
      · exact Or.inr (by rw [nI_toInt (by omega)]; omega)
    rw [zga_r hI Rd Rq Rp Rl Rn Rm ho hp (by omega)]
    have hn : (zOn_ s).toInt = (s / 256 % 7 : Nat) - 1 := by
      unfold zOn_
      have e := zsub_e (x := nI (s / 256 % 7)) (y := 1) (by rw [nI_toInt (by omega)]; show _ ≤ _ - (1 : Int); omega) (by rw [nI_toInt (by omega)]; show _ - (1 : Int) ≤ _; omega)
      have c1 : (1 : Int32).toInt = 1 := by decide
      rw [e, nI_toInt (by omega), c1]
    have hoo : ((zOx_ s).toInt < 0 ∨ f 28 0 (8 * p + 2) = zOx_ s) ↔ ((zOn_ s).toInt < 0 ∨ f 28 0 (8 * p + 2) = zOn_ s) := by
      unfold zOx_
      split
      · rename_i q
        rw [q] at hn
        exact ⟨fun _ => Or.inl (by omega), fun _ => Or.inl (by decide)⟩
      · rename_i q
        have e : zOn_ s = nI (s / 256 % 7 - 1) := by rw [z32eq, hn, nI_toInt (by omega)]; omega
        rw [e]
    unfold zgr zmg
    rw [hoo]
  refine ⟨?_, ?_, ?_⟩
  · funext s p
    unfold zGpx zGp
    rw [← Rp.1]
    exact propext ⟨fun q => ⟨q.1, by rw [← hG s p q.1]; exact q.2⟩, fun q => ⟨q.1, by rw [hG s p q.1]; exact q.2⟩⟩
  · funext s p
    unfold zNsx zNs
    rw [← Rp.1, ← Rc.1]
    by_cases hp : (p : Int) < (f 1 0 7).toInt
    · rw [if_pos hp, if_pos hp, hG s p hp, Rp.2.2.1 p 2 hp (by decide), Rp.2.2.1 p 7 hp (by decide)]
    · rw [if_neg hp, if_neg hp]
  · unfold zS0x zS0; rw [← Rc.1, m1, m4, m5, m6]
/-- counting -/
theorem zct_lt {P : Nat → Prop} {s : Nat} (h : ¬ P s) : ∀ n, s < n → zct P n < n ∧ zct P n ≤ n
  | 0, hs => absurd hs (Nat.not_lt_zero s)
  | n + 1, hs => by
    have hle : ∀ k, zct P k ≤ k := by
      intro k
      induction k with
      | zero => exact Nat.le_refl 0
      | succ k ih =>
        by_cases q : P k
        · rw [zct_y q]; omega
        · rw [zct_n q]; omega
    by_cases e : s = n
    · subst e; rw [zct_n h]; have := hle s; omega
    · have ih := zct_lt h n (by omega)
      by_cases q : P n
      · rw [zct_y q]; omega
      · rw [zct_n q]; omega
theorem zct_up {P Q : Nat → Prop} {s : Nat} (h : ¬ P s) (hq : Q s) (ho : ∀ i, i ≠ s → (P i ↔ Q i)) : ∀ n, s < n → zct Q n = zct P n + 1
  | 0, hs => absurd hs (Nat.not_lt_zero s)
  | n + 1, hs => by
    by_cases e : s = n
    · subst e
      rw [zct_y hq, zct_n h, zct_congr s (fun k hk => (ho k (by omega)).symm)]
    · have ih := zct_up h hq ho n (by omega)
      by_cases q : P n
      · rw [zct_y q, zct_y ((ho n (by omega)).mp q), ih]
      · rw [zct_n q, zct_n (fun z => q ((ho n (by omega)).mpr z)), ih]
theorem zct_0 {P : Nat → Prop} : ∀ n, (∀ k, k < n → ¬ P k) → zct P n = 0
  | 0, _ => rfl
  | n + 1, h => by rw [zct_n (h n (by omega))]; exact zct_0 n (fun k hk => h k (by omega))
/-- the steps: entries and marks -/
noncomputable def zsts (b m : zM) (k : Nat) : Nat := if k = 0 then zS0x b else zKs b (m 15 0 k).toInt.toNat
def zpr (m : zM) (k : Nat) : Nat := (m 16 0 k).toInt.toNat
def zpa (m : zM) (k : Nat) : Nat := (m 15 0 k).toInt.toNat / 256
def zxn (m : zM) : Nat := (m 13 0 6).toInt.toNat
def zQx (b m : zM) (e q : Nat) : Prop :=
  (zct (fun key => m 14 0 key = m 13 0 7) 3072 + 1 = zxn m) ∧
  (∀ key, key < 3072 → (m 14 0 key = m 13 0 7 ↔ ∃ k, 0 < k ∧ k < zxn m ∧ (m 15 0 k).toInt.toNat = key)) ∧
  (∀ key, (m 14 0 key).toInt ≤ (m 13 0 7).toInt) ∧
  zBF (zGpx b) (zNsx b) (b 1 0 7).toInt.toNat (zS0x b) (zsts b m) (zpr m) (zpa m) (zxn m) e q
theorem zQx_skip {b m : zM} {e q : Nat} (h : zQx b m e q) (hg : zGpx b (zsts b m e) q → ∃ j, j < zxn m ∧ zsts b m j = zNsx b (zsts b m e) q) : zQx b m e (q + 1) := ⟨h.1, h.2.1, h.2.2.1, zBF_skip h.2.2.2 hg⟩
theorem zQx_row {b m : zM} {e q : Nat} (h : zQx b m e q) (hq : (b 1 0 7).toInt.toNat ≤ q) : zQx b m (e + 1) 0 := ⟨h.1, h.2.1, h.2.2.1, zBF_row h.2.2.2 hq⟩
theorem zQx_k {b m m' : zM} {e q : Nat} (h : zQx b m e q) (k13 : m' 13 0 6 = m 13 0 6) (k137 : m' 13 0 7 = m 13 0 7) (k14 : m' 14 0 = m 14 0) (k15 : m' 15 0 = m 15 0) (k16 : m' 16 0 = m 16 0) : zQx b m' e q := by
  have a1 : zsts b m' = zsts b m := by funext k; unfold zsts; rw [k15]
  have a2 : zxn m' = zxn m := by unfold zxn; rw [k13]
  have a3 : zpr m' = zpr m := by funext k; unfold zpr; rw [k16]
  have a4 : zpa m' = zpa m := by funext k; unfold zpa; rw [k15]
  unfold zQx
  rw [a1, a2, a3, a4, k137, k14, k15]
  exact h
theorem zQx_b {b b' m : zM} {e q : Nat} (h : zQx b m e q) (h1 : zGpx b' = zGpx b) (h2 : zNsx b' = zNsx b) (h3 : zS0x b' = zS0x b) (h4 : zKs b' = zKs b) (h5 : b' 1 0 7 = b 1 0 7) : zQx b' m e q := by
  have a1 : zsts b' m = zsts b m := by funext k; unfold zsts; rw [h3, h4]
  unfold zQx
  rw [a1, h1, h2, h3, h5]
  exact h
theorem zQx_0 {b m : zM} (h6 : m 13 0 6 = 1) (h : ∀ key, (m 14 0 key).toInt < (m 13 0 7).toInt) : zQx b m 0 0 := by
  have hn : zxn m = 1 := by unfold zxn; rw [h6]; decide
  have hno : ∀ key, ¬ m 14 0 key = m 13 0 7 := fun key q => by have := h key; rw [q] at this; omega
  refine ⟨by rw [zct_0 3072 (fun k _ => hno k), hn], fun key _ => ⟨fun q => absurd q (hno key), fun ⟨k, k1, k2, _⟩ => by omega⟩, fun key => by have := h key; omega, ?_⟩
  rw [hn]
  exact zBF_0 (if_pos rfl)
/-- what spread does with one that is new -/
def zsp_ (m : zM) (key step : Int32) : zM := zup (zup (zup (zup m 14 0 key.toInt.toNat (m 13 0 7)) 15 0 (m 13 0 6).toInt.toNat key) 16 0 (m 13 0 6).toInt.toNat step) 13 0 6 (m 13 0 6 + 1)
theorem zQx_add {b m : zM} {e q : Nat} {key step : Int32} (hm : zInv m) (h : zQx b m e q) (he : e < zxn m) (hq : q < (b 1 0 7).toInt.toNat) (hG : zGpx b (zsts b m e) q) (hk : 0 ≤ key.toInt ∧ key.toInt < 3072) (hkp : key.toInt.toNat / 256 = q) (hs : zKs b key.toInt.toNat = zNsx b (zsts b m e) q) (hst : step.toInt = (e : Int)) (hno : ¬ m 14 0 key.toInt.toNat = m 13 0 7) : zQx b (zsp_ m key step) e (q + 1) := by
  have h13 : 0 ≤ (m 13 0 6).toInt ∧ (m 13 0 6).toInt ≤ 3073 := hm 13 0 6
  obtain ⟨h1, h2, h3, h5⟩ := h
  have hlt : zxn m < 3073 := by
    have := (zct_lt (P := fun key => m 14 0 key = m 13 0 7) hno 3072 (by omega)).1
    omega
  have es : (m 13 0 6 + 1 : Int32).toInt = (m 13 0 6).toInt + 1 := zadd_eb (x := m 13 0 6) (hm 13 0 6) (zB.of (x := 1) 1 (by decide)) (by decide) (by decide)
  have hn1 : 1 ≤ zxn m := h5.1.1
  have xo : ∀ a b' c, ¬ (a = 14 ∧ b' = 0 ∧ c = key.toInt.toNat) → ¬ (a = 15 ∧ b' = 0 ∧ c = (m 13 0 6).toInt.toNat) → ¬ (a = 16 ∧ b' = 0 ∧ c = (m 13 0 6).toInt.toNat) → ¬ (a = 13 ∧ b' = 0 ∧ c = 6) → zsp_ m key step a b' c = m a b' c := fun a b' c q1 q2 q3 q4 => by
    unfold zsp_
    rw [zup_ne _ _ q4, zup_ne _ _ q3, zup_ne _ _ q2, zup_ne _ _ q1]
  have x14 : zsp_ m key step 14 0 key.toInt.toNat = m 13 0 7 := by unfold zsp_; rw [zup_ne _ _ (by omega), zup_ne _ _ (by omega), zup_ne _ _ (by omega), zup_same]
  have x15 : zsp_ m key step 15 0 (m 13 0 6).toInt.toNat = key := by unfold zsp_; rw [zup_ne _ _ (by omega), zup_ne _ _ (by omega), zup_same]
  have x16 : zsp_ m key step 16 0 (m 13 0 6).toInt.toNat = step := by unfold zsp_; rw [zup_ne _ _ (by omega), zup_same]
  have x13 : zsp_ m key step 13 0 6 = m 13 0 6 + 1 := by unfold zsp_; rw [zup_same]
  have x7 : zsp_ m key step 13 0 7 = m 13 0 7 := xo 13 0 7 (by omega) (by omega) (by omega) (by omega)
  generalize zsp_ m key step = g at xo x14 x15 x16 x13 x7 ⊢
  have gn : zxn g = zxn m + 1 := by unfold zxn; rw [x13, es]; omega
  have nn : (m 13 0 6).toInt.toNat = zxn m := rfl
  rw [nn] at x15 x16 xo
  have g15 : ∀ k, k ≠ zxn m → g 15 0 k = m 15 0 k := fun k hk => xo 15 0 k (by omega) (by omega) (by omega) (by omega)
  have g16 : ∀ k, k ≠ zxn m → g 16 0 k = m 16 0 k := fun k hk => xo 16 0 k (by omega) (by omega) (by omega) (by omega)
  have g14 : ∀ k, k ≠ key.toInt.toNat → g 14 0 k = m 14 0 k := fun k hk => xo 14 0 k (by omega) (by omega) (by omega) (by omega)
  refine ⟨?_, fun t ht => ?_, fun t => ?_, ?_⟩
  · rw [gn, x7, zct_up (P := fun key => m 14 0 key = m 13 0 7) (Q := fun key => g 14 0 key = m 13 0 7) hno x14 (fun i hi => by rw [g14 i hi]) 3072 (by omega)]
    omega
  · rw [x7, gn]
    by_cases z : t = key.toInt.toNat
    · subst z
      exact ⟨fun _ => ⟨zxn m, by omega, by omega, by rw [x15]⟩, fun _ => x14⟩
    · rw [g14 t z, h2 t ht]
      constructor
      · rintro ⟨k, k1, k2, k3⟩; exact ⟨k, k1, by omega, by rw [g15 k (by omega)]; exact k3⟩
      · rintro ⟨k, k1, k2, k3⟩
        by_cases y : k = zxn m
        · subst y; rw [x15] at k3; exact absurd k3.symm z
        · exact ⟨k, k1, by omega, by rw [← g15 k y]; exact k3⟩
  · rw [x7]
    by_cases z : t = key.toInt.toNat
    · subst z; rw [x14]; exact Int.le_refl _
    · rw [g14 t z]; exact h3 t
  · rw [gn]
    refine zBF_add h5 he hq hG (fun k hk => ⟨?_, ?_, ?_⟩) ⟨?_, ?_, ?_⟩
    · unfold zsts; rw [g15 k (by omega)]
    · unfold zpr; rw [g16 k (by omega)]
    · unfold zpa; rw [g15 k (by omega)]
    · unfold zsts; rw [if_neg (by omega), x15]; exact hs
    · unfold zpr; rw [x16]; omega
    · unfold zpa; rw [x15]; exact hkp
/-- the walker stands for a state -/
def zWk (m : zM) (al : Int32) (s : Nat) : Prop := zcd al (m 6 2 1) (m 6 2 4) (m 6 2 5) (m 6 2 6) = s ∧ ((m 6 2 5).toInt = -4 ∨ 0 ≤ (m 6 2 5).toInt)
theorem z1of8v {x : Int32} {v : Int32} (hx : 0 ≤ x.toInt ∧ x.toInt ≤ 7) (h : zbo v (¬ x &&& 1 = 0)) : v = x &&& 1 := by
  have h1 := z1of8 ⟨x.toInt.toNat, by omega⟩
  simp only at h1
  rw [← (nI_ofI hx.1).1] at h1
  rcases h with ⟨a, b⟩ | ⟨a, b⟩
  · rw [a, h1.mp b]
  · rw [a, Classical.byContradiction b]

theorem zWs_k0 {f g : zM} (h : zWs f) (k1 : ∀ j, j < 8 → g 1 0 j = f 1 0 j) (k11 : ∀ p j, g 11 p j = f 11 p j) (k8 : ∀ n j, g 8 n j = f 8 n j) (k9 : ∀ n j, g 9 n j = f 9 n j) (k10 : ∀ n j, g 10 n j = f 10 n j) (c0 : g 6 0 0 = f 6 0 0) (c2 : g 6 0 2 = f 6 0 2) : zWs g := by
  intro q hq
  rw [k1 7 (by decide)] at hq
  obtain ⟨h1, h2⟩ := h q hq
  rw [k11, k11, k1 6 (by decide)]
  refine ⟨h1.trans ?_, h2.trans ?_⟩
  · exact zbf_congr _ (fun i _ => by rw [zcx_k (fun j _ => k11 q j) k8 k9 k10, zbx_k0 (fun j _ => k11 q j) k8 c0 c2])
  · exact zbf_congr _ (fun i _ => by rw [k8, k11])
theorem zKs_n {f : zM} {s p key : Nat} (hI : zInv f) (hG : zGpx f s p) (hd : key / 256 = p) (hm : ¬ f 11 p 7 &&& 2 = 0 → nI (key % 256) = zGsx f s p) : zKs f key = zNsx f s p := by
  have b8 : (f 1 0 6).toInt ≤ 8 := (hI 1 0 6).2
  have hfr : f 11 p 1 = zAt_ s := by
    obtain ⟨i, _, h⟩ := (zbf_ne (by omega)).mp hG.2
    exact h.1.1
  unfold zKs zNsx
  rw [hd, if_pos hG.1, hfr]
  by_cases q : ¬ f 11 p 7 &&& 2 = 0
  · rw [if_pos q, if_pos q, hm q]
  · rw [if_neg q, if_neg q]
/-- he may be tried in this state: the class -/
def zQs (f : zM) (a : Int32) (d s : Nat) : Prop := zAt_ s = a ∧ zMTx f a d ∧ bt (zDe_ s) d = true
theorem zQs_r {f : zM} (hI : zInv f) (Rd : zRd f) (Rq : zRq f) (Rl : zRl f) (Ro : zRo f) {a : Int32} {k s : Nat} (ha : 0 ≤ a.toInt ∧ a.toInt ≤ 5) (hk : (k : Int) < (f 1 0 6).toInt) : zQs f a k s ↔ zQr f a k s := by
  have h := zmt_r hI Rd Rq Rl Ro ha hk
  have b8 : (f 1 0 6).toInt ≤ 8 := (hI 1 0 6).2
  have h255 := zb255d k (by omega)
  unfold zTMm at h
  unfold zQs zQr
  rw [h]
  exact ⟨fun q => ⟨q.1, q.2.1.1, q.2.1.2.1, q.2.2⟩, fun q => ⟨q.1, ⟨q.2.1, q.2.2.1, h255⟩, q.2.2.2⟩⟩
/-- what the walker says of its state -/
theorem zWk_x {f m : zM} {s : Nat} (hf : zInv f) (hm : zInv m) (h : zWk m (zAl (f 1 0 6)) s) : s < 21504 ∧ zAt_ s = m 6 2 1 ∧ s / 3584 = (m 6 2 1).toInt.toNat ∧ (∀ i, i < (f 1 0 6).toInt.toNat → (bt (zDe_ s) i = true ↔ bt (m 6 2 6) i = true)) := by
  have hc : 0 ≤ (f 1 0 6).toInt ∧ (f 1 0 6).toInt ≤ 8 := hf 1 0 6
  have r1 : 0 ≤ (m 6 2 1).toInt ∧ (m 6 2 1).toInt ≤ 5 := hm 6 2 1
  have r4 : 0 ≤ (m 6 2 4).toInt ∧ (m 6 2 4).toInt ≤ 1 := hm 6 2 4
  have r5 : (m 6 2 5).toInt ≤ 5 := (hm 6 2 5).2
  obtain ⟨l1, l2, l3⟩ := zAl_b hc
  obtain ⟨x0, x1, x2, x3, x4⟩ := zcd_x (al := zAl (f 1 0 6)) (a := m 6 2 1) (d := m 6 2 4) (o := m 6 2 5) (b := m 6 2 6) ⟨l1, l2⟩ r1 r4 r5
  have hb := zcd_b (al := zAl (f 1 0 6)) (b := m 6 2 6) ⟨l1, l2⟩
  rw [h.1] at x0 x1 x4
  refine ⟨x0, ?_, x1, fun i hi => ?_⟩
  · unfold zAt_; rw [x1]; exact (nI_ofI r1.1).1.symm
  · have e3 : zDe_ s = m 6 2 6 &&& zAl (f 1 0 6) := by unfold zDe_; rw [x4]; exact (nI_ofI (by omega)).1.symm
    rw [e3, b_and, Bool.and_eq_true]
    exact ⟨fun q => q.1, fun q => ⟨q, (l3 i (by omega)).mpr hi⟩⟩

set_option maxRecDepth 100000 in
set_option maxHeartbeats 4000000 in
theorem x_X5_begin (d : Nat) (f : zM)  (hI : zInv f) : ZM d yX5_begin cX5_begin 1 none [zr 13 0] f (fun r g => r = none ∧ zInv g ∧ zFr [(13, some 6), (13, some 7)] f g ∧ (g = zup (zup f 13 0 7 (f 13 0 7 + 1)) 13 0 6 1)) := by
  refine ZM.intro (by decide +kernel) (Nat.le_of_ble_eq_true rfl) ?_
  intro X C hr hn
  have hF : zFr [(13, some 6), (13, some 7)] f f := zFr.rf _ _
  show Z X 0 [some (zr 13 0)] [] f
  refine z_aload_n (pc := 0) C dX5_begin_0 rfl ?_
  refine z_dupr (pc := 1) C dX5_begin_1 ?_
  refine z_getI (pc := 2) C zf_X5_58 rfl rfl (by decide) dX5_begin_2 ?_
  refine w_gp (fun v => v = f 13 0 7) rfl (fun v2 q2 => ?_)
  have b2x : zB v2 (-2147483648) 2147483647 := by rw [q2]; exact (hI 13 0 7)
  refine z_iconst (pc := 5) (v := 1) C dX5_begin_5 (by decide) ?_
  refine z_iadd (pc := 6) C dX5_begin_6 ?_
  refine w_gp (fun v => v = v2 + (1 : Int32)) rfl (fun v3 q3 => ?_)
  refine z_putI (pc := 7) C zf_X5_58 zp_5_7 rfl rfl (by decide) dX5_begin_7 ?_
  refine w_memy hI hF (zB_any v3) rfl (fun g4 qm4 hI4 hF4 => ?_)
  refine z_aload_n (pc := 10) C dX5_begin_10 rfl ?_
  refine z_iconst (pc := 11) (v := 1) C dX5_begin_11 (by decide) ?_
  refine z_putI (pc := 12) C zf_X5_38 zp_5_6 rfl rfl (by decide) dX5_begin_12 ?_
  refine w_memy hI4 hF4 (zB.wk (a' := 0) (b' := 3073) (zB.of (x := 1) 1 (by decide)) (by decide) (by decide)) rfl (fun g5 qm5 hI5 hF5 => ?_)
  exact z_vret (pc := 15) C hr dX5_begin_15 ⟨rfl, hI5, hF5, (by rw [qm5, qm4, q3, q2])⟩

set_option maxRecDepth 100000 in
set_option maxHeartbeats 4000000 in
theorem y_X5_placeWalker (d : Nat) (f : zM) (a1 : Int32) (b1 : zB a1 0 3072) (hp0 : ((f 6 0 5).toInt = -4 ∨ 0 ≤ (f 6 0 5).toInt)) (hI : zInv f) : ZM (d + 2) yX5_placeWalker cX5_placeWalker 2 none [zr 13 0, zi a1] f (fun r g => r = none ∧ zInv g ∧ zFr [(6, some 1), (6, some 4), (6, some 5), (6, some 6)] f g ∧ ((∀ a b c, ¬ (a = 6 ∧ b = 2) → g a b c = f a b c)) ∧ (zWk g (zAl (f 1 0 6)) (zsts f f a1.toInt.toNat)) ∧ ((∀ n j, n ≠ 2 → g 6 n j = f 6 n j))) := by
  refine ZM.intro (by decide +kernel) (Nat.le_of_ble_eq_true rfl) ?_
  intro X C hr hn
  have hF : zFr [(6, some 1), (6, some 4), (6, some 5), (6, some 6)] f f := zFr.rf _ _
  show Z X 0 [some (zr 13 0), some (zi a1)] [] f
  refine z_iload_n (pc := 0) C dX5_placeWalker_0 rfl ?_
  refine z_if_ne (pc := 1) 21 C dX5_placeWalker_1 (by decide) (fun h1_0 => ?_) (fun h1_0 => ?_)
  · skip
    have b2x : zB a1 1 3072 := by have q1 := b1; have q2 := (zB.of (x := 0) 0 (by decide)); simp only [z32lt, z32le, z32eq, Int32.reduceToInt, Int32.toInt_zero] at h1_0; constructor <;> omega
    refine z_aload_n (pc := 21) C dX5_placeWalker_21 rfl ?_
    refine z_getR (pc := 22) C zf_X5_12 rfl rfl (by decide) dX5_placeWalker_22 ?_
    refine z_aload_n (pc := 25) C dX5_placeWalker_25 rfl ?_
    refine z_getR (pc := 26) C zf_X5_31 rfl rfl (by decide) dX5_placeWalker_26 ?_
    refine z_getR (pc := 29) C zf_X5_68 rfl rfl (by decide) dX5_placeWalker_29 ?_
    refine z_aload_n (pc := 32) C dX5_placeWalker_32 rfl ?_
    refine z_getR (pc := 33) C zf_X5_22 rfl rfl (by decide) dX5_placeWalker_33 ?_
    refine z_iload_n (pc := 36) C dX5_placeWalker_36 rfl ?_
    refine z_iald (pc := 37) C rfl (by decide) (zIx b2x (by decide) (by decide)) dX5_placeWalker_37 ?_
    have kq37_2 : a1.toNatClampNeg = a1.toInt.toNat := rfl
    refine w_gp (fun v => v = f 15 0 a1.toNatClampNeg) rfl (fun v3 q3 => ?_)
    have b3x : zB v3 0 3071 := by rw [q3]; exact (hI 15 0 a1.toNatClampNeg)
    refine z_sipush (pc := 38) (v := 256) C dX5_placeWalker_38 (by decide) ?_
    refine z_idiv (pc := 41) C dX5_placeWalker_41 (by decide) ?_
    refine w_gp (fun v => v = v3 / (256 : Int32)) rfl (fun v4 q4 => ?_)
    have b4x : zB v4 0 11 := by rw [q4]; exact (zdiv_b 256 b3x (by decide) (by decide) (by decide))
    refine z_aald (pc := 42) C rfl ⟨rfl, by decide⟩ (by decide) (zIx b4x (by decide) (by decide)) dX5_placeWalker_42 ?_
    refine w_grx (by have hq := zN b4x (by decide); show 12 * 0 + v4.toNatClampNeg < 36; omega) (fun m5 q5r h5x => ?_)
    have q5r : m5 = 12 * 0 + v4.toNatClampNeg := q5r
    have k5r : v4.toNatClampNeg = v4.toInt.toNat := rfl
    refine z_aload_n (pc := 43) C dX5_placeWalker_43 rfl ?_
    refine z_getR (pc := 44) C zf_X5_22 rfl rfl (by decide) dX5_placeWalker_44 ?_
    refine z_iload_n (pc := 47) C dX5_placeWalker_47 rfl ?_
    refine z_iald (pc := 48) C rfl (by decide) (zIx b2x (by decide) (by decide)) dX5_placeWalker_48 ?_
    have kq48_5 : a1.toNatClampNeg = a1.toInt.toNat := rfl
    refine w_gp (fun v => v = f 15 0 a1.toNatClampNeg) rfl (fun v6 q6 => ?_)
    have b6x : zB v6 0 3071 := by rw [q6]; exact (hI 15 0 a1.toNatClampNeg)
    refine z_sipush (pc := 49) (v := 256) C dX5_placeWalker_49 (by decide) ?_
    refine z_irem (pc := 52) C dX5_placeWalker_52 (by decide) ?_
    refine w_gp (fun v => v = v6 - v6 / (256 : Int32) * (256 : Int32)) rfl (fun v7 q7 => ?_)
    have b7x : zB v7 0 255 := by rw [q7]; exact (zrem_b 256 b6x (by decide) (by decide) (by decide))
    refine z_callV (pc := 53) C zk_X5_72 (x_X3_go _ _ 2 (by decide) m5 h5x v7 b7x hI) rfl rfl (by decide) rfl rfl (Nat.le_of_ble_eq_true rfl) dX5_placeWalker_53 (fun r8 g8 q8 => ?_)
    obtain ⟨rfl, hI8, hF8q, hp8_0, hp8_1, hp8_2, hp8_3, hp8_4⟩ := q8
    have hF8 := zFr.tr hF hF8q (by decide)
    simp only [Option.toList, List.cons_append, List.nil_append]
    exact z_vret (pc := 56) C hr dX5_placeWalker_56 ⟨rfl, hI8, hF8, (by intro a b c h; exact hp8_0 a b c (by omega)), (by
                                                                                          have hz : ¬ a1.toInt.toNat = 0 := by
                                                                                            have h : ¬ a1 = 0 := by assumption
                                                                                            have c0 : (0 : Int32).toInt = 0 := by decide
                                                                                            rw [z32eq, c0] at h
                                                                                            omega
                                                                                          have r37 : v3 = f 15 0 a1.toInt.toNat := q3
                                                                                          have r48 : v6 = f 15 0 a1.toInt.toNat := q6
                                                                                          have b15 : 0 ≤ (f 15 0 a1.toInt.toNat).toInt ∧ (f 15 0 a1.toInt.toNat).toInt ≤ 3071 := hI 15 0 _
                                                                                          have c256 : (256 : Int32).toInt = 256 := by decide
                                                                                          have e41 : (v4).toInt = (f 15 0 a1.toInt.toNat).toInt / 256 := by
                                                                                            rw [q4, r37, zdiv_e b15.1 (by decide), c256]
                                                                                          have e52 : v7 = nI ((f 15 0 a1.toInt.toNat).toInt.toNat % 256) := by
                                                                                            rw [q7, r48, z32eq, zrem_e b15.1 (by decide), c256, nI_toInt (by omega)]
                                                                                            omega
                                                                                          have hx : m5 = (f 15 0 a1.toInt.toNat).toInt.toNat / 256 := by omega
                                                                                          have o1 := hp8_1
                                                                                          have o2 := hp8_2
                                                                                          have o3 := hp8_3
                                                                                          have o4 := hp8_4
                                                                                          rw [hx] at o1 o2 o3 o4
                                                                                          have d4 := z1of8v (hI 11 _ 7) o2
                                                                                          have b1 : 0 ≤ (f 11 ((f 15 0 a1.toInt.toNat).toInt.toNat / 256) 1).toInt := (hI 11 _ 1).1
                                                                                          unfold zsts
                                                                                          rw [if_neg hz]
                                                                                          unfold zKs
                                                                                          refine ⟨?_, ?_⟩
                                                                                          · rw [o1, d4]
                                                                                            rcases o3 with ⟨y1, y2⟩ | ⟨y1, y2⟩ <;> rcases o4 with ⟨u1, u2⟩ | ⟨u1, u2⟩
                                                                                            · rw [y2, u2, if_pos y1, if_pos u1, e52]
                                                                                            · rw [y2, u2, if_pos y1, if_neg (fun h => h u1)]
                                                                                            · rw [y2, u2, if_neg (fun h => h y1), if_pos u1, e52]
                                                                                            · rw [y2, u2, if_neg (fun h => h y1), if_neg (fun h => h u1)]
                                                                                          · rcases o3 with ⟨y1, y2⟩ | ⟨y1, y2⟩
                                                                                            · rw [y2]; exact Or.inr b1
                                                                                            · rw [y2]; exact Or.inl (by decide)), (by intro n j hn; exact ((hp8_0 6 n j (by omega))).trans (rfl))⟩
  · skip
    have b9x : zB a1 0 0 := by have q1 := b1; have q2 := (zB.of (x := 0) 0 (by decide)); simp only [z32lt, z32le, z32eq, Int32.reduceToInt, Int32.toInt_zero] at h1_0; constructor <;> omega
    refine z_aload_n (pc := 4) C dX5_placeWalker_4 rfl ?_
    refine z_getR (pc := 5) C zf_X5_12 rfl rfl (by decide) dX5_placeWalker_5 ?_
    refine z_aload_n (pc := 8) C dX5_placeWalker_8 rfl ?_
    refine z_getR (pc := 9) C zf_X5_31 rfl rfl (by decide) dX5_placeWalker_9 ?_
    refine z_getR (pc := 12) C zf_X5_61 rfl rfl (by decide) dX5_placeWalker_12 ?_
    refine z_callV (pc := 15) C zk_X5_64 (x_X3_stand _ _ 2 (by decide) 0 (by decide) (by omega) hI) rfl rfl (by decide) rfl rfl (Nat.le_of_ble_eq_true rfl) dX5_placeWalker_15 (fun r10 g10 q10 => ?_)
    obtain ⟨rfl, hI10, hF10q, hp10_0, hp10_1⟩ := q10
    have hF10 := zFr.tr hF hF10q (by decide)
    simp only [Option.toList, List.cons_append, List.nil_append]
    refine z_goto (pc := 18) 56 C dX5_placeWalker_18 (by decide) ?_
    exact z_vret (pc := 56) C hr dX5_placeWalker_56 ⟨rfl, hI10, hF10, (by
                                                                                          intro a b c h
                                                                                          by_cases e : a = 6
                                                                                          · subst e; exact hp10_1 b c (by omega)
                                                                                          · exact hF10q a b c (by simp [zS]; omega)), (by
                                                                                          have s0 := hp10_0
                                                                                          have hz : a1.toInt.toNat = 0 := by
                                                                                            have h : a1 = 0 := by assumption
                                                                                            rw [h]; decide
                                                                                          unfold zsts
                                                                                          rw [hz, if_pos rfl]
                                                                                          unfold zS0x
                                                                                          exact ⟨by rw [s0.1, s0.2.1, s0.2.2.1, s0.2.2.2], by rw [s0.2.2.1]; exact hp0⟩), (by intro n j hn; exact ((hp10_1 n j hn)).trans (rfl))⟩

set_option maxRecDepth 100000 in
set_option maxHeartbeats 4000000 in
theorem y_X5_spread (d : Nat) (f : zM) (a1 : Int32) (b1 : zB a1 0 3072) (hp0 : zWs f) (hp1 : zQx f f a1.toInt.toNat 0) (hp2 : a1.toInt.toNat < zxn f) (hp3 : zWk f (zAl (f 1 0 6)) (zsts f f a1.toInt.toNat)) (hI : zInv f) : ZM (d + 2) yX5_spread cX5_spread 5 none [zr 13 0, zi a1] f (fun r g => r = none ∧ zInv g ∧ zFr [(13, some 6), (14, none), (15, none), (16, none)] f g ∧ (zQx f g (a1.toInt.toNat + 1) 0) ∧ ((∀ k, k < zxn f → g 15 0 k = f 15 0 k)) ∧ (zxn f ≤ zxn g)) := by
  refine ZM.intro (by decide +kernel) (Nat.le_of_ble_eq_true rfl) ?_
  intro X C hr hn
  have hF : zFr [(13, some 6), (14, none), (15, none), (16, none)] f f := zFr.rf _ _
  have ct13_0_6 : zB (f 13 0 6) 0 3073 := hI 13 0 6
  have ct1_0_7 : zB (f 1 0 7) 0 12 := hI 1 0 7
  have J : ∀ t : Nat, (∀ a2_2 : Int32, zB a2_2 0 12 → ∀ g : zM, zInv g → zFr [(13, some 6), (14, none), (15, none), (16, none)] f g → zB (g 1 0 7) 0 12 → zB (g 13 0 6) 0 3073 → (zQx f g a1.toInt.toNat a2_2.toInt.toNat) → (zsts f g a1.toInt.toNat = zsts f f a1.toInt.toNat) → ((∀ k, k < zxn f → g 15 0 k = f 15 0 k)) → (zxn f ≤ zxn g) → (a1.toInt < (g 13 0 6).toInt) → (a2_2.toInt ≤ (f 1 0 7).toInt) → ((g 1 0 7).toInt = (f 1 0 7).toInt) → (0 + 3 * (12 - a2_2.toInt) : Int) < t → Z X 2 [some (zr 13 0), some (zi a1), some (zi a2_2), none, none] [] g) := by
    intro t
    induction t with
    | zero =>
      intros; exfalso; omega
    | succ t ih =>
      have ih0 := ih
      intro a2_2 b2_2 g2_ hI2_ hF2_ f2_1_0_7 f2_13_0_6 hR2_0 hR2_1 hR2_2 hR2_3 hR2_4 hR2_5 hR2_6 hM2_
      refine z_iload_n (pc := 2) C dX5_spread_2 rfl ?_
      refine z_aload_n (pc := 3) C dX5_spread_3 rfl ?_
      refine z_getR (pc := 4) C zf_X5_31 rfl rfl (by decide) dX5_spread_4 ?_
      refine z_getI (pc := 7) C zf_X5_76 rfl rfl (by decide) dX5_spread_7 ?_
      refine w_gp (fun v => v = g2_ 1 0 7) rfl (fun v1 q1 => ?_)
      have e1 : v1.toInt = (g2_ 1 0 7).toInt := by rw [q1]
      have b1x : zB v1 0 12 := by first | exact zB.eqv e1 f2_1_0_7 | (have q9 := f2_1_0_7; constructor <;> omega)
      refine z_icmp_ge (pc := 10) 139 C dX5_spread_10 (by decide) (fun h10_1 => ?_) (fun h10_1 => ?_)
      · skip
        have rr3 : a2_2.toInt ≥ v1.toInt := by simp only [z32lt, z32le, z32eq] at h10_1; omega
        exact z_vret (pc := 139) C hr dX5_spread_139 ⟨rfl, hI2_, hF2_, (by exact zQx_row hR2_0 (by omega)), (by exact hR2_2), (by exact hR2_3)⟩
      · skip
        have rr4 : a2_2.toInt < v1.toInt := by simp only [z32lt, z32le, z32eq] at h10_1; omega
        have b5x : zB a2_2 0 11 := by have q1 := b2_2; have q2 := b1x; simp only [z32lt, z32le, z32eq, Int32.reduceToInt, Int32.toInt_zero] at h10_1; constructor <;> omega
        have b6x : zB v1 1 12 := by have q1 := b2_2; have q2 := b1x; simp only [z32lt, z32le, z32eq, Int32.reduceToInt, Int32.toInt_zero] at h10_1; constructor <;> omega
        have c7x : zB (g2_ 1 0 7) 1 12 := by first | assumption | (constructor <;> omega)
        refine z_aload_n (pc := 13) C dX5_spread_13 rfl ?_
        refine z_getR (pc := 14) C zf_X5_12 rfl rfl (by decide) dX5_spread_14 ?_
        refine z_aload_n (pc := 17) C dX5_spread_17 rfl ?_
        refine z_getR (pc := 18) C zf_X5_31 rfl rfl (by decide) dX5_spread_18 ?_
        refine z_getR (pc := 21) C zf_X5_68 rfl rfl (by decide) dX5_spread_21 ?_
        refine z_iload_n (pc := 24) C dX5_spread_24 rfl ?_
        refine z_aald (pc := 25) C rfl ⟨rfl, by decide⟩ (by decide) (zIx b5x (by decide) (by decide)) dX5_spread_25 ?_
        refine w_grx (by have hq := zN b5x (by decide); show 12 * 0 + a2_2.toNatClampNeg < 36; omega) (fun m8 q8r h8x => ?_)
        have q8r : m8 = 12 * 0 + a2_2.toNatClampNeg := q8r
        have k8r : a2_2.toNatClampNeg = a2_2.toInt.toNat := rfl
        refine z_callV (pc := 26) C zk_X5_79 (x_X3_goesBy _ _ 2 (by decide) m8 h8x hI2_) rfl rfl (by decide) rfl rfl (Nat.le_of_ble_eq_true rfl) dX5_spread_26 (fun r9 g9 q9 => ?_)
        obtain ⟨⟨v9, rfl, b9x⟩, hI9, hF9q, hp9_0⟩ := q9
        have hp9_0 := hp9_0 _ rfl
        obtain rfl := zFr_nil hF9q
        simp only [Option.toList, List.cons_append, List.nil_append]
        refine z_istore_n (pc := 29) C dX5_spread_29 (by rw [hn]; decide) rfl ?_
        refine z_iload_n (pc := 30) C dX5_spread_30 rfl ?_
        refine z_sipush (pc := 31) (v := 256) C dX5_spread_31 (by decide) ?_
        refine z_imul (pc := 34) C dX5_spread_34 ?_
        refine w_gp (fun v => v = a2_2 * (256 : Int32)) rfl (fun v10 q10 => ?_)
        have e10 : v10.toInt = 256 * a2_2.toInt := by rw [q10]; exact (by rw [Int32.mul_comm]; exact zmul_kb 256 (by decide) (by decide) b5x (by decide) (by decide))
        have b10x : zB v10 0 2816 := zmul_bb e10 (by decide) b5x
        refine z_aload_n (pc := 35) C dX5_spread_35 rfl ?_
        refine z_getR (pc := 36) C zf_X5_31 rfl rfl (by decide) dX5_spread_36 ?_
        refine z_getR (pc := 39) C zf_X5_68 rfl rfl (by decide) dX5_spread_39 ?_
        refine z_iload_n (pc := 42) C dX5_spread_42 rfl ?_
        refine z_aald (pc := 43) C rfl ⟨rfl, by decide⟩ (by decide) (zIx b5x (by decide) (by decide)) dX5_spread_43 ?_
        refine w_grx (by have hq := zN b5x (by decide); show 12 * 0 + a2_2.toNatClampNeg < 36; omega) (fun m11 q11r h11x => ?_)
        have q11r : m11 = 12 * 0 + a2_2.toNatClampNeg := q11r
        have k11r : a2_2.toNatClampNeg = a2_2.toInt.toNat := rfl
        refine z_iconst (pc := 44) (v := 2) C dX5_spread_44 (by decide) ?_
        refine z_callV (pc := 45) C zk_X5_83 (x_X4_pledges _ _ m11 h11x 2 (zB.wk (a' := 0) (b' := 7) (zB.of (x := 2) 2 (by decide)) (by decide) (by decide)) hI2_) rfl rfl h11x rfl rfl (Nat.le_of_ble_eq_true rfl) dX5_spread_45 (fun r12 g12 q12 => ?_)
        have qa12_2 : (2 : Int32).toInt = 2 := by decide
        obtain ⟨⟨v12, rfl, b12x⟩, hI12, hF12q, hp12_0⟩ := q12
        have hp12_0 := hp12_0 _ rfl
        obtain rfl := zFr_nil hF12q
        simp only [Option.toList, List.cons_append, List.nil_append]
        refine z_if_eq (pc := 48) 55 C dX5_spread_48 (by decide) (fun h48_12 => ?_) (fun h48_12 => ?_)
        · skip
          have b14x : zB v12 0 0 := by have q1 := b12x; have q2 := (zB.of (x := 0) 0 (by decide)); simp only [z32lt, z32le, z32eq, Int32.reduceToInt, Int32.toInt_zero] at h48_12; constructor <;> omega
          refine z_sipush (pc := 55) (v := 255) C dX5_spread_55 (by decide) ?_
          refine z_iadd (pc := 58) C dX5_spread_58 ?_
          refine w_gp (fun v => v = v10 + (255 : Int32)) rfl (fun v15 q15 => ?_)
          have e15 : v15.toInt = v10.toInt + 255 := by rw [q15]; exact (zadd_eb b10x (zB.of (x := 255) 255 (by decide)) (by decide) (by decide))
          have b15x : zB v15 255 3071 := by have q1 := b10x; have q2 := (zB.of (x := 255) 255 (by decide)); constructor <;> omega
          refine z_istore (pc := 59) C dX5_spread_59 (by rw [hn]; decide) rfl ?_
          refine z_iload_n (pc := 61) C dX5_spread_61 rfl ?_
          refine z_if_eq (pc := 62) 133 C dX5_spread_62 (by decide) (fun h62_15 => ?_) (fun h62_15 => ?_)
          · skip
            have b17x : zB v9 0 0 := by have q1 := b9x; have q2 := (zB.of (x := 0) 0 (by decide)); simp only [z32lt, z32le, z32eq, Int32.reduceToInt, Int32.toInt_zero] at h62_15; constructor <;> omega
            refine z_iinc (pc := 133) (v := 1) C dX5_spread_133 rfl (by decide) (by rw [hn]; decide) rfl ?_
            obtain ⟨v18, hv18, e18⟩ : ∃ v : Int32, v = a2_2 + 1 ∧ v.toInt = a2_2.toInt + 1 := ⟨_, rfl, zadd_eb b5x (zB.of (x := 1) 1 (by decide)) (by decide) (by decide)⟩
            rw [← hv18]
            have b18x : zB v18 1 12 := by have q9 := b5x; constructor <;> omega
            refine z_goto (pc := 136) 2 C dX5_spread_136 (by decide) ?_
            refine w_mask [3, 4] ?_
            exact ih0 v18 (zB.wk (a' := 0) (b' := 12) b18x (by decide) (by decide)) g2_ hI2_ hF2_ (zB.wk c7x (by decide) (by decide)) f2_13_0_6 (by
                                                                                          have hn : (v18).toInt.toNat = a2_2.toInt.toNat + 1 := by omega
                                                                                          have hx : m8 = a2_2.toInt.toNat := by omega
                                                                                          have b8 : 0 ≤ (f 1 0 6).toInt ∧ (f 1 0 6).toInt ≤ 8 := hI 1 0 6
                                                                                          have hg := hp9_0
                                                                                          rw [hx] at hg
                                                                                          have hv := zgb (f := f) hI hp0 (by omega) (fun j => hF2_ 11 _ j rfl) hg
                                                                                          rw [hF2_ 6 2 1 rfl, hF2_ 6 2 4 rfl, hF2_ 6 2 5 rfl, hF2_ 6 2 6 rfl] at hv
                                                                                          have r1 : 0 ≤ (f 6 2 1).toInt ∧ (f 6 2 1).toInt ≤ 5 := hI 6 2 1
                                                                                          have r4 : 0 ≤ (f 6 2 4).toInt ∧ (f 6 2 4).toInt ≤ 1 := hI 6 2 4
                                                                                          have r5 : (f 6 2 5).toInt ≤ 5 := (hI 6 2 5).2
                                                                                          have hgs : v9 = zGsx f (zsts f g2_ a1.toInt.toNat) a2_2.toInt.toNat := by
                                                                                            rw [hR2_1, ← hp3.1, zGsx_c hI r1 r4 ⟨hp3.2, r5⟩]; exact hv
                                                                                          have hx2 : m11 = a2_2.toInt.toNat := by omega
                                                                                          have hpl := hp12_0
                                                                                          rw [hx2, hF2_ 11 _ 7 rfl] at hpl
                                                                                          rw [hn]
                                                                                          exact zQx_skip hR2_0 (fun h => absurd (hgs.symm.trans (by assumption)) h.2)) (by exact hR2_1) (by exact hR2_2) (by exact hR2_3) (by omega) (by omega) (by omega) (by omega)
          · skip
            have b19x : zB v9 1 255 := by have q1 := b9x; have q2 := (zB.of (x := 0) 0 (by decide)); simp only [z32lt, z32le, z32eq, Int32.reduceToInt, Int32.toInt_zero] at h62_15; constructor <;> omega
            refine z_aload_n (pc := 65) C dX5_spread_65 rfl ?_
            refine z_getR (pc := 66) C zf_X5_18 rfl rfl (by decide) dX5_spread_66 ?_
            refine z_iload (pc := 69) C dX5_spread_69 rfl ?_
            refine z_iald (pc := 71) C rfl (by decide) (zIx b15x (by decide) (by decide)) dX5_spread_71 ?_
            have kq71_19 : v15.toNatClampNeg = v15.toInt.toNat := rfl
            refine w_gp (fun v => v = g2_ 14 0 v15.toNatClampNeg) rfl (fun v20 q20 => ?_)
            have b20x : zB v20 (-2147483648) 2147483647 := by rw [q20]; exact (hI2_ 14 0 v15.toNatClampNeg)
            refine z_aload_n (pc := 72) C dX5_spread_72 rfl ?_
            refine z_getI (pc := 73) C zf_X5_58 rfl rfl (by decide) dX5_spread_73 ?_
            refine w_gp (fun v => v = g2_ 13 0 7) rfl (fun v22 q22 => ?_)
            have b22x : zB v22 (-2147483648) 2147483647 := by rw [q22]; exact (hI2_ 13 0 7)
            refine z_icmp_eq (pc := 76) 133 C dX5_spread_76 (by decide) (fun h76_22 => ?_) (fun h76_22 => ?_)
            · skip
              have rr24 : v20.toInt = v22.toInt := by simp only [z32lt, z32le, z32eq] at h76_22; omega
              refine z_iinc (pc := 133) (v := 1) C dX5_spread_133 rfl (by decide) (by rw [hn]; decide) rfl ?_
              obtain ⟨v25, hv25, e25⟩ : ∃ v : Int32, v = a2_2 + 1 ∧ v.toInt = a2_2.toInt + 1 := ⟨_, rfl, zadd_eb b5x (zB.of (x := 1) 1 (by decide)) (by decide) (by decide)⟩
              rw [← hv25]
              have b25x : zB v25 1 12 := by have q9 := b5x; constructor <;> omega
              refine z_goto (pc := 136) 2 C dX5_spread_136 (by decide) ?_
              refine w_mask [3, 4] ?_
              exact ih0 v25 (zB.wk (a' := 0) (b' := 12) b25x (by decide) (by decide)) g2_ hI2_ hF2_ (zB.wk c7x (by decide) (by decide)) f2_13_0_6 (by
                                                                                          have hn : (v25).toInt.toNat = a2_2.toInt.toNat + 1 := by omega
                                                                                          have hx : m8 = a2_2.toInt.toNat := by omega
                                                                                          have b8 : 0 ≤ (f 1 0 6).toInt ∧ (f 1 0 6).toInt ≤ 8 := hI 1 0 6
                                                                                          have hg := hp9_0
                                                                                          rw [hx] at hg
                                                                                          have hv := zgb (f := f) hI hp0 (by omega) (fun j => hF2_ 11 _ j rfl) hg
                                                                                          rw [hF2_ 6 2 1 rfl, hF2_ 6 2 4 rfl, hF2_ 6 2 5 rfl, hF2_ 6 2 6 rfl] at hv
                                                                                          have r1 : 0 ≤ (f 6 2 1).toInt ∧ (f 6 2 1).toInt ≤ 5 := hI 6 2 1
                                                                                          have r4 : 0 ≤ (f 6 2 4).toInt ∧ (f 6 2 4).toInt ≤ 1 := hI 6 2 4
                                                                                          have r5 : (f 6 2 5).toInt ≤ 5 := (hI 6 2 5).2
                                                                                          have hgs : v9 = zGsx f (zsts f g2_ a1.toInt.toNat) a2_2.toInt.toNat := by
                                                                                            rw [hR2_1, ← hp3.1, zGsx_c hI r1 r4 ⟨hp3.2, r5⟩]; exact hv
                                                                                          have hx2 : m11 = a2_2.toInt.toNat := by omega
                                                                                          have hpl := hp12_0
                                                                                          rw [hx2, hF2_ 11 _ 7 rfl] at hpl
                                                                                          have hG : zGpx f (zsts f g2_ a1.toInt.toNat) a2_2.toInt.toNat := ⟨by omega, fun z => absurd (hgs.trans z) (by assumption)⟩
                                                                                          have b26 : 0 ≤ (v9).toInt ∧ (v9).toInt ≤ 255 := by omega
                                                                                          have hK : zKs f (v15).toInt.toNat = zNsx f (zsts f g2_ a1.toInt.toNat) a2_2.toInt.toNat := by
                                                                                            refine zKs_n hI hG (by omega) (fun q => ?_)
                                                                                            first
                                                                                              | (rw [← hgs, show (v15).toInt.toNat % 256 = (v9).toInt.toNat by omega]; exact (nI_ofI b26.1).1.symm)
                                                                                              | exact absurd q (zbo_n hpl (by omega))
                                                                                          have r71 : v20 = g2_ 14 0 (v15).toInt.toNat := q20
                                                                                          have r73 : v22 = g2_ 13 0 7 := q22
                                                                                          rw [hn]
                                                                                          refine zQx_skip hR2_0 (fun _ => ?_)
                                                                                          obtain ⟨k, k1, k2, k3⟩ := (hR2_0.2.1 (v15).toInt.toNat (by omega)).mp (r71.symm.trans ((show v20 = v22 by assumption).trans r73))
                                                                                          refine ⟨k, k2, ?_⟩
                                                                                          rw [← hK]
                                                                                          unfold zsts
                                                                                          rw [if_neg (by omega), k3]) (by exact hR2_1) (by exact hR2_2) (by exact hR2_3) (by omega) (by omega) (by omega) (by omega)
            · skip
              refine z_aload_n (pc := 79) C dX5_spread_79 rfl ?_
              refine z_getI (pc := 80) C zf_X5_38 rfl rfl (by decide) dX5_spread_80 ?_
              refine w_gp (fun v => v = g2_ 13 0 6) rfl (fun v26 q26 => ?_)
              have e26 : v26.toInt = (g2_ 13 0 6).toInt := by rw [q26]
              have b26x : zB v26 0 3073 := by first | exact zB.eqv e26 f2_13_0_6 | (have q9 := f2_13_0_6; constructor <;> omega)
              refine z_aload_n (pc := 83) C dX5_spread_83 rfl ?_
              refine z_getR (pc := 84) C zf_X5_22 rfl rfl (by decide) dX5_spread_84 ?_
              refine z_alenI (pc := 87) (v := 3073) C rfl (by decide) rfl dX5_spread_87 ?_
              refine z_icmp_ge (pc := 88) 133 C dX5_spread_88 (by decide) (fun h88_26 => ?_) (fun h88_26 => ?_)
              · skip
                have b28x : zB v26 3073 3073 := by have q1 := b26x; have q2 := (zB.of (x := 3073) 3073 (by decide)); simp only [z32lt, z32le, z32eq, Int32.reduceToInt, Int32.toInt_zero] at h88_26; constructor <;> omega
                have c29x : zB (g2_ 13 0 6) 3073 3073 := by first | assumption | (constructor <;> omega)
                refine z_iinc (pc := 133) (v := 1) C dX5_spread_133 rfl (by decide) (by rw [hn]; decide) rfl ?_
                obtain ⟨v30, hv30, e30⟩ : ∃ v : Int32, v = a2_2 + 1 ∧ v.toInt = a2_2.toInt + 1 := ⟨_, rfl, zadd_eb b5x (zB.of (x := 1) 1 (by decide)) (by decide) (by decide)⟩
                rw [← hv30]
                have b30x : zB v30 1 12 := by have q9 := b5x; constructor <;> omega
                refine z_goto (pc := 136) 2 C dX5_spread_136 (by decide) ?_
                refine w_mask [3, 4] ?_
                exact ih0 v30 (zB.wk (a' := 0) (b' := 12) b30x (by decide) (by decide)) g2_ hI2_ hF2_ (zB.wk c7x (by decide) (by decide)) (zB.wk c29x (by decide) (by decide)) (by
                                                                                          have hn : (v30).toInt.toNat = a2_2.toInt.toNat + 1 := by omega
                                                                                          have hx : m8 = a2_2.toInt.toNat := by omega
                                                                                          have b8 : 0 ≤ (f 1 0 6).toInt ∧ (f 1 0 6).toInt ≤ 8 := hI 1 0 6
                                                                                          have hg := hp9_0
                                                                                          rw [hx] at hg
                                                                                          have hv := zgb (f := f) hI hp0 (by omega) (fun j => hF2_ 11 _ j rfl) hg
                                                                                          rw [hF2_ 6 2 1 rfl, hF2_ 6 2 4 rfl, hF2_ 6 2 5 rfl, hF2_ 6 2 6 rfl] at hv
                                                                                          have r1 : 0 ≤ (f 6 2 1).toInt ∧ (f 6 2 1).toInt ≤ 5 := hI 6 2 1
                                                                                          have r4 : 0 ≤ (f 6 2 4).toInt ∧ (f 6 2 4).toInt ≤ 1 := hI 6 2 4
                                                                                          have r5 : (f 6 2 5).toInt ≤ 5 := (hI 6 2 5).2
                                                                                          have hgs : v9 = zGsx f (zsts f g2_ a1.toInt.toNat) a2_2.toInt.toNat := by
                                                                                            rw [hR2_1, ← hp3.1, zGsx_c hI r1 r4 ⟨hp3.2, r5⟩]; exact hv
                                                                                          have hx2 : m11 = a2_2.toInt.toNat := by omega
                                                                                          have hpl := hp12_0
                                                                                          rw [hx2, hF2_ 11 _ 7 rfl] at hpl
                                                                                          have hG : zGpx f (zsts f g2_ a1.toInt.toNat) a2_2.toInt.toNat := ⟨by omega, fun z => absurd (hgs.trans z) (by assumption)⟩
                                                                                          have b26 : 0 ≤ (v9).toInt ∧ (v9).toInt ≤ 255 := by omega
                                                                                          have hK : zKs f (v15).toInt.toNat = zNsx f (zsts f g2_ a1.toInt.toNat) a2_2.toInt.toNat := by
                                                                                            refine zKs_n hI hG (by omega) (fun q => ?_)
                                                                                            first
                                                                                              | (rw [← hgs, show (v15).toInt.toNat % 256 = (v9).toInt.toNat by omega]; exact (nI_ofI b26.1).1.symm)
                                                                                              | exact absurd q (zbo_n hpl (by omega))
                                                                                          have r71 : v20 = g2_ 14 0 (v15).toInt.toNat := q20
                                                                                          have r73 : v22 = g2_ 13 0 7 := q22
                                                                                          have hno : ¬ g2_ 14 0 (v15).toInt.toNat = g2_ 13 0 7 := fun z => absurd (r71.trans (z.trans r73.symm)) (by assumption)
                                                                                          exfalso
                                                                                          have h1 := (zct_lt (P := fun key => g2_ 14 0 key = g2_ 13 0 7) hno 3072 (by omega)).1
                                                                                          have h2 := hR2_0.1
                                                                                          have r80 : v26 = g2_ 13 0 6 := q26
                                                                                          have r80i : (v26).toInt = (g2_ 13 0 6).toInt := by rw [r80]
                                                                                          unfold zxn at h2
                                                                                          omega) (by exact hR2_1) (by exact hR2_2) (by exact hR2_3) (by omega) (by omega) (by omega) (by omega)
              · skip
                have b31x : zB v26 0 3072 := by have q1 := b26x; have q2 := (zB.of (x := 3073) 3073 (by decide)); simp only [z32lt, z32le, z32eq, Int32.reduceToInt, Int32.toInt_zero] at h88_26; constructor <;> omega
                have c32x : zB (g2_ 13 0 6) 0 3072 := by first | assumption | (constructor <;> omega)
                refine z_aload_n (pc := 91) C dX5_spread_91 rfl ?_
                refine z_getR (pc := 92) C zf_X5_18 rfl rfl (by decide) dX5_spread_92 ?_
                refine z_iload (pc := 95) C dX5_spread_95 rfl ?_
                refine z_aload_n (pc := 97) C dX5_spread_97 rfl ?_
                refine z_getI (pc := 98) C zf_X5_58 rfl rfl (by decide) dX5_spread_98 ?_
                refine w_gp (fun v => v = g2_ 13 0 7) rfl (fun v34 q34 => ?_)
                have b34x : zB v34 (-2147483648) 2147483647 := by rw [q34]; exact (hI2_ 13 0 7)
                have kw101_34 : v15.toNatClampNeg = v15.toInt.toNat := rfl
                refine z_iast (pc := 101) C rfl (by decide) (zIx b15x (by decide) (by decide)) dX5_spread_101 ?_
                refine w_memx hI2_ hF2_ b34x rfl (fun g35 qm35 hI35 hF35 hq35 hx35 => ?_)
                have ek35_13_0_6 : (g35 13 0 6).toInt = (g2_ 13 0 6).toInt := by rw [hq35 13 0 6 (by omega)]
                have c35_13_0_6x : zB (g35 13 0 6) 0 3072 := by rw [hq35 13 0 6 (by omega)]; exact c32x
                have ek35_1_0_7 : (g35 1 0 7).toInt = (g2_ 1 0 7).toInt := by rw [hq35 1 0 7 (by omega)]
                have c35_1_0_7x : zB (g35 1 0 7) 1 12 := by rw [hq35 1 0 7 (by omega)]; exact c7x
                refine z_aload_n (pc := 102) C dX5_spread_102 rfl ?_
                refine z_getR (pc := 103) C zf_X5_22 rfl rfl (by decide) dX5_spread_103 ?_
                refine z_aload_n (pc := 106) C dX5_spread_106 rfl ?_
                refine z_getI (pc := 107) C zf_X5_38 rfl rfl (by decide) dX5_spread_107 ?_
                refine w_gp (fun v => v = g35 13 0 6) rfl (fun v36 q36 => ?_)
                have e36 : v36.toInt = (g35 13 0 6).toInt := by rw [q36]
                have b36x : zB v36 0 3072 := by first | exact zB.eqv e36 c35_13_0_6x | (have q9 := c35_13_0_6x; constructor <;> omega)
                refine z_iload (pc := 110) C dX5_spread_110 rfl ?_
                have kw112_36 : v36.toNatClampNeg = v36.toInt.toNat := rfl
                refine z_iast (pc := 112) C rfl (by decide) (zIx b36x (by decide) (by decide)) dX5_spread_112 ?_
                refine w_memx hI35 hF35 (zB.wk (a' := 0) (b' := 3071) b15x (by decide) (by decide)) rfl (fun g37 qm37 hI37 hF37 hq37 hx37 => ?_)
                have ek37_13_0_6 : (g37 13 0 6).toInt = (g35 13 0 6).toInt := by rw [hq37 13 0 6 (by omega)]
                have c37_13_0_6x : zB (g37 13 0 6) 0 3072 := by rw [hq37 13 0 6 (by omega)]; exact c35_13_0_6x
                have ek37_1_0_7 : (g37 1 0 7).toInt = (g35 1 0 7).toInt := by rw [hq37 1 0 7 (by omega)]
                have c37_1_0_7x : zB (g37 1 0 7) 1 12 := by rw [hq37 1 0 7 (by omega)]; exact c35_1_0_7x
                refine z_aload_n (pc := 113) C dX5_spread_113 rfl ?_
                refine z_getR (pc := 114) C zf_X5_25 rfl rfl (by decide) dX5_spread_114 ?_
                refine z_aload_n (pc := 117) C dX5_spread_117 rfl ?_
                refine z_getI (pc := 118) C zf_X5_38 rfl rfl (by decide) dX5_spread_118 ?_
                refine w_gp (fun v => v = g37 13 0 6) rfl (fun v38 q38 => ?_)
                have e38 : v38.toInt = (g37 13 0 6).toInt := by rw [q38]
                have b38x : zB v38 0 3072 := by first | exact zB.eqv e38 c37_13_0_6x | (have q9 := c37_13_0_6x; constructor <;> omega)
                refine z_iload_n (pc := 121) C dX5_spread_121 rfl ?_
                have kw122_38 : v38.toNatClampNeg = v38.toInt.toNat := rfl
                refine z_iast (pc := 122) C rfl (by decide) (zIx b38x (by decide) (by decide)) dX5_spread_122 ?_
                refine w_memx hI37 hF37 b1 rfl (fun g39 qm39 hI39 hF39 hq39 hx39 => ?_)
                have ek39_13_0_6 : (g39 13 0 6).toInt = (g37 13 0 6).toInt := by rw [hq39 13 0 6 (by omega)]
                have c39_13_0_6x : zB (g39 13 0 6) 0 3072 := by rw [hq39 13 0 6 (by omega)]; exact c37_13_0_6x
                have ek39_1_0_7 : (g39 1 0 7).toInt = (g37 1 0 7).toInt := by rw [hq39 1 0 7 (by omega)]
                have c39_1_0_7x : zB (g39 1 0 7) 1 12 := by rw [hq39 1 0 7 (by omega)]; exact c37_1_0_7x
                refine z_aload_n (pc := 123) C dX5_spread_123 rfl ?_
                refine z_dupr (pc := 124) C dX5_spread_124 ?_
                refine z_getI (pc := 125) C zf_X5_38 rfl rfl (by decide) dX5_spread_125 ?_
                refine w_gp (fun v => v = g39 13 0 6) rfl (fun v40 q40 => ?_)
                have e40 : v40.toInt = (g39 13 0 6).toInt := by rw [q40]
                have b40x : zB v40 0 3072 := by first | exact zB.eqv e40 c39_13_0_6x | (have q9 := c39_13_0_6x; constructor <;> omega)
                refine z_iconst (pc := 128) (v := 1) C dX5_spread_128 (by decide) ?_
                refine z_iadd (pc := 129) C dX5_spread_129 ?_
                refine w_gp (fun v => v = v40 + (1 : Int32)) rfl (fun v41 q41 => ?_)
                have e41 : v41.toInt = v40.toInt + 1 := by rw [q41]; exact (zadd_eb b40x (zB.of (x := 1) 1 (by decide)) (by decide) (by decide))
                have b41x : zB v41 1 3073 := by have q1 := b40x; have q2 := (zB.of (x := 1) 1 (by decide)); constructor <;> omega
                refine z_putI (pc := 130) C zf_X5_38 zp_5_6 rfl rfl (by decide) dX5_spread_130 ?_
                refine w_memx hI39 hF39 (zB.wk (a' := 0) (b' := 3073) b41x (by decide) (by decide)) rfl (fun g42 qm42 hI42 hF42 hq42 hx42 => ?_)
                have ec42 : (g42 13 0 6).toInt = v41.toInt := by rw [hx42]
                have c42x : zB (g42 13 0 6) 1 3073 := by first | exact zB.eqv ec42 b41x | (have q9 := b41x; constructor <;> omega)
                have ek42_1_0_7 : (g42 1 0 7).toInt = (g39 1 0 7).toInt := by rw [hq42 1 0 7 (by omega)]
                have c42_1_0_7x : zB (g42 1 0 7) 1 12 := by rw [hq42 1 0 7 (by omega)]; exact c39_1_0_7x
                refine z_iinc (pc := 133) (v := 1) C dX5_spread_133 rfl (by decide) (by rw [hn]; decide) rfl ?_
                obtain ⟨v43, hv43, e43⟩ : ∃ v : Int32, v = a2_2 + 1 ∧ v.toInt = a2_2.toInt + 1 := ⟨_, rfl, zadd_eb b5x (zB.of (x := 1) 1 (by decide)) (by decide) (by decide)⟩
                rw [← hv43]
                have b43x : zB v43 1 12 := by have q9 := b5x; constructor <;> omega
                refine z_goto (pc := 136) 2 C dX5_spread_136 (by decide) ?_
                refine w_mask [3, 4] ?_
                exact ih0 v43 (zB.wk (a' := 0) (b' := 12) b43x (by decide) (by decide)) g42 hI42 hF42 (zB.wk c42_1_0_7x (by decide) (by decide)) (zB.wk c42x (by decide) (by decide)) (by
                                                                                          have hn : (v43).toInt.toNat = a2_2.toInt.toNat + 1 := by omega
                                                                                          have hx : m8 = a2_2.toInt.toNat := by omega
                                                                                          have b8 : 0 ≤ (f 1 0 6).toInt ∧ (f 1 0 6).toInt ≤ 8 := hI 1 0 6
                                                                                          have hg := hp9_0
                                                                                          rw [hx] at hg
                                                                                          have hv := zgb (f := f) hI hp0 (by omega) (fun j => hF2_ 11 _ j rfl) hg
                                                                                          rw [hF2_ 6 2 1 rfl, hF2_ 6 2 4 rfl, hF2_ 6 2 5 rfl, hF2_ 6 2 6 rfl] at hv
                                                                                          have r1 : 0 ≤ (f 6 2 1).toInt ∧ (f 6 2 1).toInt ≤ 5 := hI 6 2 1
                                                                                          have r4 : 0 ≤ (f 6 2 4).toInt ∧ (f 6 2 4).toInt ≤ 1 := hI 6 2 4
                                                                                          have r5 : (f 6 2 5).toInt ≤ 5 := (hI 6 2 5).2
                                                                                          have hgs : v9 = zGsx f (zsts f g2_ a1.toInt.toNat) a2_2.toInt.toNat := by
                                                                                            rw [hR2_1, ← hp3.1, zGsx_c hI r1 r4 ⟨hp3.2, r5⟩]; exact hv
                                                                                          have hx2 : m11 = a2_2.toInt.toNat := by omega
                                                                                          have hpl := hp12_0
                                                                                          rw [hx2, hF2_ 11 _ 7 rfl] at hpl
                                                                                          have hG : zGpx f (zsts f g2_ a1.toInt.toNat) a2_2.toInt.toNat := ⟨by omega, fun z => absurd (hgs.trans z) (by assumption)⟩
                                                                                          have b26 : 0 ≤ (v9).toInt ∧ (v9).toInt ≤ 255 := by omega
                                                                                          have hK : zKs f (v15).toInt.toNat = zNsx f (zsts f g2_ a1.toInt.toNat) a2_2.toInt.toNat := by
                                                                                            refine zKs_n hI hG (by omega) (fun q => ?_)
                                                                                            first
                                                                                              | (rw [← hgs, show (v15).toInt.toNat % 256 = (v9).toInt.toNat by omega]; exact (nI_ofI b26.1).1.symm)
                                                                                              | exact absurd q (zbo_n hpl (by omega))
                                                                                          have r71 : v20 = g2_ 14 0 (v15).toInt.toNat := q20
                                                                                          have r73 : v22 = g2_ 13 0 7 := q22
                                                                                          have hno : ¬ g2_ 14 0 (v15).toInt.toNat = g2_ 13 0 7 := fun z => absurd (r71.trans (z.trans r73.symm)) (by assumption)
                                                                                          have n58 : (v15).toNatClampNeg = (v15).toInt.toNat := rfl
                                                                                          have r98 : v34 = g2_ 13 0 7 := q34
                                                                                          have r107 : v36 = g2_ 13 0 6 := by have h := q36; rw [qm35, zup_ne _ _ (by omega)] at h; exact h
                                                                                          have r118 : v38 = g2_ 13 0 6 := by have h := q38; rw [qm37, zup_ne _ _ (by omega), qm35, zup_ne _ _ (by omega)] at h; exact h
                                                                                          have r125 : v40 = g2_ 13 0 6 := by have h := q40; rw [qm39, zup_ne _ _ (by omega), qm37, zup_ne _ _ (by omega), qm35, zup_ne _ _ (by omega)] at h; exact h
                                                                                          have hsp : g42 = zsp_ g2_ v15 a1 := by
                                                                                            unfold zsp_
                                                                                            rw [qm42, qm39, qm37, qm35, q41, r125, r118, r107, r98]
                                                                                            rfl
                                                                                          rw [hn, hsp]
                                                                                          exact zQx_add hI2_ hR2_0 (by unfold zxn; omega) (by omega) hG ⟨by omega, by omega⟩ (by omega) hK (by omega) hno) (by
                                                                                          have n58 : (v15).toNatClampNeg = (v15).toInt.toNat := rfl
                                                                                          have r98 : v34 = g2_ 13 0 7 := q34
                                                                                          have r107 : v36 = g2_ 13 0 6 := by have h := q36; rw [qm35, zup_ne _ _ (by omega)] at h; exact h
                                                                                          have r118 : v38 = g2_ 13 0 6 := by have h := q38; rw [qm37, zup_ne _ _ (by omega), qm35, zup_ne _ _ (by omega)] at h; exact h
                                                                                          have r125 : v40 = g2_ 13 0 6 := by have h := q40; rw [qm39, zup_ne _ _ (by omega), qm37, zup_ne _ _ (by omega), qm35, zup_ne _ _ (by omega)] at h; exact h
                                                                                          have hsp : g42 = zsp_ g2_ v15 a1 := by
                                                                                            unfold zsp_
                                                                                            rw [qm42, qm39, qm37, qm35, q41, r125, r118, r107, r98]
                                                                                            rfl
                                                                                          have o15 : ∀ k, k < zxn g2_ → g42 15 0 k = g2_ 15 0 k := fun k hk => by
                                                                                            rw [hsp]
                                                                                            unfold zsp_
                                                                                            unfold zxn at hk
                                                                                            rw [zup_ne _ _ (by omega), zup_ne _ _ (by omega), zup_ne _ _ (by omega), zup_ne _ _ (by omega)]
                                                                                          have hxn : zxn f ≤ zxn g2_ := hR2_3
                                                                                          rw [← hR2_1]
                                                                                          unfold zsts
                                                                                          rw [o15 _ (by have h := hp2; omega)]) (by
                                                                                          have n58 : (v15).toNatClampNeg = (v15).toInt.toNat := rfl
                                                                                          have r98 : v34 = g2_ 13 0 7 := q34
                                                                                          have r107 : v36 = g2_ 13 0 6 := by have h := q36; rw [qm35, zup_ne _ _ (by omega)] at h; exact h
                                                                                          have r118 : v38 = g2_ 13 0 6 := by have h := q38; rw [qm37, zup_ne _ _ (by omega), qm35, zup_ne _ _ (by omega)] at h; exact h
                                                                                          have r125 : v40 = g2_ 13 0 6 := by have h := q40; rw [qm39, zup_ne _ _ (by omega), qm37, zup_ne _ _ (by omega), qm35, zup_ne _ _ (by omega)] at h; exact h
                                                                                          have hsp : g42 = zsp_ g2_ v15 a1 := by
                                                                                            unfold zsp_
                                                                                            rw [qm42, qm39, qm37, qm35, q41, r125, r118, r107, r98]
                                                                                            rfl
                                                                                          have o15 : ∀ k, k < zxn g2_ → g42 15 0 k = g2_ 15 0 k := fun k hk => by
                                                                                            rw [hsp]
                                                                                            unfold zsp_
                                                                                            unfold zxn at hk
                                                                                            rw [zup_ne _ _ (by omega), zup_ne _ _ (by omega), zup_ne _ _ (by omega), zup_ne _ _ (by omega)]
                                                                                          have hxn : zxn f ≤ zxn g2_ := hR2_3
                                                                                          intro k hk
                                                                                          rw [o15 k (by omega)]; exact hR2_2 k hk) (by
                                                                                          have n58 : (v15).toNatClampNeg = (v15).toInt.toNat := rfl
                                                                                          have r98 : v34 = g2_ 13 0 7 := q34
                                                                                          have r107 : v36 = g2_ 13 0 6 := by have h := q36; rw [qm35, zup_ne _ _ (by omega)] at h; exact h
                                                                                          have r118 : v38 = g2_ 13 0 6 := by have h := q38; rw [qm37, zup_ne _ _ (by omega), qm35, zup_ne _ _ (by omega)] at h; exact h
                                                                                          have r125 : v40 = g2_ 13 0 6 := by have h := q40; rw [qm39, zup_ne _ _ (by omega), qm37, zup_ne _ _ (by omega), qm35, zup_ne _ _ (by omega)] at h; exact h
                                                                                          have hsp : g42 = zsp_ g2_ v15 a1 := by
                                                                                            unfold zsp_
                                                                                            rw [qm42, qm39, qm37, qm35, q41, r125, r118, r107, r98]
                                                                                            rfl
                                                                                          have o15 : ∀ k, k < zxn g2_ → g42 15 0 k = g2_ 15 0 k := fun k hk => by
                                                                                            rw [hsp]
                                                                                            unfold zsp_
                                                                                            unfold zxn at hk
                                                                                            rw [zup_ne _ _ (by omega), zup_ne _ _ (by omega), zup_ne _ _ (by omega), zup_ne _ _ (by omega)]
                                                                                          have hxn : zxn f ≤ zxn g2_ := hR2_3
                                                                                          have x13 : g42 13 0 6 = g2_ 13 0 6 + 1 := by rw [hsp]; unfold zsp_; rw [zup_same]
                                                                                          have b13 : zB (g2_ 13 0 6) 0 3073 := hI2_ 13 0 6
                                                                                          have es : (g2_ 13 0 6 + 1 : Int32).toInt = (g2_ 13 0 6).toInt + 1 := zadd_eb (x := g2_ 13 0 6) b13 (zB.of (x := 1) 1 (by decide)) (by decide) (by decide)
                                                                                          unfold zxn at hxn ⊢
                                                                                          rw [x13, es]
                                                                                          have := b13.1
                                                                                          omega) (by omega) (by omega) (by omega) (by omega)
        · skip
          have b44x : zB v12 1 1 := by have q1 := b12x; have q2 := (zB.of (x := 0) 0 (by decide)); simp only [z32lt, z32le, z32eq, Int32.reduceToInt, Int32.toInt_zero] at h48_12; constructor <;> omega
          refine z_iload_n (pc := 51) C dX5_spread_51 rfl ?_
          refine z_goto (pc := 52) 58 C dX5_spread_52 (by decide) ?_
          refine z_iadd (pc := 58) C dX5_spread_58 ?_
          refine w_gp (fun v => v = v10 + v9) rfl (fun v45 q45 => ?_)
          have e45 : v45.toInt = v10.toInt + v9.toInt := by rw [q45]; exact (zadd_eb b10x b9x (by decide) (by decide))
          have b45x : zB v45 0 3071 := by have q1 := b10x; have q2 := b9x; constructor <;> omega
          refine z_istore (pc := 59) C dX5_spread_59 (by rw [hn]; decide) rfl ?_
          refine z_iload_n (pc := 61) C dX5_spread_61 rfl ?_
          refine z_if_eq (pc := 62) 133 C dX5_spread_62 (by decide) (fun h62_45 => ?_) (fun h62_45 => ?_)
          · skip
            have b47x : zB v9 0 0 := by have q1 := b9x; have q2 := (zB.of (x := 0) 0 (by decide)); simp only [z32lt, z32le, z32eq, Int32.reduceToInt, Int32.toInt_zero] at h62_45; constructor <;> omega
            refine z_iinc (pc := 133) (v := 1) C dX5_spread_133 rfl (by decide) (by rw [hn]; decide) rfl ?_
            obtain ⟨v48, hv48, e48⟩ : ∃ v : Int32, v = a2_2 + 1 ∧ v.toInt = a2_2.toInt + 1 := ⟨_, rfl, zadd_eb b5x (zB.of (x := 1) 1 (by decide)) (by decide) (by decide)⟩
            rw [← hv48]
            have b48x : zB v48 1 12 := by have q9 := b5x; constructor <;> omega
            refine z_goto (pc := 136) 2 C dX5_spread_136 (by decide) ?_
            refine w_mask [3, 4] ?_
            exact ih0 v48 (zB.wk (a' := 0) (b' := 12) b48x (by decide) (by decide)) g2_ hI2_ hF2_ (zB.wk c7x (by decide) (by decide)) f2_13_0_6 (by
                                                                                          have hn : (v48).toInt.toNat = a2_2.toInt.toNat + 1 := by omega
                                                                                          have hx : m8 = a2_2.toInt.toNat := by omega
                                                                                          have b8 : 0 ≤ (f 1 0 6).toInt ∧ (f 1 0 6).toInt ≤ 8 := hI 1 0 6
                                                                                          have hg := hp9_0
                                                                                          rw [hx] at hg
                                                                                          have hv := zgb (f := f) hI hp0 (by omega) (fun j => hF2_ 11 _ j rfl) hg
                                                                                          rw [hF2_ 6 2 1 rfl, hF2_ 6 2 4 rfl, hF2_ 6 2 5 rfl, hF2_ 6 2 6 rfl] at hv
                                                                                          have r1 : 0 ≤ (f 6 2 1).toInt ∧ (f 6 2 1).toInt ≤ 5 := hI 6 2 1
                                                                                          have r4 : 0 ≤ (f 6 2 4).toInt ∧ (f 6 2 4).toInt ≤ 1 := hI 6 2 4
                                                                                          have r5 : (f 6 2 5).toInt ≤ 5 := (hI 6 2 5).2
                                                                                          have hgs : v9 = zGsx f (zsts f g2_ a1.toInt.toNat) a2_2.toInt.toNat := by
                                                                                            rw [hR2_1, ← hp3.1, zGsx_c hI r1 r4 ⟨hp3.2, r5⟩]; exact hv
                                                                                          have hx2 : m11 = a2_2.toInt.toNat := by omega
                                                                                          have hpl := hp12_0
                                                                                          rw [hx2, hF2_ 11 _ 7 rfl] at hpl
                                                                                          rw [hn]
                                                                                          exact zQx_skip hR2_0 (fun h => absurd (hgs.symm.trans (by assumption)) h.2)) (by exact hR2_1) (by exact hR2_2) (by exact hR2_3) (by omega) (by omega) (by omega) (by omega)
          · skip
            have b49x : zB v9 1 255 := by have q1 := b9x; have q2 := (zB.of (x := 0) 0 (by decide)); simp only [z32lt, z32le, z32eq, Int32.reduceToInt, Int32.toInt_zero] at h62_45; constructor <;> omega
            refine z_aload_n (pc := 65) C dX5_spread_65 rfl ?_
            refine z_getR (pc := 66) C zf_X5_18 rfl rfl (by decide) dX5_spread_66 ?_
            refine z_iload (pc := 69) C dX5_spread_69 rfl ?_
            refine z_iald (pc := 71) C rfl (by decide) (zIx b45x (by decide) (by decide)) dX5_spread_71 ?_
            have kq71_49 : v45.toNatClampNeg = v45.toInt.toNat := rfl
            refine w_gp (fun v => v = g2_ 14 0 v45.toNatClampNeg) rfl (fun v50 q50 => ?_)
            have b50x : zB v50 (-2147483648) 2147483647 := by rw [q50]; exact (hI2_ 14 0 v45.toNatClampNeg)
            refine z_aload_n (pc := 72) C dX5_spread_72 rfl ?_
            refine z_getI (pc := 73) C zf_X5_58 rfl rfl (by decide) dX5_spread_73 ?_
            refine w_gp (fun v => v = g2_ 13 0 7) rfl (fun v52 q52 => ?_)
            have b52x : zB v52 (-2147483648) 2147483647 := by rw [q52]; exact (hI2_ 13 0 7)
            refine z_icmp_eq (pc := 76) 133 C dX5_spread_76 (by decide) (fun h76_52 => ?_) (fun h76_52 => ?_)
            · skip
              have rr54 : v50.toInt = v52.toInt := by simp only [z32lt, z32le, z32eq] at h76_52; omega
              refine z_iinc (pc := 133) (v := 1) C dX5_spread_133 rfl (by decide) (by rw [hn]; decide) rfl ?_
              obtain ⟨v55, hv55, e55⟩ : ∃ v : Int32, v = a2_2 + 1 ∧ v.toInt = a2_2.toInt + 1 := ⟨_, rfl, zadd_eb b5x (zB.of (x := 1) 1 (by decide)) (by decide) (by decide)⟩
              rw [← hv55]
              have b55x : zB v55 1 12 := by have q9 := b5x; constructor <;> omega
              refine z_goto (pc := 136) 2 C dX5_spread_136 (by decide) ?_
              refine w_mask [3, 4] ?_
              exact ih0 v55 (zB.wk (a' := 0) (b' := 12) b55x (by decide) (by decide)) g2_ hI2_ hF2_ (zB.wk c7x (by decide) (by decide)) f2_13_0_6 (by
                                                                                          have hn : (v55).toInt.toNat = a2_2.toInt.toNat + 1 := by omega
                                                                                          have hx : m8 = a2_2.toInt.toNat := by omega
                                                                                          have b8 : 0 ≤ (f 1 0 6).toInt ∧ (f 1 0 6).toInt ≤ 8 := hI 1 0 6
                                                                                          have hg := hp9_0
                                                                                          rw [hx] at hg
                                                                                          have hv := zgb (f := f) hI hp0 (by omega) (fun j => hF2_ 11 _ j rfl) hg
                                                                                          rw [hF2_ 6 2 1 rfl, hF2_ 6 2 4 rfl, hF2_ 6 2 5 rfl, hF2_ 6 2 6 rfl] at hv
                                                                                          have r1 : 0 ≤ (f 6 2 1).toInt ∧ (f 6 2 1).toInt ≤ 5 := hI 6 2 1
                                                                                          have r4 : 0 ≤ (f 6 2 4).toInt ∧ (f 6 2 4).toInt ≤ 1 := hI 6 2 4
                                                                                          have r5 : (f 6 2 5).toInt ≤ 5 := (hI 6 2 5).2
                                                                                          have hgs : v9 = zGsx f (zsts f g2_ a1.toInt.toNat) a2_2.toInt.toNat := by
                                                                                            rw [hR2_1, ← hp3.1, zGsx_c hI r1 r4 ⟨hp3.2, r5⟩]; exact hv
                                                                                          have hx2 : m11 = a2_2.toInt.toNat := by omega
                                                                                          have hpl := hp12_0
                                                                                          rw [hx2, hF2_ 11 _ 7 rfl] at hpl
                                                                                          have hG : zGpx f (zsts f g2_ a1.toInt.toNat) a2_2.toInt.toNat := ⟨by omega, fun z => absurd (hgs.trans z) (by assumption)⟩
                                                                                          have b26 : 0 ≤ (v9).toInt ∧ (v9).toInt ≤ 255 := by omega
                                                                                          have hK : zKs f (v45).toInt.toNat = zNsx f (zsts f g2_ a1.toInt.toNat) a2_2.toInt.toNat := by
                                                                                            refine zKs_n hI hG (by omega) (fun q => ?_)
                                                                                            first
                                                                                              | (rw [← hgs, show (v45).toInt.toNat % 256 = (v9).toInt.toNat by omega]; exact (nI_ofI b26.1).1.symm)
                                                                                              | exact absurd q (zbo_n hpl (by omega))
                                                                                          have r71 : v50 = g2_ 14 0 (v45).toInt.toNat := q50
                                                                                          have r73 : v52 = g2_ 13 0 7 := q52
                                                                                          rw [hn]
                                                                                          refine zQx_skip hR2_0 (fun _ => ?_)
                                                                                          obtain ⟨k, k1, k2, k3⟩ := (hR2_0.2.1 (v45).toInt.toNat (by omega)).mp (r71.symm.trans ((show v50 = v52 by assumption).trans r73))
                                                                                          refine ⟨k, k2, ?_⟩
                                                                                          rw [← hK]
                                                                                          unfold zsts
                                                                                          rw [if_neg (by omega), k3]) (by exact hR2_1) (by exact hR2_2) (by exact hR2_3) (by omega) (by omega) (by omega) (by omega)
            · skip
              refine z_aload_n (pc := 79) C dX5_spread_79 rfl ?_
              refine z_getI (pc := 80) C zf_X5_38 rfl rfl (by decide) dX5_spread_80 ?_
              refine w_gp (fun v => v = g2_ 13 0 6) rfl (fun v56 q56 => ?_)
              have e56 : v56.toInt = (g2_ 13 0 6).toInt := by rw [q56]
              have b56x : zB v56 0 3073 := by first | exact zB.eqv e56 f2_13_0_6 | (have q9 := f2_13_0_6; constructor <;> omega)
              refine z_aload_n (pc := 83) C dX5_spread_83 rfl ?_
              refine z_getR (pc := 84) C zf_X5_22 rfl rfl (by decide) dX5_spread_84 ?_
              refine z_alenI (pc := 87) (v := 3073) C rfl (by decide) rfl dX5_spread_87 ?_
              refine z_icmp_ge (pc := 88) 133 C dX5_spread_88 (by decide) (fun h88_56 => ?_) (fun h88_56 => ?_)
              · skip
                have b58x : zB v56 3073 3073 := by have q1 := b56x; have q2 := (zB.of (x := 3073) 3073 (by decide)); simp only [z32lt, z32le, z32eq, Int32.reduceToInt, Int32.toInt_zero] at h88_56; constructor <;> omega
                have c59x : zB (g2_ 13 0 6) 3073 3073 := by first | assumption | (constructor <;> omega)
                refine z_iinc (pc := 133) (v := 1) C dX5_spread_133 rfl (by decide) (by rw [hn]; decide) rfl ?_
                obtain ⟨v60, hv60, e60⟩ : ∃ v : Int32, v = a2_2 + 1 ∧ v.toInt = a2_2.toInt + 1 := ⟨_, rfl, zadd_eb b5x (zB.of (x := 1) 1 (by decide)) (by decide) (by decide)⟩
                rw [← hv60]
                have b60x : zB v60 1 12 := by have q9 := b5x; constructor <;> omega
                refine z_goto (pc := 136) 2 C dX5_spread_136 (by decide) ?_
                refine w_mask [3, 4] ?_
                exact ih0 v60 (zB.wk (a' := 0) (b' := 12) b60x (by decide) (by decide)) g2_ hI2_ hF2_ (zB.wk c7x (by decide) (by decide)) (zB.wk c59x (by decide) (by decide)) (by
                                                                                          have hn : (v60).toInt.toNat = a2_2.toInt.toNat + 1 := by omega
                                                                                          have hx : m8 = a2_2.toInt.toNat := by omega
                                                                                          have b8 : 0 ≤ (f 1 0 6).toInt ∧ (f 1 0 6).toInt ≤ 8 := hI 1 0 6
                                                                                          have hg := hp9_0
                                                                                          rw [hx] at hg
                                                                                          have hv := zgb (f := f) hI hp0 (by omega) (fun j => hF2_ 11 _ j rfl) hg
                                                                                          rw [hF2_ 6 2 1 rfl, hF2_ 6 2 4 rfl, hF2_ 6 2 5 rfl, hF2_ 6 2 6 rfl] at hv
                                                                                          have r1 : 0 ≤ (f 6 2 1).toInt ∧ (f 6 2 1).toInt ≤ 5 := hI 6 2 1
                                                                                          have r4 : 0 ≤ (f 6 2 4).toInt ∧ (f 6 2 4).toInt ≤ 1 := hI 6 2 4
                                                                                          have r5 : (f 6 2 5).toInt ≤ 5 := (hI 6 2 5).2
                                                                                          have hgs : v9 = zGsx f (zsts f g2_ a1.toInt.toNat) a2_2.toInt.toNat := by
                                                                                            rw [hR2_1, ← hp3.1, zGsx_c hI r1 r4 ⟨hp3.2, r5⟩]; exact hv
                                                                                          have hx2 : m11 = a2_2.toInt.toNat := by omega
                                                                                          have hpl := hp12_0
                                                                                          rw [hx2, hF2_ 11 _ 7 rfl] at hpl
                                                                                          have hG : zGpx f (zsts f g2_ a1.toInt.toNat) a2_2.toInt.toNat := ⟨by omega, fun z => absurd (hgs.trans z) (by assumption)⟩
                                                                                          have b26 : 0 ≤ (v9).toInt ∧ (v9).toInt ≤ 255 := by omega
                                                                                          have hK : zKs f (v45).toInt.toNat = zNsx f (zsts f g2_ a1.toInt.toNat) a2_2.toInt.toNat := by
                                                                                            refine zKs_n hI hG (by omega) (fun q => ?_)
                                                                                            first
                                                                                              | (rw [← hgs, show (v45).toInt.toNat % 256 = (v9).toInt.toNat by omega]; exact (nI_ofI b26.1).1.symm)
                                                                                              | exact absurd q (zbo_n hpl (by omega))
                                                                                          have r71 : v50 = g2_ 14 0 (v45).toInt.toNat := q50
                                                                                          have r73 : v52 = g2_ 13 0 7 := q52
                                                                                          have hno : ¬ g2_ 14 0 (v45).toInt.toNat = g2_ 13 0 7 := fun z => absurd (r71.trans (z.trans r73.symm)) (by assumption)
                                                                                          exfalso
                                                                                          have h1 := (zct_lt (P := fun key => g2_ 14 0 key = g2_ 13 0 7) hno 3072 (by omega)).1
                                                                                          have h2 := hR2_0.1
                                                                                          have r80 : v56 = g2_ 13 0 6 := q56
                                                                                          have r80i : (v56).toInt = (g2_ 13 0 6).toInt := by rw [r80]
                                                                                          unfold zxn at h2
                                                                                          omega) (by exact hR2_1) (by exact hR2_2) (by exact hR2_3) (by omega) (by omega) (by omega) (by omega)
              · skip
                have b61x : zB v56 0 3072 := by have q1 := b56x; have q2 := (zB.of (x := 3073) 3073 (by decide)); simp only [z32lt, z32le, z32eq, Int32.reduceToInt, Int32.toInt_zero] at h88_56; constructor <;> omega
                have c62x : zB (g2_ 13 0 6) 0 3072 := by first | assumption | (constructor <;> omega)
                refine z_aload_n (pc := 91) C dX5_spread_91 rfl ?_
                refine z_getR (pc := 92) C zf_X5_18 rfl rfl (by decide) dX5_spread_92 ?_
                refine z_iload (pc := 95) C dX5_spread_95 rfl ?_
                refine z_aload_n (pc := 97) C dX5_spread_97 rfl ?_
                refine z_getI (pc := 98) C zf_X5_58 rfl rfl (by decide) dX5_spread_98 ?_
                refine w_gp (fun v => v = g2_ 13 0 7) rfl (fun v64 q64 => ?_)
                have b64x : zB v64 (-2147483648) 2147483647 := by rw [q64]; exact (hI2_ 13 0 7)
                have kw101_64 : v45.toNatClampNeg = v45.toInt.toNat := rfl
                refine z_iast (pc := 101) C rfl (by decide) (zIx b45x (by decide) (by decide)) dX5_spread_101 ?_
                refine w_memx hI2_ hF2_ b64x rfl (fun g65 qm65 hI65 hF65 hq65 hx65 => ?_)
                have ek65_13_0_6 : (g65 13 0 6).toInt = (g2_ 13 0 6).toInt := by rw [hq65 13 0 6 (by omega)]
                have c65_13_0_6x : zB (g65 13 0 6) 0 3072 := by rw [hq65 13 0 6 (by omega)]; exact c62x
                have ek65_1_0_7 : (g65 1 0 7).toInt = (g2_ 1 0 7).toInt := by rw [hq65 1 0 7 (by omega)]
                have c65_1_0_7x : zB (g65 1 0 7) 1 12 := by rw [hq65 1 0 7 (by omega)]; exact c7x
                refine z_aload_n (pc := 102) C dX5_spread_102 rfl ?_
                refine z_getR (pc := 103) C zf_X5_22 rfl rfl (by decide) dX5_spread_103 ?_
                refine z_aload_n (pc := 106) C dX5_spread_106 rfl ?_
                refine z_getI (pc := 107) C zf_X5_38 rfl rfl (by decide) dX5_spread_107 ?_
                refine w_gp (fun v => v = g65 13 0 6) rfl (fun v66 q66 => ?_)
                have e66 : v66.toInt = (g65 13 0 6).toInt := by rw [q66]
                have b66x : zB v66 0 3072 := by first | exact zB.eqv e66 c65_13_0_6x | (have q9 := c65_13_0_6x; constructor <;> omega)
                refine z_iload (pc := 110) C dX5_spread_110 rfl ?_
                have kw112_66 : v66.toNatClampNeg = v66.toInt.toNat := rfl
                refine z_iast (pc := 112) C rfl (by decide) (zIx b66x (by decide) (by decide)) dX5_spread_112 ?_
                refine w_memx hI65 hF65 b45x rfl (fun g67 qm67 hI67 hF67 hq67 hx67 => ?_)
                have ek67_13_0_6 : (g67 13 0 6).toInt = (g65 13 0 6).toInt := by rw [hq67 13 0 6 (by omega)]
                have c67_13_0_6x : zB (g67 13 0 6) 0 3072 := by rw [hq67 13 0 6 (by omega)]; exact c65_13_0_6x
                have ek67_1_0_7 : (g67 1 0 7).toInt = (g65 1 0 7).toInt := by rw [hq67 1 0 7 (by omega)]
                have c67_1_0_7x : zB (g67 1 0 7) 1 12 := by rw [hq67 1 0 7 (by omega)]; exact c65_1_0_7x
                refine z_aload_n (pc := 113) C dX5_spread_113 rfl ?_
                refine z_getR (pc := 114) C zf_X5_25 rfl rfl (by decide) dX5_spread_114 ?_
                refine z_aload_n (pc := 117) C dX5_spread_117 rfl ?_
                refine z_getI (pc := 118) C zf_X5_38 rfl rfl (by decide) dX5_spread_118 ?_
                refine w_gp (fun v => v = g67 13 0 6) rfl (fun v68 q68 => ?_)
                have e68 : v68.toInt = (g67 13 0 6).toInt := by rw [q68]
                have b68x : zB v68 0 3072 := by first | exact zB.eqv e68 c67_13_0_6x | (have q9 := c67_13_0_6x; constructor <;> omega)
                refine z_iload_n (pc := 121) C dX5_spread_121 rfl ?_
                have kw122_68 : v68.toNatClampNeg = v68.toInt.toNat := rfl
                refine z_iast (pc := 122) C rfl (by decide) (zIx b68x (by decide) (by decide)) dX5_spread_122 ?_
                refine w_memx hI67 hF67 b1 rfl (fun g69 qm69 hI69 hF69 hq69 hx69 => ?_)
                have ek69_13_0_6 : (g69 13 0 6).toInt = (g67 13 0 6).toInt := by rw [hq69 13 0 6 (by omega)]
                have c69_13_0_6x : zB (g69 13 0 6) 0 3072 := by rw [hq69 13 0 6 (by omega)]; exact c67_13_0_6x
                have ek69_1_0_7 : (g69 1 0 7).toInt = (g67 1 0 7).toInt := by rw [hq69 1 0 7 (by omega)]
                have c69_1_0_7x : zB (g69 1 0 7) 1 12 := by rw [hq69 1 0 7 (by omega)]; exact c67_1_0_7x
                refine z_aload_n (pc := 123) C dX5_spread_123 rfl ?_
                refine z_dupr (pc := 124) C dX5_spread_124 ?_
                refine z_getI (pc := 125) C zf_X5_38 rfl rfl (by decide) dX5_spread_125 ?_
                refine w_gp (fun v => v = g69 13 0 6) rfl (fun v70 q70 => ?_)
                have e70 : v70.toInt = (g69 13 0 6).toInt := by rw [q70]
                have b70x : zB v70 0 3072 := by first | exact zB.eqv e70 c69_13_0_6x | (have q9 := c69_13_0_6x; constructor <;> omega)
                refine z_iconst (pc := 128) (v := 1) C dX5_spread_128 (by decide) ?_
                refine z_iadd (pc := 129) C dX5_spread_129 ?_
                refine w_gp (fun v => v = v70 + (1 : Int32)) rfl (fun v71 q71 => ?_)
                have e71 : v71.toInt = v70.toInt + 1 := by rw [q71]; exact (zadd_eb b70x (zB.of (x := 1) 1 (by decide)) (by decide) (by decide))
                have b71x : zB v71 1 3073 := by have q1 := b70x; have q2 := (zB.of (x := 1) 1 (by decide)); constructor <;> omega
                refine z_putI (pc := 130) C zf_X5_38 zp_5_6 rfl rfl (by decide) dX5_spread_130 ?_
                refine w_memx hI69 hF69 (zB.wk (a' := 0) (b' := 3073) b71x (by decide) (by decide)) rfl (fun g72 qm72 hI72 hF72 hq72 hx72 => ?_)
                have ec72 : (g72 13 0 6).toInt = v71.toInt := by rw [hx72]
                have c72x : zB (g72 13 0 6) 1 3073 := by first | exact zB.eqv ec72 b71x | (have q9 := b71x; constructor <;> omega)
                have ek72_1_0_7 : (g72 1 0 7).toInt = (g69 1 0 7).toInt := by rw [hq72 1 0 7 (by omega)]
                have c72_1_0_7x : zB (g72 1 0 7) 1 12 := by rw [hq72 1 0 7 (by omega)]; exact c69_1_0_7x
                refine z_iinc (pc := 133) (v := 1) C dX5_spread_133 rfl (by decide) (by rw [hn]; decide) rfl ?_
                obtain ⟨v73, hv73, e73⟩ : ∃ v : Int32, v = a2_2 + 1 ∧ v.toInt = a2_2.toInt + 1 := ⟨_, rfl, zadd_eb b5x (zB.of (x := 1) 1 (by decide)) (by decide) (by decide)⟩
                rw [← hv73]
                have b73x : zB v73 1 12 := by have q9 := b5x; constructor <;> omega
                refine z_goto (pc := 136) 2 C dX5_spread_136 (by decide) ?_
                refine w_mask [3, 4] ?_
                exact ih0 v73 (zB.wk (a' := 0) (b' := 12) b73x (by decide) (by decide)) g72 hI72 hF72 (zB.wk c72_1_0_7x (by decide) (by decide)) (zB.wk c72x (by decide) (by decide)) (by
                                                                                          have hn : (v73).toInt.toNat = a2_2.toInt.toNat + 1 := by omega
                                                                                          have hx : m8 = a2_2.toInt.toNat := by omega
                                                                                          have b8 : 0 ≤ (f 1 0 6).toInt ∧ (f 1 0 6).toInt ≤ 8 := hI 1 0 6
                                                                                          have hg := hp9_0
                                                                                          rw [hx] at hg
                                                                                          have hv := zgb (f := f) hI hp0 (by omega) (fun j => hF2_ 11 _ j rfl) hg
                                                                                          rw [hF2_ 6 2 1 rfl, hF2_ 6 2 4 rfl, hF2_ 6 2 5 rfl, hF2_ 6 2 6 rfl] at hv
                                                                                          have r1 : 0 ≤ (f 6 2 1).toInt ∧ (f 6 2 1).toInt ≤ 5 := hI 6 2 1
                                                                                          have r4 : 0 ≤ (f 6 2 4).toInt ∧ (f 6 2 4).toInt ≤ 1 := hI 6 2 4
                                                                                          have r5 : (f 6 2 5).toInt ≤ 5 := (hI 6 2 5).2
                                                                                          have hgs : v9 = zGsx f (zsts f g2_ a1.toInt.toNat) a2_2.toInt.toNat := by
                                                                                            rw [hR2_1, ← hp3.1, zGsx_c hI r1 r4 ⟨hp3.2, r5⟩]; exact hv
                                                                                          have hx2 : m11 = a2_2.toInt.toNat := by omega
                                                                                          have hpl := hp12_0
                                                                                          rw [hx2, hF2_ 11 _ 7 rfl] at hpl
                                                                                          have hG : zGpx f (zsts f g2_ a1.toInt.toNat) a2_2.toInt.toNat := ⟨by omega, fun z => absurd (hgs.trans z) (by assumption)⟩
                                                                                          have b26 : 0 ≤ (v9).toInt ∧ (v9).toInt ≤ 255 := by omega
                                                                                          have hK : zKs f (v45).toInt.toNat = zNsx f (zsts f g2_ a1.toInt.toNat) a2_2.toInt.toNat := by
                                                                                            refine zKs_n hI hG (by omega) (fun q => ?_)
                                                                                            first
                                                                                              | (rw [← hgs, show (v45).toInt.toNat % 256 = (v9).toInt.toNat by omega]; exact (nI_ofI b26.1).1.symm)
                                                                                              | exact absurd q (zbo_n hpl (by omega))
                                                                                          have r71 : v50 = g2_ 14 0 (v45).toInt.toNat := q50
                                                                                          have r73 : v52 = g2_ 13 0 7 := q52
                                                                                          have hno : ¬ g2_ 14 0 (v45).toInt.toNat = g2_ 13 0 7 := fun z => absurd (r71.trans (z.trans r73.symm)) (by assumption)
                                                                                          have n58 : (v45).toNatClampNeg = (v45).toInt.toNat := rfl
                                                                                          have r98 : v64 = g2_ 13 0 7 := q64
                                                                                          have r107 : v66 = g2_ 13 0 6 := by have h := q66; rw [qm65, zup_ne _ _ (by omega)] at h; exact h
                                                                                          have r118 : v68 = g2_ 13 0 6 := by have h := q68; rw [qm67, zup_ne _ _ (by omega), qm65, zup_ne _ _ (by omega)] at h; exact h
                                                                                          have r125 : v70 = g2_ 13 0 6 := by have h := q70; rw [qm69, zup_ne _ _ (by omega), qm67, zup_ne _ _ (by omega), qm65, zup_ne _ _ (by omega)] at h; exact h
                                                                                          have hsp : g72 = zsp_ g2_ v45 a1 := by
                                                                                            unfold zsp_
                                                                                            rw [qm72, qm69, qm67, qm65, q71, r125, r118, r107, r98]
                                                                                            rfl
                                                                                          rw [hn, hsp]
                                                                                          exact zQx_add hI2_ hR2_0 (by unfold zxn; omega) (by omega) hG ⟨by omega, by omega⟩ (by omega) hK (by omega) hno) (by
                                                                                          have n58 : (v45).toNatClampNeg = (v45).toInt.toNat := rfl
                                                                                          have r98 : v64 = g2_ 13 0 7 := q64
                                                                                          have r107 : v66 = g2_ 13 0 6 := by have h := q66; rw [qm65, zup_ne _ _ (by omega)] at h; exact h
                                                                                          have r118 : v68 = g2_ 13 0 6 := by have h := q68; rw [qm67, zup_ne _ _ (by omega), qm65, zup_ne _ _ (by omega)] at h; exact h
                                                                                          have r125 : v70 = g2_ 13 0 6 := by have h := q70; rw [qm69, zup_ne _ _ (by omega), qm67, zup_ne _ _ (by omega), qm65, zup_ne _ _ (by omega)] at h; exact h
                                                                                          have hsp : g72 = zsp_ g2_ v45 a1 := by
                                                                                            unfold zsp_
                                                                                            rw [qm72, qm69, qm67, qm65, q71, r125, r118, r107, r98]
                                                                                            rfl
                                                                                          have o15 : ∀ k, k < zxn g2_ → g72 15 0 k = g2_ 15 0 k := fun k hk => by
                                                                                            rw [hsp]
                                                                                            unfold zsp_
                                                                                            unfold zxn at hk
                                                                                            rw [zup_ne _ _ (by omega), zup_ne _ _ (by omega), zup_ne _ _ (by omega), zup_ne _ _ (by omega)]
                                                                                          have hxn : zxn f ≤ zxn g2_ := hR2_3
                                                                                          rw [← hR2_1]
                                                                                          unfold zsts
                                                                                          rw [o15 _ (by have h := hp2; omega)]) (by
                                                                                          have n58 : (v45).toNatClampNeg = (v45).toInt.toNat := rfl
                                                                                          have r98 : v64 = g2_ 13 0 7 := q64
                                                                                          have r107 : v66 = g2_ 13 0 6 := by have h := q66; rw [qm65, zup_ne _ _ (by omega)] at h; exact h
                                                                                          have r118 : v68 = g2_ 13 0 6 := by have h := q68; rw [qm67, zup_ne _ _ (by omega), qm65, zup_ne _ _ (by omega)] at h; exact h
                                                                                          have r125 : v70 = g2_ 13 0 6 := by have h := q70; rw [qm69, zup_ne _ _ (by omega), qm67, zup_ne _ _ (by omega), qm65, zup_ne _ _ (by omega)] at h; exact h
                                                                                          have hsp : g72 = zsp_ g2_ v45 a1 := by
                                                                                            unfold zsp_
                                                                                            rw [qm72, qm69, qm67, qm65, q71, r125, r118, r107, r98]
                                                                                            rfl
                                                                                          have o15 : ∀ k, k < zxn g2_ → g72 15 0 k = g2_ 15 0 k := fun k hk => by
                                                                                            rw [hsp]
                                                                                            unfold zsp_
                                                                                            unfold zxn at hk
                                                                                            rw [zup_ne _ _ (by omega), zup_ne _ _ (by omega), zup_ne _ _ (by omega), zup_ne _ _ (by omega)]
                                                                                          have hxn : zxn f ≤ zxn g2_ := hR2_3
                                                                                          intro k hk
                                                                                          rw [o15 k (by omega)]; exact hR2_2 k hk) (by
                                                                                          have n58 : (v45).toNatClampNeg = (v45).toInt.toNat := rfl
                                                                                          have r98 : v64 = g2_ 13 0 7 := q64
                                                                                          have r107 : v66 = g2_ 13 0 6 := by have h := q66; rw [qm65, zup_ne _ _ (by omega)] at h; exact h
                                                                                          have r118 : v68 = g2_ 13 0 6 := by have h := q68; rw [qm67, zup_ne _ _ (by omega), qm65, zup_ne _ _ (by omega)] at h; exact h
                                                                                          have r125 : v70 = g2_ 13 0 6 := by have h := q70; rw [qm69, zup_ne _ _ (by omega), qm67, zup_ne _ _ (by omega), qm65, zup_ne _ _ (by omega)] at h; exact h
                                                                                          have hsp : g72 = zsp_ g2_ v45 a1 := by
                                                                                            unfold zsp_
                                                                                            rw [qm72, qm69, qm67, qm65, q71, r125, r118, r107, r98]
                                                                                            rfl
                                                                                          have o15 : ∀ k, k < zxn g2_ → g72 15 0 k = g2_ 15 0 k := fun k hk => by
                                                                                            rw [hsp]
                                                                                            unfold zsp_
                                                                                            unfold zxn at hk
                                                                                            rw [zup_ne _ _ (by omega), zup_ne _ _ (by omega), zup_ne _ _ (by omega), zup_ne _ _ (by omega)]
                                                                                          have hxn : zxn f ≤ zxn g2_ := hR2_3
                                                                                          have x13 : g72 13 0 6 = g2_ 13 0 6 + 1 := by rw [hsp]; unfold zsp_; rw [zup_same]
                                                                                          have b13 : zB (g2_ 13 0 6) 0 3073 := hI2_ 13 0 6
                                                                                          have es : (g2_ 13 0 6 + 1 : Int32).toInt = (g2_ 13 0 6).toInt + 1 := zadd_eb (x := g2_ 13 0 6) b13 (zB.of (x := 1) 1 (by decide)) (by decide) (by decide)
                                                                                          unfold zxn at hxn ⊢
                                                                                          rw [x13, es]
                                                                                          have := b13.1
                                                                                          omega) (by omega) (by omega) (by omega) (by omega)
  have J0 := J 51
  show Z X 0 [some (zr 13 0), some (zi a1), none, none, none] [] f
  refine z_iconst (pc := 0) (v := 0) C dX5_spread_0 (by decide) ?_
  refine z_istore_n (pc := 1) C dX5_spread_1 (by rw [hn]; decide) rfl ?_
  exact J0 0 (zB.wk (a' := 0) (b' := 12) (zB.of (x := 0) 0 (by decide)) (by decide) (by decide)) f hI hF ct1_0_7 ct13_0_6 (by exact hp1) (by rfl) (by intro k _; rfl) (by exact Nat.le_refl _) (by have h := hp2; unfold zxn at h; omega) (by have qc0 : (0 : Int32).toInt = 0 := (by decide); omega) (by have qc0 : (0 : Int32).toInt = 0 := (by decide); omega) (by have qc0 : (0 : Int32).toInt = 0 := (by decide); omega)

theorem zspre {f g p : zM} {k : Nat} (W : ∀ a b c, ¬ (a = 6 ∧ b = 2) → p a b c = g a b c) (h1 : ∀ j, g 1 0 j = f 1 0 j) (h11 : ∀ q j, g 11 q j = f 11 q j) (h8 : ∀ n j, g 8 n j = f 8 n j) (h9 : ∀ n j, g 9 n j = f 9 n j) (h10 : ∀ n j, g 10 n j = f 10 n j) (h6 : ∀ n j, n ≠ 2 → g 6 n j = f 6 n j) (hs : zWs f) (hq : zQx f g k 0) (hk : zWk p (zAl (g 1 0 6)) (zsts g g k)) : zWs p ∧ zQx p p k 0 ∧ zWk p (zAl (p 1 0 6)) (zsts p p k) ∧ zWk p (zAl (f 1 0 6)) (zsts f g k) ∧ (zGpx f = zGpx p ∧ zNsx f = zNsx p ∧ zS0x f = zS0x p ∧ zKs f = zKs p) := by
  have p1 : ∀ j, p 1 0 j = f 1 0 j := fun j => (W _ _ _ (by omega)).trans (h1 j)
  have p11 : ∀ q j, p 11 q j = f 11 q j := fun q j => (W _ _ _ (by omega)).trans (h11 q j)
  have p8 : ∀ q j, p 8 q j = f 8 q j := fun q j => (W _ _ _ (by omega)).trans (h8 q j)
  have p9 : ∀ q j, p 9 q j = f 9 q j := fun q j => (W _ _ _ (by omega)).trans (h9 q j)
  have p10 : ∀ q j, p 10 q j = f 10 q j := fun q j => (W _ _ _ (by omega)).trans (h10 q j)
  have p6 : ∀ j, p 6 0 j = f 6 0 j := fun j => (W _ _ _ (by omega)).trans (h6 0 j (by decide))
  obtain ⟨_, a1, a2, a3, a4⟩ := zGx_k (f := f) (g := p) (fun j _ => p1 j) (fun q j _ => p11 q j) p8 p9 p10 p6
  obtain ⟨_, b1, b2, b3, b4⟩ := zGx_k (f := f) (g := g) (fun j _ => h1 j) (fun q j _ => h11 q j) h8 h9 h10 (fun j => h6 0 j (by decide))
  have z1 : zsts g g k = zsts f g k := by unfold zsts; rw [b3, b4]
  have z2 : zsts p p k = zsts f g k := by unfold zsts; rw [a3, a4, W 15 0 k (by omega)]
  rw [h1, z1] at hk
  refine ⟨zWs_k0 hs (fun j _ => p1 j) p11 p8 p9 p10 (p6 0) (p6 2), ?_, ?_, hk, a1.symm, a2.symm, a3.symm, a4.symm⟩
  · exact zQx_b (zQx_k hq (W _ _ _ (by omega)) (W _ _ _ (by omega)) (funext (fun j => W 14 0 j (by omega))) (funext (fun j => W 15 0 j (by omega))) (funext (fun j => W 16 0 j (by omega)))) a1 a2 a3 a4 (p1 7)
  · rw [p1, z2]; exact hk
theorem zQs_w {f p : zM} {s d : Nat} {v : Int32} (hI : zInv f) (k1 : p 1 0 6 = f 1 0 6) (k8 : ∀ n j, p 8 n j = f 8 n j) (k9 : ∀ n j, p 9 n j = f 9 n j) (hd : (d : Int) < (f 1 0 6).toInt) (hx : ∀ i, i < (f 1 0 6).toInt.toNat → (bt (zDe_ s) i = true ↔ bt (p 6 2 6) i = true)) (hv : v = zbf (fun i => 0 < (p 9 i (p 6 2 1).toInt.toNat).toInt ∧ p 8 i 4 = 0) (p 1 0 6).toInt.toNat &&& p 6 2 6) : bt v d = true ↔ (zMTx f (p 6 2 1) d ∧ bt (zDe_ s) d = true) := by
  have b8 : (f 1 0 6).toInt ≤ 8 := (hI 1 0 6).2
  rw [hv, b_and, Bool.and_eq_true, k1, zbf_bit (by omega) _ (by omega), hx d (by omega), k8, k9]
  unfold zMTx
  exact ⟨fun q => ⟨q.1.2, q.2⟩, fun q => ⟨⟨by omega, q.1⟩, q.2⟩⟩

/-- what find tells: the first step that is so, or none -/
def zFres (f m : zM) (Q : Nat → Prop) (v : Int32) : Prop := (v = -4 ∧ zQx f m (zxn m) 0 ∧ ∀ j, j < zxn m → ¬ Q (zsts f m j)) ∨ (∃ k, v = nI k ∧ k < zxn m ∧ zQx f m k 0 ∧ Q (zsts f m k) ∧ ∀ j, j < k → ¬ Q (zsts f m j))

set_option maxRecDepth 100000 in
set_option maxHeartbeats 4000000 in
theorem y_X5_find (d : Nat) (f : zM) (a1 : Int32) (b1 : zB a1 0 5) (a2 : Int32) (b2 : zB a2 0 7) (hp0 : zWs f) (hp1 : ((f 6 0 5).toInt = -4 ∨ 0 ≤ (f 6 0 5).toInt)) (hp2 : ((∀ key, (f 14 0 key).toInt ≤ (f 13 0 7).toInt) ∧ (f 13 0 7).toInt < 2147483647 ∧ 0 ≤ (f 13 0 7).toInt)) (hp3 : a2.toInt < (f 1 0 6).toInt) (hI : zInv f) : ZM (d + 3) yX5_find cX5_find 4 (some .int) [zr 13 0, zi a1, zi a2] f (fun r g => (∃ v, r = some (zi v) ∧ zB v (-4) 3072) ∧ zInv g ∧ zFr [(6, some 1), (6, some 4), (6, some 5), (6, some 6), (13, some 6), (13, some 7), (14, none), (15, none), (16, none)] f g ∧ (∀ v : Int32, r = some (zi v) → zFres f g (zQs f a1 a2.toInt.toNat) v) ∧ (∀ v : Int32, r = some (zi v) → ((∀ key, (g 14 0 key).toInt ≤ (g 13 0 7).toInt) ∧ (g 13 0 7).toInt ≤ (f 13 0 7).toInt + 1 ∧ 0 ≤ (g 13 0 7).toInt)) ∧ (∀ v : Int32, r = some (zi v) → (∀ n j, n ≠ 2 → g 6 n j = f 6 n j))) := by
  refine ZM.intro (by decide +kernel) (Nat.le_of_ble_eq_true rfl) ?_
  intro X C hr hn
  have hF : zFr [(6, some 1), (6, some 4), (6, some 5), (6, some 6), (13, some 6), (13, some 7), (14, none), (15, none), (16, none)] f f := zFr.rf _ _
  have ct13_0_6 : zB (f 13 0 6) 0 3073 := hI 13 0 6
  have J : ∀ t : Nat, (∀ a6_3 : Int32, zB a6_3 0 3073 → ∀ g : zM, zInv g → zFr [(6, some 1), (6, some 4), (6, some 5), (6, some 6), (13, some 6), (13, some 7), (14, none), (15, none), (16, none)] f g → zB (g 13 0 6) 0 3073 → ((∀ n j, n ≠ 2 → g 6 n j = f 6 n j)) → (zQx f g a6_3.toInt.toNat 0) → ((g 13 0 7).toInt = (f 13 0 7).toInt + 1) → ((∀ j, j < a6_3.toInt.toNat → ¬ zQs f a1 a2.toInt.toNat (zsts f g j))) → (a6_3.toInt ≤ (g 13 0 6).toInt) → (0 + 3 * (3073 - a6_3.toInt) : Int) < t → Z X 6 [some (zr 13 0), some (zi a1), some (zi a2), some (zi a6_3)] [] g) := by
    intro t
    induction t with
    | zero =>
      intros; exfalso; omega
    | succ t ih =>
      have ih0 := ih
      intro a6_3 b6_3 g6_ hI6_ hF6_ f6_13_0_6 hR6_0 hR6_1 hR6_2 hR6_3 hR6_4 hM6_
      refine z_iload_n (pc := 6) C dX5_find_6 rfl ?_
      refine z_aload_n (pc := 7) C dX5_find_7 rfl ?_
      refine z_getR (pc := 8) C zf_X5_22 rfl rfl (by decide) dX5_find_8 ?_
      refine z_alenI (pc := 11) (v := 3073) C rfl (by decide) rfl dX5_find_11 ?_
      refine z_icmp_ge (pc := 12) 70 C dX5_find_12 (by decide) (fun h12_0 => ?_) (fun h12_0 => ?_)
      · skip
        have b2x : zB a6_3 3073 3073 := by have q1 := b6_3; have q2 := (zB.of (x := 3073) 3073 (by decide)); simp only [z32lt, z32le, z32eq, Int32.reduceToInt, Int32.toInt_zero] at h12_0; constructor <;> omega
        refine z_bipush (pc := 70) (v := -4) C dX5_find_70 (by decide) ?_
        exact z_iret (pc := 72) C hr dX5_find_72 ⟨⟨_, rfl, (zB.wk (a' := (-4)) (b' := 3072) (zB.of (x := (-4)) (-4) (by decide)) (by decide) (by decide))⟩, hI6_, hF6_, (by
                                                                                          intro v hv; cases hv
                                                                                          have b13 : 0 ≤ (g6_ 13 0 6).toInt ∧ (g6_ 13 0 6).toInt ≤ 3073 := hI6_ 13 0 6
                                                                                          have hn : zxn g6_ = a6_3.toInt.toNat := by unfold zxn; omega
                                                                                          exact Or.inl ⟨rfl, by rw [hn]; exact hR6_1, fun j hj => hR6_3 j (by omega)⟩), (by intro v hv; cases hv; exact ⟨hR6_1.2.2.1, by omega, by have := hp2; omega⟩), (by intro v hv; cases hv; intro n j hn; exact hR6_0 n j hn)⟩
      · skip
        have b3x : zB a6_3 0 3072 := by have q1 := b6_3; have q2 := (zB.of (x := 3073) 3073 (by decide)); simp only [z32lt, z32le, z32eq, Int32.reduceToInt, Int32.toInt_zero] at h12_0; constructor <;> omega
        refine z_iload_n (pc := 15) C dX5_find_15 rfl ?_
        refine z_aload_n (pc := 16) C dX5_find_16 rfl ?_
        refine z_getI (pc := 17) C zf_X5_38 rfl rfl (by decide) dX5_find_17 ?_
        refine w_gp (fun v => v = g6_ 13 0 6) rfl (fun v4 q4 => ?_)
        have e4 : v4.toInt = (g6_ 13 0 6).toInt := by rw [q4]
        have b4x : zB v4 0 3073 := by first | exact zB.eqv e4 f6_13_0_6 | (have q9 := f6_13_0_6; constructor <;> omega)
        refine z_icmp_ge (pc := 20) 70 C dX5_find_20 (by decide) (fun h20_4 => ?_) (fun h20_4 => ?_)
        · skip
          have rr6 : a6_3.toInt ≥ v4.toInt := by simp only [z32lt, z32le, z32eq] at h20_4; omega
          have b7x : zB v4 0 3072 := by have q1 := b3x; have q2 := b4x; simp only [z32lt, z32le, z32eq, Int32.reduceToInt, Int32.toInt_zero] at h20_4; constructor <;> omega
          have c8x : zB (g6_ 13 0 6) 0 3072 := by first | assumption | (constructor <;> omega)
          refine z_bipush (pc := 70) (v := -4) C dX5_find_70 (by decide) ?_
          exact z_iret (pc := 72) C hr dX5_find_72 ⟨⟨_, rfl, (zB.wk (a' := (-4)) (b' := 3072) (zB.of (x := (-4)) (-4) (by decide)) (by decide) (by decide))⟩, hI6_, hF6_, (by
                                                                                          intro v hv; cases hv
                                                                                          have b13 : 0 ≤ (g6_ 13 0 6).toInt ∧ (g6_ 13 0 6).toInt ≤ 3073 := hI6_ 13 0 6
                                                                                          have hn : zxn g6_ = a6_3.toInt.toNat := by unfold zxn; omega
                                                                                          exact Or.inl ⟨rfl, by rw [hn]; exact hR6_1, fun j hj => hR6_3 j (by omega)⟩), (by intro v hv; cases hv; exact ⟨hR6_1.2.2.1, by omega, by have := hp2; omega⟩), (by intro v hv; cases hv; intro n j hn; exact hR6_0 n j hn)⟩
        · skip
          have rr9 : a6_3.toInt < v4.toInt := by simp only [z32lt, z32le, z32eq] at h20_4; omega
          have b10x : zB v4 1 3073 := by have q1 := b3x; have q2 := b4x; simp only [z32lt, z32le, z32eq, Int32.reduceToInt, Int32.toInt_zero] at h20_4; constructor <;> omega
          have c11x : zB (g6_ 13 0 6) 1 3073 := by first | assumption | (constructor <;> omega)
          refine z_aload_n (pc := 23) C dX5_find_23 rfl ?_
          refine z_iload_n (pc := 24) C dX5_find_24 rfl ?_
          refine z_callV (pc := 25) C zk_X5_42 (y_X5_placeWalker _ _ a6_3 b3x (by rw [hR6_0 0 5 (by decide)]; exact hp1) hI6_) rfl rfl (by decide) rfl rfl (Nat.le_of_ble_eq_true rfl) dX5_find_25 (fun r12 g12 q12 => ?_)
          obtain ⟨rfl, hI12, hF12q, hp12_0, hp12_1, hp12_2⟩ := q12
          have hF12 := zFr.tr hF6_ hF12q (by decide)
          simp only [Option.toList, List.cons_append, List.nil_append]
          have ek12_13_0_6 : (g12 13 0 6).toInt = (g6_ 13 0 6).toInt := by rw [hF12q 13 0 6 rfl]
          have c12_13_0_6x : zB (g12 13 0 6) 1 3073 := by rw [hF12q 13 0 6 rfl]; exact c11x
          refine z_aload_n (pc := 28) C dX5_find_28 rfl ?_
          refine z_getR (pc := 29) C zf_X5_12 rfl rfl (by decide) dX5_find_29 ?_
          refine z_getI (pc := 32) C zf_X5_46 rfl rfl (by decide) dX5_find_32 ?_
          refine w_gp (fun v => v = g12 6 2 1) rfl (fun v14 q14 => ?_)
          have b14x : zB v14 0 5 := by rw [q14]; exact (hI12 6 2 1)
          refine z_iload_n (pc := 35) C dX5_find_35 rfl ?_
          refine z_icmp_ne (pc := 36) 59 C dX5_find_36 (by decide) (fun h36_14 => ?_) (fun h36_14 => ?_)
          · skip
            refine z_aload_n (pc := 59) C dX5_find_59 rfl ?_
            refine z_iload_n (pc := 60) C dX5_find_60 rfl ?_
            refine z_callV (pc := 61) C zk_X5_55 (y_X5_spread _ _ a6_3 b3x (by exact (zspre hp12_0 (fun j => hF6_ 1 0 j rfl) (fun p j => hF6_ 11 p j rfl) (fun n j => hF6_ 8 n j rfl) (fun n j => hF6_ 9 n j rfl) (fun n j => hF6_ 10 n j rfl) hR6_0 hp0 hR6_1 hp12_1).1) (by exact (zspre hp12_0 (fun j => hF6_ 1 0 j rfl) (fun p j => hF6_ 11 p j rfl) (fun n j => hF6_ 8 n j rfl) (fun n j => hF6_ 9 n j rfl) (fun n j => hF6_ 10 n j rfl) hR6_0 hp0 hR6_1 hp12_1).2.1) (by unfold zxn; rw [hp12_0 13 0 6 (by omega)]; omega) (by exact (zspre hp12_0 (fun j => hF6_ 1 0 j rfl) (fun p j => hF6_ 11 p j rfl) (fun n j => hF6_ 8 n j rfl) (fun n j => hF6_ 9 n j rfl) (fun n j => hF6_ 10 n j rfl) hR6_0 hp0 hR6_1 hp12_1).2.2.1) hI12) rfl rfl (by decide) rfl rfl (Nat.le_of_ble_eq_true rfl) dX5_find_61 (fun r16 g16 q16 => ?_)
            obtain ⟨rfl, hI16, hF16q, hp16_0, hp16_1, hp16_2⟩ := q16
            have hF16 := zFr.tr hF12 hF16q (by decide)
            simp only [Option.toList, List.cons_append, List.nil_append]
            have cr16_13_0_6 : zB (g16 13 0 6) 0 3073 := hI16 13 0 6
            refine z_iinc (pc := 64) (v := 1) C dX5_find_64 rfl (by decide) (by rw [hn]; decide) rfl ?_
            obtain ⟨v17, hv17, e17⟩ : ∃ v : Int32, v = a6_3 + 1 ∧ v.toInt = a6_3.toInt + 1 := ⟨_, rfl, zadd_eb b3x (zB.of (x := 1) 1 (by decide)) (by decide) (by decide)⟩
            rw [← hv17]
            have b17x : zB v17 1 3073 := by have q9 := b3x; constructor <;> omega
            refine z_goto (pc := 67) 6 C dX5_find_67 (by decide) ?_
            exact ih0 v17 (zB.wk (a' := 0) (b' := 3073) b17x (by decide) (by decide)) g16 hI16 hF16 cr16_13_0_6 (by intro n j hn; exact ((hF16q 6 n j rfl)).trans (((hp12_2 n j hn)).trans (hR6_0 n j hn))) (by
                                                                                          have hz := zspre hp12_0 (fun j => hF6_ 1 0 j rfl) (fun p j => hF6_ 11 p j rfl) (fun n j => hF6_ 8 n j rfl) (fun n j => hF6_ 9 n j rfl) (fun n j => hF6_ 10 n j rfl) hR6_0 hp0 hR6_1 hp12_1
                                                                                          have hW := hp12_0
                                                                                          have hx := zWk_x (f := f) hI hI12 hz.2.2.2.1
                                                                                          have p1 : ∀ j, g12 1 0 j = f 1 0 j := fun j => (hW _ _ _ (by omega)).trans (hF6_ 1 0 j rfl)
                                                                                          have p8 : ∀ n j, g12 8 n j = f 8 n j := fun n j => (hW _ _ _ (by omega)).trans (hF6_ 8 n j rfl)
                                                                                          have p9 : ∀ n j, g12 9 n j = f 9 n j := fun n j => (hW _ _ _ (by omega)).trans (hF6_ 9 n j rfl)
                                                                                          have hn : (v17).toInt.toNat = a6_3.toInt.toNat + 1 := by omega
                                                                                          have hsq := hp16_0
                                                                                          have ho := hp16_1
                                                                                          have hle := hp16_2
                                                                                          have hnx : zxn g12 = zxn g6_ := by unfold zxn; rw [hW 13 0 6 (by omega)]
                                                                                          have hzt : ∀ j, j < zxn g6_ → zsts f g16 j = zsts f g6_ j := fun j hj => by
                                                                                            unfold zsts
                                                                                            rw [ho j (by rw [hnx]; exact hj), hW 15 0 j (by omega)]
                                                                                          rw [hn]
                                                                                          exact zQx_b hsq hz.2.2.2.2.1 hz.2.2.2.2.2.1 hz.2.2.2.2.2.2.1 hz.2.2.2.2.2.2.2 ((p1 7).symm)) (by
                                                                                          have hz := zspre hp12_0 (fun j => hF6_ 1 0 j rfl) (fun p j => hF6_ 11 p j rfl) (fun n j => hF6_ 8 n j rfl) (fun n j => hF6_ 9 n j rfl) (fun n j => hF6_ 10 n j rfl) hR6_0 hp0 hR6_1 hp12_1
                                                                                          have hW := hp12_0
                                                                                          have hx := zWk_x (f := f) hI hI12 hz.2.2.2.1
                                                                                          have p1 : ∀ j, g12 1 0 j = f 1 0 j := fun j => (hW _ _ _ (by omega)).trans (hF6_ 1 0 j rfl)
                                                                                          have p8 : ∀ n j, g12 8 n j = f 8 n j := fun n j => (hW _ _ _ (by omega)).trans (hF6_ 8 n j rfl)
                                                                                          have p9 : ∀ n j, g12 9 n j = f 9 n j := fun n j => (hW _ _ _ (by omega)).trans (hF6_ 9 n j rfl)
                                                                                          have hn : (v17).toInt.toNat = a6_3.toInt.toNat + 1 := by omega
                                                                                          have hsq := hp16_0
                                                                                          have ho := hp16_1
                                                                                          have hle := hp16_2
                                                                                          have hnx : zxn g12 = zxn g6_ := by unfold zxn; rw [hW 13 0 6 (by omega)]
                                                                                          have hzt : ∀ j, j < zxn g6_ → zsts f g16 j = zsts f g6_ j := fun j hj => by
                                                                                            unfold zsts
                                                                                            rw [ho j (by rw [hnx]; exact hj), hW 15 0 j (by omega)]
                                                                                          rw [hF16q 13 0 7 rfl, hW 13 0 7 (by omega)]; exact hR6_2) (by
                                                                                          have hz := zspre hp12_0 (fun j => hF6_ 1 0 j rfl) (fun p j => hF6_ 11 p j rfl) (fun n j => hF6_ 8 n j rfl) (fun n j => hF6_ 9 n j rfl) (fun n j => hF6_ 10 n j rfl) hR6_0 hp0 hR6_1 hp12_1
                                                                                          have hW := hp12_0
                                                                                          have hx := zWk_x (f := f) hI hI12 hz.2.2.2.1
                                                                                          have p1 : ∀ j, g12 1 0 j = f 1 0 j := fun j => (hW _ _ _ (by omega)).trans (hF6_ 1 0 j rfl)
                                                                                          have p8 : ∀ n j, g12 8 n j = f 8 n j := fun n j => (hW _ _ _ (by omega)).trans (hF6_ 8 n j rfl)
                                                                                          have p9 : ∀ n j, g12 9 n j = f 9 n j := fun n j => (hW _ _ _ (by omega)).trans (hF6_ 9 n j rfl)
                                                                                          have hn : (v17).toInt.toNat = a6_3.toInt.toNat + 1 := by omega
                                                                                          have hsq := hp16_0
                                                                                          have ho := hp16_1
                                                                                          have hle := hp16_2
                                                                                          have hnx : zxn g12 = zxn g6_ := by unfold zxn; rw [hW 13 0 6 (by omega)]
                                                                                          have hzt : ∀ j, j < zxn g6_ → zsts f g16 j = zsts f g6_ j := fun j hj => by
                                                                                            unfold zsts
                                                                                            rw [ho j (by rw [hnx]; exact hj), hW 15 0 j (by omega)]
                                                                                          intro j hj
                                                                                          rw [hn] at hj
                                                                                          rw [hzt j (by unfold zxn; omega)]
                                                                                          by_cases e : j = a6_3.toInt.toNat
                                                                                          · subst e
                                                                                            exact fun q => absurd (show v14 = a1 by rw [q14, ← hx.2.1]; exact q.1) (by assumption)
                                                                                          · exact hR6_3 j (by omega)) (by
                                                                                          have hz := zspre hp12_0 (fun j => hF6_ 1 0 j rfl) (fun p j => hF6_ 11 p j rfl) (fun n j => hF6_ 8 n j rfl) (fun n j => hF6_ 9 n j rfl) (fun n j => hF6_ 10 n j rfl) hR6_0 hp0 hR6_1 hp12_1
                                                                                          have hW := hp12_0
                                                                                          have hx := zWk_x (f := f) hI hI12 hz.2.2.2.1
                                                                                          have p1 : ∀ j, g12 1 0 j = f 1 0 j := fun j => (hW _ _ _ (by omega)).trans (hF6_ 1 0 j rfl)
                                                                                          have p8 : ∀ n j, g12 8 n j = f 8 n j := fun n j => (hW _ _ _ (by omega)).trans (hF6_ 8 n j rfl)
                                                                                          have p9 : ∀ n j, g12 9 n j = f 9 n j := fun n j => (hW _ _ _ (by omega)).trans (hF6_ 9 n j rfl)
                                                                                          have hn : (v17).toInt.toNat = a6_3.toInt.toNat + 1 := by omega
                                                                                          have hsq := hp16_0
                                                                                          have ho := hp16_1
                                                                                          have hle := hp16_2
                                                                                          have hnx : zxn g12 = zxn g6_ := by unfold zxn; rw [hW 13 0 6 (by omega)]
                                                                                          have hzt : ∀ j, j < zxn g6_ → zsts f g16 j = zsts f g6_ j := fun j hj => by
                                                                                            unfold zsts
                                                                                            rw [ho j (by rw [hnx]; exact hj), hW 15 0 j (by omega)]
                                                                                          have hl : zxn g6_ ≤ zxn g16 := by rw [← hnx]; exact hle
                                                                                          unfold zxn at hl
                                                                                          have b13 : 0 ≤ (g16 13 0 6).toInt := (hI16 13 0 6).1
                                                                                          omega) (by omega)
          · skip
            have rr18 : v14.toInt = a1.toInt := by simp only [z32lt, z32le, z32eq] at h36_14; omega
            refine z_aload_n (pc := 39) C dX5_find_39 rfl ?_
            refine z_getR (pc := 40) C zf_X5_31 rfl rfl (by decide) dX5_find_40 ?_
            refine z_aload_n (pc := 43) C dX5_find_43 rfl ?_
            refine z_getR (pc := 44) C zf_X5_12 rfl rfl (by decide) dX5_find_44 ?_
            refine z_callV (pc := 47) C zk_X5_49 (x_X8_triedBy _ _ 2 (by decide) hI12) rfl rfl (by decide) rfl rfl (Nat.le_of_ble_eq_true rfl) dX5_find_47 (fun r19 g19 q19 => ?_)
            obtain ⟨⟨v19, rfl, b19x⟩, hI19, hF19q, hp19_0⟩ := q19
            have hp19_0 := hp19_0 _ rfl
            obtain rfl := zFr_nil hF19q
            simp only [Option.toList, List.cons_append, List.nil_append]
            refine z_iload_n (pc := 50) C dX5_find_50 rfl ?_
            refine z_ishr (pc := 51) C dX5_find_51 ?_
            refine w_gp (fun v => v = v19 >>> (a2 &&& 31)) rfl (fun v20 q20 => ?_)
            refine z_iconst (pc := 52) (v := 1) C dX5_find_52 (by decide) ?_
            refine z_iand (pc := 53) C dX5_find_53 ?_
            refine w_gp (fun v => v = v20 &&& (1 : Int32)) rfl (fun v21 q21 => ?_)
            have b21x : zB v21 0 1 := by rw [q21]; exact (zand_b (zB_any v20) (zB.of (x := 1) 1 (by decide)) (by decide))
            refine z_if_eq (pc := 54) 59 C dX5_find_54 (by decide) (fun h54_21 => ?_) (fun h54_21 => ?_)
            · skip
              have b23x : zB v21 0 0 := by have q1 := b21x; have q2 := (zB.of (x := 0) 0 (by decide)); simp only [z32lt, z32le, z32eq, Int32.reduceToInt, Int32.toInt_zero] at h54_21; constructor <;> omega
              refine z_aload_n (pc := 59) C dX5_find_59 rfl ?_
              refine z_iload_n (pc := 60) C dX5_find_60 rfl ?_
              refine z_callV (pc := 61) C zk_X5_55 (y_X5_spread _ _ a6_3 b3x (by exact (zspre hp12_0 (fun j => hF6_ 1 0 j rfl) (fun p j => hF6_ 11 p j rfl) (fun n j => hF6_ 8 n j rfl) (fun n j => hF6_ 9 n j rfl) (fun n j => hF6_ 10 n j rfl) hR6_0 hp0 hR6_1 hp12_1).1) (by exact (zspre hp12_0 (fun j => hF6_ 1 0 j rfl) (fun p j => hF6_ 11 p j rfl) (fun n j => hF6_ 8 n j rfl) (fun n j => hF6_ 9 n j rfl) (fun n j => hF6_ 10 n j rfl) hR6_0 hp0 hR6_1 hp12_1).2.1) (by unfold zxn; rw [hp12_0 13 0 6 (by omega)]; omega) (by exact (zspre hp12_0 (fun j => hF6_ 1 0 j rfl) (fun p j => hF6_ 11 p j rfl) (fun n j => hF6_ 8 n j rfl) (fun n j => hF6_ 9 n j rfl) (fun n j => hF6_ 10 n j rfl) hR6_0 hp0 hR6_1 hp12_1).2.2.1) hI12) rfl rfl (by decide) rfl rfl (Nat.le_of_ble_eq_true rfl) dX5_find_61 (fun r24 g24 q24 => ?_)
              obtain ⟨rfl, hI24, hF24q, hp24_0, hp24_1, hp24_2⟩ := q24
              have hF24 := zFr.tr hF12 hF24q (by decide)
              simp only [Option.toList, List.cons_append, List.nil_append]
              have cr24_13_0_6 : zB (g24 13 0 6) 0 3073 := hI24 13 0 6
              refine z_iinc (pc := 64) (v := 1) C dX5_find_64 rfl (by decide) (by rw [hn]; decide) rfl ?_
              obtain ⟨v25, hv25, e25⟩ : ∃ v : Int32, v = a6_3 + 1 ∧ v.toInt = a6_3.toInt + 1 := ⟨_, rfl, zadd_eb b3x (zB.of (x := 1) 1 (by decide)) (by decide) (by decide)⟩
              rw [← hv25]
              have b25x : zB v25 1 3073 := by have q9 := b3x; constructor <;> omega
              refine z_goto (pc := 67) 6 C dX5_find_67 (by decide) ?_
              exact ih0 v25 (zB.wk (a' := 0) (b' := 3073) b25x (by decide) (by decide)) g24 hI24 hF24 cr24_13_0_6 (by intro n j hn; exact ((hF24q 6 n j rfl)).trans (((hp12_2 n j hn)).trans (hR6_0 n j hn))) (by
                                                                                          have hz := zspre hp12_0 (fun j => hF6_ 1 0 j rfl) (fun p j => hF6_ 11 p j rfl) (fun n j => hF6_ 8 n j rfl) (fun n j => hF6_ 9 n j rfl) (fun n j => hF6_ 10 n j rfl) hR6_0 hp0 hR6_1 hp12_1
                                                                                          have hW := hp12_0
                                                                                          have hx := zWk_x (f := f) hI hI12 hz.2.2.2.1
                                                                                          have p1 : ∀ j, g12 1 0 j = f 1 0 j := fun j => (hW _ _ _ (by omega)).trans (hF6_ 1 0 j rfl)
                                                                                          have p8 : ∀ n j, g12 8 n j = f 8 n j := fun n j => (hW _ _ _ (by omega)).trans (hF6_ 8 n j rfl)
                                                                                          have p9 : ∀ n j, g12 9 n j = f 9 n j := fun n j => (hW _ _ _ (by omega)).trans (hF6_ 9 n j rfl)
                                                                                          have hn : (v25).toInt.toNat = a6_3.toInt.toNat + 1 := by omega
                                                                                          have hsq := hp24_0
                                                                                          have ho := hp24_1
                                                                                          have hle := hp24_2
                                                                                          have hnx : zxn g12 = zxn g6_ := by unfold zxn; rw [hW 13 0 6 (by omega)]
                                                                                          have hzt : ∀ j, j < zxn g6_ → zsts f g24 j = zsts f g6_ j := fun j hj => by
                                                                                            unfold zsts
                                                                                            rw [ho j (by rw [hnx]; exact hj), hW 15 0 j (by omega)]
                                                                                          rw [hn]
                                                                                          exact zQx_b hsq hz.2.2.2.2.1 hz.2.2.2.2.2.1 hz.2.2.2.2.2.2.1 hz.2.2.2.2.2.2.2 ((p1 7).symm)) (by
                                                                                          have hz := zspre hp12_0 (fun j => hF6_ 1 0 j rfl) (fun p j => hF6_ 11 p j rfl) (fun n j => hF6_ 8 n j rfl) (fun n j => hF6_ 9 n j rfl) (fun n j => hF6_ 10 n j rfl) hR6_0 hp0 hR6_1 hp12_1
                                                                                          have hW := hp12_0
                                                                                          have hx := zWk_x (f := f) hI hI12 hz.2.2.2.1
                                                                                          have p1 : ∀ j, g12 1 0 j = f 1 0 j := fun j => (hW _ _ _ (by omega)).trans (hF6_ 1 0 j rfl)
                                                                                          have p8 : ∀ n j, g12 8 n j = f 8 n j := fun n j => (hW _ _ _ (by omega)).trans (hF6_ 8 n j rfl)
                                                                                          have p9 : ∀ n j, g12 9 n j = f 9 n j := fun n j => (hW _ _ _ (by omega)).trans (hF6_ 9 n j rfl)
                                                                                          have hn : (v25).toInt.toNat = a6_3.toInt.toNat + 1 := by omega
                                                                                          have hsq := hp24_0
                                                                                          have ho := hp24_1
                                                                                          have hle := hp24_2
                                                                                          have hnx : zxn g12 = zxn g6_ := by unfold zxn; rw [hW 13 0 6 (by omega)]
                                                                                          have hzt : ∀ j, j < zxn g6_ → zsts f g24 j = zsts f g6_ j := fun j hj => by
                                                                                            unfold zsts
                                                                                            rw [ho j (by rw [hnx]; exact hj), hW 15 0 j (by omega)]
                                                                                          rw [hF24q 13 0 7 rfl, hW 13 0 7 (by omega)]; exact hR6_2) (by
                                                                                          have hz := zspre hp12_0 (fun j => hF6_ 1 0 j rfl) (fun p j => hF6_ 11 p j rfl) (fun n j => hF6_ 8 n j rfl) (fun n j => hF6_ 9 n j rfl) (fun n j => hF6_ 10 n j rfl) hR6_0 hp0 hR6_1 hp12_1
                                                                                          have hW := hp12_0
                                                                                          have hx := zWk_x (f := f) hI hI12 hz.2.2.2.1
                                                                                          have p1 : ∀ j, g12 1 0 j = f 1 0 j := fun j => (hW _ _ _ (by omega)).trans (hF6_ 1 0 j rfl)
                                                                                          have p8 : ∀ n j, g12 8 n j = f 8 n j := fun n j => (hW _ _ _ (by omega)).trans (hF6_ 8 n j rfl)
                                                                                          have p9 : ∀ n j, g12 9 n j = f 9 n j := fun n j => (hW _ _ _ (by omega)).trans (hF6_ 9 n j rfl)
                                                                                          have hn : (v25).toInt.toNat = a6_3.toInt.toNat + 1 := by omega
                                                                                          have hsq := hp24_0
                                                                                          have ho := hp24_1
                                                                                          have hle := hp24_2
                                                                                          have hnx : zxn g12 = zxn g6_ := by unfold zxn; rw [hW 13 0 6 (by omega)]
                                                                                          have hzt : ∀ j, j < zxn g6_ → zsts f g24 j = zsts f g6_ j := fun j hj => by
                                                                                            unfold zsts
                                                                                            rw [ho j (by rw [hnx]; exact hj), hW 15 0 j (by omega)]
                                                                                          intro j hj
                                                                                          rw [hn] at hj
                                                                                          rw [hzt j (by unfold zxn; omega)]
                                                                                          by_cases e : j = a6_3.toInt.toNat
                                                                                          · subst e
                                                                                            have hbt := zQs_w (f := f) (p := g12) (d := a2.toInt.toNat) hI (p1 6) p8 p9 (by have := hp3; omega) hx.2.2.2 hp19_0
                                                                                            have hd2 : a2 = nI a2.toInt.toNat := (nI_ofI (by omega)).1
                                                                                            have z := z01b (x := v19) (a := a2.toInt.toNat) (by omega)
                                                                                            rw [← hd2, ← q20, ← q21] at z
                                                                                            refine fun q => ?_
                                                                                            have hb := hbt.mpr ⟨by rw [← hx.2.1, q.1]; exact q.2.1, q.2.2⟩
                                                                                            rw [if_pos hb] at z
                                                                                            exact absurd (show v21 = 0 by assumption) (by rw [z]; decide)
                                                                                          · exact hR6_3 j (by omega)) (by
                                                                                          have hz := zspre hp12_0 (fun j => hF6_ 1 0 j rfl) (fun p j => hF6_ 11 p j rfl) (fun n j => hF6_ 8 n j rfl) (fun n j => hF6_ 9 n j rfl) (fun n j => hF6_ 10 n j rfl) hR6_0 hp0 hR6_1 hp12_1
                                                                                          have hW := hp12_0
                                                                                          have hx := zWk_x (f := f) hI hI12 hz.2.2.2.1
                                                                                          have p1 : ∀ j, g12 1 0 j = f 1 0 j := fun j => (hW _ _ _ (by omega)).trans (hF6_ 1 0 j rfl)
                                                                                          have p8 : ∀ n j, g12 8 n j = f 8 n j := fun n j => (hW _ _ _ (by omega)).trans (hF6_ 8 n j rfl)
                                                                                          have p9 : ∀ n j, g12 9 n j = f 9 n j := fun n j => (hW _ _ _ (by omega)).trans (hF6_ 9 n j rfl)
                                                                                          have hn : (v25).toInt.toNat = a6_3.toInt.toNat + 1 := by omega
                                                                                          have hsq := hp24_0
                                                                                          have ho := hp24_1
                                                                                          have hle := hp24_2
                                                                                          have hnx : zxn g12 = zxn g6_ := by unfold zxn; rw [hW 13 0 6 (by omega)]
                                                                                          have hzt : ∀ j, j < zxn g6_ → zsts f g24 j = zsts f g6_ j := fun j hj => by
                                                                                            unfold zsts
                                                                                            rw [ho j (by rw [hnx]; exact hj), hW 15 0 j (by omega)]
                                                                                          have hl : zxn g6_ ≤ zxn g24 := by rw [← hnx]; exact hle
                                                                                          unfold zxn at hl
                                                                                          have b13 : 0 ≤ (g24 13 0 6).toInt := (hI24 13 0 6).1
                                                                                          omega) (by omega)
            · skip
              have b26x : zB v21 1 1 := by have q1 := b21x; have q2 := (zB.of (x := 0) 0 (by decide)); simp only [z32lt, z32le, z32eq, Int32.reduceToInt, Int32.toInt_zero] at h54_21; constructor <;> omega
              refine z_iload_n (pc := 57) C dX5_find_57 rfl ?_
              exact z_iret (pc := 58) C hr dX5_find_58 ⟨⟨_, rfl, (zB.wk (a' := (-4)) (b' := 3072) b3x (by decide) (by decide))⟩, hI12, hF12, (by
                                                                                          intro v hv; cases hv
                                                                                          have hz := zspre hp12_0 (fun j => hF6_ 1 0 j rfl) (fun p j => hF6_ 11 p j rfl) (fun n j => hF6_ 8 n j rfl) (fun n j => hF6_ 9 n j rfl) (fun n j => hF6_ 10 n j rfl) hR6_0 hp0 hR6_1 hp12_1
                                                                                          have hW := hp12_0
                                                                                          have hx := zWk_x (f := f) hI hI12 hz.2.2.2.1
                                                                                          have p1 : ∀ j, g12 1 0 j = f 1 0 j := fun j => (hW _ _ _ (by omega)).trans (hF6_ 1 0 j rfl)
                                                                                          have p8 : ∀ n j, g12 8 n j = f 8 n j := fun n j => (hW _ _ _ (by omega)).trans (hF6_ 8 n j rfl)
                                                                                          have p9 : ∀ n j, g12 9 n j = f 9 n j := fun n j => (hW _ _ _ (by omega)).trans (hF6_ 9 n j rfl)
                                                                                          have hbt := zQs_w (f := f) (p := g12) (d := a2.toInt.toNat) hI (p1 6) p8 p9 (by have := hp3; omega) hx.2.2.2 hp19_0
                                                                                          have hd2 : a2 = nI a2.toInt.toNat := (nI_ofI (by omega)).1
                                                                                          have z := z01b (x := v19) (a := a2.toInt.toNat) (by omega)
                                                                                          rw [← hd2, ← q20, ← q21] at z
                                                                                          have hzt : ∀ j, zsts f g12 j = zsts f g6_ j := fun j => by unfold zsts; rw [hW 15 0 j (by omega)]
                                                                                          have hnx : zxn g12 = zxn g6_ := by unfold zxn; rw [hW 13 0 6 (by omega)]
                                                                                          have hb : bt v19 a2.toInt.toNat = true := by
                                                                                            cases q : bt v19 a2.toInt.toNat
                                                                                            · rw [q, if_neg (by decide)] at z
                                                                                              exact absurd z (by assumption)
                                                                                            · rfl
                                                                                          obtain ⟨y1, y2⟩ := hbt.mp hb
                                                                                          have hat : zAt_ (zsts f g6_ a6_3.toInt.toNat) = a1 := by
                                                                                            rw [hx.2.1, ← q14]; assumption
                                                                                          refine Or.inr ⟨a6_3.toInt.toNat, (nI_ofI (by omega)).1, by rw [hnx]; unfold zxn; omega, ?_, ?_, fun j hj => by rw [hzt]; exact hR6_3 j hj⟩
                                                                                          · exact zQx_k hR6_1 (hW _ _ _ (by omega)) (hW _ _ _ (by omega)) (funext (fun j => hW 14 0 j (by omega))) (funext (fun j => hW 15 0 j (by omega))) (funext (fun j => hW 16 0 j (by omega)))
                                                                                          · rw [hzt]
                                                                                            exact ⟨hat, by rw [hx.2.1] at hat; rw [← hat]; exact y1, y2⟩), (by
                                                                                          intro v hv; cases hv
                                                                                          have hz := zspre hp12_0 (fun j => hF6_ 1 0 j rfl) (fun p j => hF6_ 11 p j rfl) (fun n j => hF6_ 8 n j rfl) (fun n j => hF6_ 9 n j rfl) (fun n j => hF6_ 10 n j rfl) hR6_0 hp0 hR6_1 hp12_1
                                                                                          have hW := hp12_0
                                                                                          have hx := zWk_x (f := f) hI hI12 hz.2.2.2.1
                                                                                          have p1 : ∀ j, g12 1 0 j = f 1 0 j := fun j => (hW _ _ _ (by omega)).trans (hF6_ 1 0 j rfl)
                                                                                          have p8 : ∀ n j, g12 8 n j = f 8 n j := fun n j => (hW _ _ _ (by omega)).trans (hF6_ 8 n j rfl)
                                                                                          have p9 : ∀ n j, g12 9 n j = f 9 n j := fun n j => (hW _ _ _ (by omega)).trans (hF6_ 9 n j rfl)
                                                                                          refine ⟨fun key => ?_, ?_, ?_⟩
                                                                                          · rw [hW 14 0 key (by omega), hW 13 0 7 (by omega)]; exact hR6_1.2.2.1 key
                                                                                          · rw [hW 13 0 7 (by omega)]; omega
                                                                                          · rw [hW 13 0 7 (by omega)]; have := hp2; omega), (by intro v hv; cases hv; intro n j hn; exact ((hp12_2 n j hn)).trans (hR6_0 n j hn))⟩
  have J0 := J 9234
  show Z X 0 [some (zr 13 0), some (zi a1), some (zi a2), none] [] f
  refine z_aload_n (pc := 0) C dX5_find_0 rfl ?_
  refine z_callV (pc := 1) C zk_X5_35 (x_X5_begin _ _  hI) rfl rfl (by decide) rfl rfl (Nat.le_of_ble_eq_true rfl) dX5_find_1 (fun r27 g27 q27 => ?_)
  obtain ⟨rfl, hI27, hF27q, hp27_0⟩ := q27
  have hF27 := zFr.tr hF hF27q (by decide)
  simp only [Option.toList, List.cons_append, List.nil_append]
  have cr27_13_0_6 : zB (g27 13 0 6) 0 3073 := hI27 13 0 6
  refine z_iconst (pc := 4) (v := 0) C dX5_find_4 (by decide) ?_
  refine z_istore_n (pc := 5) C dX5_find_5 (by rw [hn]; decide) rfl ?_
  exact J0 0 (zB.wk (a' := 0) (b' := 3073) (zB.of (x := 0) 0 (by decide)) (by decide) (by decide)) g27 hI27 hF27 cr27_13_0_6 (by intro n j hn; exact ((hF27q 6 n j rfl)).trans (rfl)) (by
                                                                                          have hb := hp27_0
                                                                                          have b7 : g27 13 0 7 = f 13 0 7 + 1 := by rw [hb, zup_ne _ _ (by omega), zup_same]
                                                                                          have b6 : g27 13 0 6 = 1 := by rw [hb, zup_same]
                                                                                          have c1 : (1 : Int32).toInt = 1 := by decide
                                                                                          have e7 : (g27 13 0 7).toInt = (f 13 0 7).toInt + 1 := by
                                                                                            rw [b7, zadd_e (by rw [c1]; have := hp2; omega) (by rw [c1]; have := hp2; omega), c1]
                                                                                          refine zQx_0 b6 (fun key => ?_)
                                                                                          rw [e7, hF27q 14 0 key rfl]
                                                                                          have := hp2.1 key
                                                                                          omega) (by
                                                                                          have hb := hp27_0
                                                                                          have b7 : g27 13 0 7 = f 13 0 7 + 1 := by rw [hb, zup_ne _ _ (by omega), zup_same]
                                                                                          have b6 : g27 13 0 6 = 1 := by rw [hb, zup_same]
                                                                                          have c1 : (1 : Int32).toInt = 1 := by decide
                                                                                          have e7 : (g27 13 0 7).toInt = (f 13 0 7).toInt + 1 := by
                                                                                            rw [b7, zadd_e (by rw [c1]; have := hp2; omega) (by rw [c1]; have := hp2; omega), c1]
                                                                                          exact e7) (by intro j hj; exact absurd hj (Nat.not_lt_zero j)) (by
                                                                                          have hb := hp27_0
                                                                                          have b7 : g27 13 0 7 = f 13 0 7 + 1 := by rw [hb, zup_ne _ _ (by omega), zup_same]
                                                                                          have b6 : g27 13 0 6 = 1 := by rw [hb, zup_same]
                                                                                          have c1 : (1 : Int32).toInt = 1 := by decide
                                                                                          have e7 : (g27 13 0 7).toInt = (f 13 0 7).toInt + 1 := by
                                                                                            rw [b7, zadd_e (by rw [c1]; have := hp2; omega) (by rw [c1]; have := hp2; omega), c1]
                                                                                          rw [b6, c1]
                                                                                          decide) (by have qc0 : (0 : Int32).toInt = 0 := (by decide); omega)

set_option maxRecDepth 100000 in
set_option maxHeartbeats 4000000 in
theorem y_X5_reach (d : Nat) (f : zM) (hp0 : zWs f) (hp1 : ((f 6 0 5).toInt = -4 ∨ 0 ≤ (f 6 0 5).toInt)) (hp2 : ((∀ key, (f 14 0 key).toInt ≤ (f 13 0 7).toInt) ∧ (f 13 0 7).toInt < 2147483647 ∧ 0 ≤ (f 13 0 7).toInt)) (hI : zInv f) : ZM (d + 3) yX5_reach cX5_reach 3 (some .int) [zr 13 0] f (fun r g => (∃ v, r = some (zi v) ∧ zB v 0 63) ∧ zInv g ∧ zFr [(6, some 1), (6, some 4), (6, some 5), (6, some 6), (13, some 6), (13, some 7), (14, none), (15, none), (16, none)] f g ∧ (∀ v : Int32, r = some (zi v) → ∃ L : Nat → Prop, v = zbf L 6 ∧ zRh_ (zGpx f) (zNsx f) (f 1 0 7).toInt.toNat (zS0x f) L (fun s => s / 3584)) ∧ (∀ v : Int32, r = some (zi v) → ((∀ key, (g 14 0 key).toInt ≤ (g 13 0 7).toInt) ∧ (g 13 0 7).toInt ≤ (f 13 0 7).toInt + 1 ∧ 0 ≤ (g 13 0 7).toInt)) ∧ (∀ v : Int32, r = some (zi v) → (∀ n j, n ≠ 2 → g 6 n j = f 6 n j))) := by
  refine ZM.intro (by decide +kernel) (Nat.le_of_ble_eq_true rfl) ?_
  intro X C hr hn
  have hF : zFr [(6, some 1), (6, some 4), (6, some 5), (6, some 6), (13, some 6), (13, some 7), (14, none), (15, none), (16, none)] f f := zFr.rf _ _
  have ct13_0_6 : zB (f 13 0 6) 0 3073 := hI 13 0 6
  have J : ∀ t : Nat, (∀ a8_1 : Int32, zB a8_1 0 63 → ∀ a8_2 : Int32, zB a8_2 0 3073 → ∀ g : zM, zInv g → zFr [(6, some 1), (6, some 4), (6, some 5), (6, some 6), (13, some 6), (13, some 7), (14, none), (15, none), (16, none)] f g → zB (g 13 0 6) 0 3073 → ((∀ n j, n ≠ 2 → g 6 n j = f 6 n j)) → (zQx f g a8_2.toInt.toNat 0) → ((g 13 0 7).toInt = (f 13 0 7).toInt + 1) → (a8_1 = zbf (fun l => ∃ k, k < a8_2.toInt.toNat ∧ zsts f g k / 3584 = l) 6) → (a8_2.toInt ≤ (g 13 0 6).toInt) → (0 + 3 * (3073 - a8_2.toInt) : Int) < t → Z X 8 [some (zr 13 0), some (zi a8_1), some (zi a8_2)] [] g) := by
    intro t
    induction t with
    | zero =>
      intros; exfalso; omega
    | succ t ih =>
      have ih0 := ih
      intro a8_1 b8_1 a8_2 b8_2 g8_ hI8_ hF8_ f8_13_0_6 hR8_0 hR8_1 hR8_2 hR8_3 hR8_4 hM8_
      refine z_iload_n (pc := 8) C dX5_reach_8 rfl ?_
      refine z_aload_n (pc := 9) C dX5_reach_9 rfl ?_
      refine z_getR (pc := 10) C zf_X5_22 rfl rfl (by decide) dX5_reach_10 ?_
      refine z_alenI (pc := 13) (v := 3073) C rfl (by decide) rfl dX5_reach_13 ?_
      refine z_icmp_ge (pc := 14) 53 C dX5_reach_14 (by decide) (fun h14_0 => ?_) (fun h14_0 => ?_)
      · skip
        have b2x : zB a8_2 3073 3073 := by have q1 := b8_2; have q2 := (zB.of (x := 3073) 3073 (by decide)); simp only [z32lt, z32le, z32eq, Int32.reduceToInt, Int32.toInt_zero] at h14_0; constructor <;> omega
        refine z_iload_n (pc := 53) C dX5_reach_53 rfl ?_
        exact z_iret (pc := 54) C hr dX5_reach_54 ⟨⟨_, rfl, b8_1⟩, hI8_, hF8_, (by
                                                                                          intro v hv; cases hv
                                                                                          have b13 : 0 ≤ (g8_ 13 0 6).toInt ∧ (g8_ 13 0 6).toInt ≤ 3073 := hI8_ 13 0 6
                                                                                          have hn : zxn g8_ = a8_2.toInt.toNat := by unfold zxn; omega
                                                                                          have hb := hR8_1.2.2.2
                                                                                          rw [← hn] at hb
                                                                                          refine ⟨_, hR8_3, zsts f g8_, zpr g8_, zpa g8_, zxn g8_, hb, fun l => ?_⟩
                                                                                          rw [hn]), (by intro v hv; cases hv; exact ⟨hR8_1.2.2.1, by omega, by have := hp2; omega⟩), (by intro v hv; cases hv; intro n j hn; exact hR8_0 n j hn)⟩
      · skip
        have b3x : zB a8_2 0 3072 := by have q1 := b8_2; have q2 := (zB.of (x := 3073) 3073 (by decide)); simp only [z32lt, z32le, z32eq, Int32.reduceToInt, Int32.toInt_zero] at h14_0; constructor <;> omega
        refine z_iload_n (pc := 17) C dX5_reach_17 rfl ?_
        refine z_aload_n (pc := 18) C dX5_reach_18 rfl ?_
        refine z_getI (pc := 19) C zf_X5_38 rfl rfl (by decide) dX5_reach_19 ?_
        refine w_gp (fun v => v = g8_ 13 0 6) rfl (fun v4 q4 => ?_)
        have e4 : v4.toInt = (g8_ 13 0 6).toInt := by rw [q4]
        have b4x : zB v4 0 3073 := by first | exact zB.eqv e4 f8_13_0_6 | (have q9 := f8_13_0_6; constructor <;> omega)
        refine z_icmp_ge (pc := 22) 53 C dX5_reach_22 (by decide) (fun h22_4 => ?_) (fun h22_4 => ?_)
        · skip
          have rr6 : a8_2.toInt ≥ v4.toInt := by simp only [z32lt, z32le, z32eq] at h22_4; omega
          have b7x : zB v4 0 3072 := by have q1 := b3x; have q2 := b4x; simp only [z32lt, z32le, z32eq, Int32.reduceToInt, Int32.toInt_zero] at h22_4; constructor <;> omega
          have c8x : zB (g8_ 13 0 6) 0 3072 := by first | assumption | (constructor <;> omega)
          refine z_iload_n (pc := 53) C dX5_reach_53 rfl ?_
          exact z_iret (pc := 54) C hr dX5_reach_54 ⟨⟨_, rfl, b8_1⟩, hI8_, hF8_, (by
                                                                                          intro v hv; cases hv
                                                                                          have b13 : 0 ≤ (g8_ 13 0 6).toInt ∧ (g8_ 13 0 6).toInt ≤ 3073 := hI8_ 13 0 6
                                                                                          have hn : zxn g8_ = a8_2.toInt.toNat := by unfold zxn; omega
                                                                                          have hb := hR8_1.2.2.2
                                                                                          rw [← hn] at hb
                                                                                          refine ⟨_, hR8_3, zsts f g8_, zpr g8_, zpa g8_, zxn g8_, hb, fun l => ?_⟩
                                                                                          rw [hn]), (by intro v hv; cases hv; exact ⟨hR8_1.2.2.1, by omega, by have := hp2; omega⟩), (by intro v hv; cases hv; intro n j hn; exact hR8_0 n j hn)⟩
        · skip
          have rr9 : a8_2.toInt < v4.toInt := by simp only [z32lt, z32le, z32eq] at h22_4; omega
          have b10x : zB v4 1 3073 := by have q1 := b3x; have q2 := b4x; simp only [z32lt, z32le, z32eq, Int32.reduceToInt, Int32.toInt_zero] at h22_4; constructor <;> omega
          have c11x : zB (g8_ 13 0 6) 1 3073 := by first | assumption | (constructor <;> omega)
          refine z_aload_n (pc := 25) C dX5_reach_25 rfl ?_
          refine z_iload_n (pc := 26) C dX5_reach_26 rfl ?_
          refine z_callV (pc := 27) C zk_X5_42 (y_X5_placeWalker _ _ a8_2 b3x (by rw [hR8_0 0 5 (by decide)]; exact hp1) hI8_) rfl rfl (by decide) rfl rfl (Nat.le_of_ble_eq_true rfl) dX5_reach_27 (fun r12 g12 q12 => ?_)
          obtain ⟨rfl, hI12, hF12q, hp12_0, hp12_1, hp12_2⟩ := q12
          have hF12 := zFr.tr hF8_ hF12q (by decide)
          simp only [Option.toList, List.cons_append, List.nil_append]
          have ek12_13_0_6 : (g12 13 0 6).toInt = (g8_ 13 0 6).toInt := by rw [hF12q 13 0 6 rfl]
          have c12_13_0_6x : zB (g12 13 0 6) 1 3073 := by rw [hF12q 13 0 6 rfl]; exact c11x
          refine z_iload_n (pc := 30) C dX5_reach_30 rfl ?_
          refine z_iconst (pc := 31) (v := 1) C dX5_reach_31 (by decide) ?_
          refine z_aload_n (pc := 32) C dX5_reach_32 rfl ?_
          refine z_getR (pc := 33) C zf_X5_12 rfl rfl (by decide) dX5_reach_33 ?_
          refine z_getI (pc := 36) C zf_X5_46 rfl rfl (by decide) dX5_reach_36 ?_
          refine w_gp (fun v => v = g12 6 2 1) rfl (fun v14 q14 => ?_)
          have b14x : zB v14 0 5 := by rw [q14]; exact (hI12 6 2 1)
          refine z_ishl (pc := 39) C dX5_reach_39 ?_
          refine w_gp (fun v => v = (1 : Int32) <<< (v14 &&& 31)) rfl (fun v15 q15 => ?_)
          have b15x : zB v15 0 32 := by rw [q15]; exact (zshl_b b14x 5 (by decide) (by decide))
          refine z_ior (pc := 40) C dX5_reach_40 ?_
          refine w_gp (fun v => v = a8_1 ||| v15) rfl (fun v16 q16 => ?_)
          have b16x : zB v16 0 63 := by rw [q16]; exact (zor_b 6 b8_1 b15x (by decide) (by decide) (by decide) (by decide) (by decide))
          refine z_istore_n (pc := 41) C dX5_reach_41 (by rw [hn]; decide) rfl ?_
          refine z_aload_n (pc := 42) C dX5_reach_42 rfl ?_
          refine z_iload_n (pc := 43) C dX5_reach_43 rfl ?_
          refine z_callV (pc := 44) C zk_X5_55 (y_X5_spread _ _ a8_2 b3x (by exact (zspre hp12_0 (fun j => hF8_ 1 0 j rfl) (fun p j => hF8_ 11 p j rfl) (fun n j => hF8_ 8 n j rfl) (fun n j => hF8_ 9 n j rfl) (fun n j => hF8_ 10 n j rfl) hR8_0 hp0 hR8_1 hp12_1).1) (by exact (zspre hp12_0 (fun j => hF8_ 1 0 j rfl) (fun p j => hF8_ 11 p j rfl) (fun n j => hF8_ 8 n j rfl) (fun n j => hF8_ 9 n j rfl) (fun n j => hF8_ 10 n j rfl) hR8_0 hp0 hR8_1 hp12_1).2.1) (by unfold zxn; rw [hp12_0 13 0 6 (by omega)]; omega) (by exact (zspre hp12_0 (fun j => hF8_ 1 0 j rfl) (fun p j => hF8_ 11 p j rfl) (fun n j => hF8_ 8 n j rfl) (fun n j => hF8_ 9 n j rfl) (fun n j => hF8_ 10 n j rfl) hR8_0 hp0 hR8_1 hp12_1).2.2.1) hI12) rfl rfl (by decide) rfl rfl (Nat.le_of_ble_eq_true rfl) dX5_reach_44 (fun r17 g17 q17 => ?_)
          obtain ⟨rfl, hI17, hF17q, hp17_0, hp17_1, hp17_2⟩ := q17
          have hF17 := zFr.tr hF12 hF17q (by decide)
          simp only [Option.toList, List.cons_append, List.nil_append]
          have cr17_13_0_6 : zB (g17 13 0 6) 0 3073 := hI17 13 0 6
          refine z_iinc (pc := 47) (v := 1) C dX5_reach_47 rfl (by decide) (by rw [hn]; decide) rfl ?_
          obtain ⟨v18, hv18, e18⟩ : ∃ v : Int32, v = a8_2 + 1 ∧ v.toInt = a8_2.toInt + 1 := ⟨_, rfl, zadd_eb b3x (zB.of (x := 1) 1 (by decide)) (by decide) (by decide)⟩
          rw [← hv18]
          have b18x : zB v18 1 3073 := by have q9 := b3x; constructor <;> omega
          refine z_goto (pc := 50) 8 C dX5_reach_50 (by decide) ?_
          exact ih0 v16 b16x v18 (zB.wk (a' := 0) (b' := 3073) b18x (by decide) (by decide)) g17 hI17 hF17 cr17_13_0_6 (by intro n j hn; exact ((hF17q 6 n j rfl)).trans (((hp12_2 n j hn)).trans (hR8_0 n j hn))) (by
                                                                                          have hz := zspre hp12_0 (fun j => hF8_ 1 0 j rfl) (fun p j => hF8_ 11 p j rfl) (fun n j => hF8_ 8 n j rfl) (fun n j => hF8_ 9 n j rfl) (fun n j => hF8_ 10 n j rfl) hR8_0 hp0 hR8_1 hp12_1
                                                                                          have hW := hp12_0
                                                                                          have hx := zWk_x (f := f) hI hI12 hz.2.2.2.1
                                                                                          have p1 : ∀ j, g12 1 0 j = f 1 0 j := fun j => (hW _ _ _ (by omega)).trans (hF8_ 1 0 j rfl)
                                                                                          have p8 : ∀ n j, g12 8 n j = f 8 n j := fun n j => (hW _ _ _ (by omega)).trans (hF8_ 8 n j rfl)
                                                                                          have p9 : ∀ n j, g12 9 n j = f 9 n j := fun n j => (hW _ _ _ (by omega)).trans (hF8_ 9 n j rfl)
                                                                                          have hn : (v18).toInt.toNat = a8_2.toInt.toNat + 1 := by omega
                                                                                          have hsq := hp17_0
                                                                                          have ho := hp17_1
                                                                                          have hle := hp17_2
                                                                                          have hnx : zxn g12 = zxn g8_ := by unfold zxn; rw [hW 13 0 6 (by omega)]
                                                                                          have hzt : ∀ j, j < zxn g8_ → zsts f g17 j = zsts f g8_ j := fun j hj => by
                                                                                            unfold zsts
                                                                                            rw [ho j (by rw [hnx]; exact hj), hW 15 0 j (by omega)]
                                                                                          rw [hn]
                                                                                          exact zQx_b hsq hz.2.2.2.2.1 hz.2.2.2.2.2.1 hz.2.2.2.2.2.2.1 hz.2.2.2.2.2.2.2 ((p1 7).symm)) (by
                                                                                          have hz := zspre hp12_0 (fun j => hF8_ 1 0 j rfl) (fun p j => hF8_ 11 p j rfl) (fun n j => hF8_ 8 n j rfl) (fun n j => hF8_ 9 n j rfl) (fun n j => hF8_ 10 n j rfl) hR8_0 hp0 hR8_1 hp12_1
                                                                                          have hW := hp12_0
                                                                                          have hx := zWk_x (f := f) hI hI12 hz.2.2.2.1
                                                                                          have p1 : ∀ j, g12 1 0 j = f 1 0 j := fun j => (hW _ _ _ (by omega)).trans (hF8_ 1 0 j rfl)
                                                                                          have p8 : ∀ n j, g12 8 n j = f 8 n j := fun n j => (hW _ _ _ (by omega)).trans (hF8_ 8 n j rfl)
                                                                                          have p9 : ∀ n j, g12 9 n j = f 9 n j := fun n j => (hW _ _ _ (by omega)).trans (hF8_ 9 n j rfl)
                                                                                          have hn : (v18).toInt.toNat = a8_2.toInt.toNat + 1 := by omega
                                                                                          have hsq := hp17_0
                                                                                          have ho := hp17_1
                                                                                          have hle := hp17_2
                                                                                          have hnx : zxn g12 = zxn g8_ := by unfold zxn; rw [hW 13 0 6 (by omega)]
                                                                                          have hzt : ∀ j, j < zxn g8_ → zsts f g17 j = zsts f g8_ j := fun j hj => by
                                                                                            unfold zsts
                                                                                            rw [ho j (by rw [hnx]; exact hj), hW 15 0 j (by omega)]
                                                                                          rw [hF17q 13 0 7 rfl, hW 13 0 7 (by omega)]; exact hR8_2) (by
                                                                                          have hz := zspre hp12_0 (fun j => hF8_ 1 0 j rfl) (fun p j => hF8_ 11 p j rfl) (fun n j => hF8_ 8 n j rfl) (fun n j => hF8_ 9 n j rfl) (fun n j => hF8_ 10 n j rfl) hR8_0 hp0 hR8_1 hp12_1
                                                                                          have hW := hp12_0
                                                                                          have hx := zWk_x (f := f) hI hI12 hz.2.2.2.1
                                                                                          have p1 : ∀ j, g12 1 0 j = f 1 0 j := fun j => (hW _ _ _ (by omega)).trans (hF8_ 1 0 j rfl)
                                                                                          have p8 : ∀ n j, g12 8 n j = f 8 n j := fun n j => (hW _ _ _ (by omega)).trans (hF8_ 8 n j rfl)
                                                                                          have p9 : ∀ n j, g12 9 n j = f 9 n j := fun n j => (hW _ _ _ (by omega)).trans (hF8_ 9 n j rfl)
                                                                                          have hn : (v18).toInt.toNat = a8_2.toInt.toNat + 1 := by omega
                                                                                          have hsq := hp17_0
                                                                                          have ho := hp17_1
                                                                                          have hle := hp17_2
                                                                                          have hnx : zxn g12 = zxn g8_ := by unfold zxn; rw [hW 13 0 6 (by omega)]
                                                                                          have hzt : ∀ j, j < zxn g8_ → zsts f g17 j = zsts f g8_ j := fun j hj => by
                                                                                            unfold zsts
                                                                                            rw [ho j (by rw [hnx]; exact hj), hW 15 0 j (by omega)]
                                                                                          have b1 : 0 ≤ (g12 6 2 1).toInt ∧ (g12 6 2 1).toInt ≤ 5 := hI12 6 2 1
                                                                                          have e39 : v15 = zbf (fun i => i = zsts f g8_ a8_2.toInt.toNat / 3584) 6 := by
                                                                                            rw [q15, q14, hx.2.2.1]
                                                                                            have hi := (nI_ofI b1.1).1
                                                                                            have h6 := zone6 (d := (g12 6 2 1).toInt.toNat) (by omega)
                                                                                            rw [← hi] at h6
                                                                                            exact h6
                                                                                          rw [hn, q16, hR8_3, e39, zbf_or (by decide)]
                                                                                          refine zbf_congr _ (fun l _ => ?_)
                                                                                          constructor
                                                                                          · rintro (⟨k, k1, k2⟩ | q)
                                                                                            · exact ⟨k, by omega, by rw [hzt k (by unfold zxn; omega)]; exact k2⟩
                                                                                            · exact ⟨a8_2.toInt.toNat, by omega, by rw [hzt _ (by unfold zxn; omega)]; exact q.symm⟩
                                                                                          · rintro ⟨k, k1, k2⟩
                                                                                            rw [hzt k (by unfold zxn; omega)] at k2
                                                                                            by_cases e : k = a8_2.toInt.toNat
                                                                                            · subst e; exact Or.inr k2.symm
                                                                                            · exact Or.inl ⟨k, by omega, k2⟩) (by
                                                                                          have hz := zspre hp12_0 (fun j => hF8_ 1 0 j rfl) (fun p j => hF8_ 11 p j rfl) (fun n j => hF8_ 8 n j rfl) (fun n j => hF8_ 9 n j rfl) (fun n j => hF8_ 10 n j rfl) hR8_0 hp0 hR8_1 hp12_1
                                                                                          have hW := hp12_0
                                                                                          have hx := zWk_x (f := f) hI hI12 hz.2.2.2.1
                                                                                          have p1 : ∀ j, g12 1 0 j = f 1 0 j := fun j => (hW _ _ _ (by omega)).trans (hF8_ 1 0 j rfl)
                                                                                          have p8 : ∀ n j, g12 8 n j = f 8 n j := fun n j => (hW _ _ _ (by omega)).trans (hF8_ 8 n j rfl)
                                                                                          have p9 : ∀ n j, g12 9 n j = f 9 n j := fun n j => (hW _ _ _ (by omega)).trans (hF8_ 9 n j rfl)
                                                                                          have hn : (v18).toInt.toNat = a8_2.toInt.toNat + 1 := by omega
                                                                                          have hsq := hp17_0
                                                                                          have ho := hp17_1
                                                                                          have hle := hp17_2
                                                                                          have hnx : zxn g12 = zxn g8_ := by unfold zxn; rw [hW 13 0 6 (by omega)]
                                                                                          have hzt : ∀ j, j < zxn g8_ → zsts f g17 j = zsts f g8_ j := fun j hj => by
                                                                                            unfold zsts
                                                                                            rw [ho j (by rw [hnx]; exact hj), hW 15 0 j (by omega)]
                                                                                          have hl : zxn g8_ ≤ zxn g17 := by rw [← hnx]; exact hle
                                                                                          unfold zxn at hl
                                                                                          have b13 : 0 ≤ (g17 13 0 6).toInt := (hI17 13 0 6).1
                                                                                          omega) (by omega)
  have J0 := J 9234
  show Z X 0 [some (zr 13 0), none, none] [] f
  refine z_iconst (pc := 0) (v := 0) C dX5_reach_0 (by decide) ?_
  refine z_istore_n (pc := 1) C dX5_reach_1 (by rw [hn]; decide) rfl ?_
  refine z_aload_n (pc := 2) C dX5_reach_2 rfl ?_
  refine z_callV (pc := 3) C zk_X5_35 (x_X5_begin _ _  hI) rfl rfl (by decide) rfl rfl (Nat.le_of_ble_eq_true rfl) dX5_reach_3 (fun r19 g19 q19 => ?_)
  obtain ⟨rfl, hI19, hF19q, hp19_0⟩ := q19
  have hF19 := zFr.tr hF hF19q (by decide)
  simp only [Option.toList, List.cons_append, List.nil_append]
  have cr19_13_0_6 : zB (g19 13 0 6) 0 3073 := hI19 13 0 6
  refine z_iconst (pc := 6) (v := 0) C dX5_reach_6 (by decide) ?_
  refine z_istore_n (pc := 7) C dX5_reach_7 (by rw [hn]; decide) rfl ?_
  exact J0 0 (zB.wk (a' := 0) (b' := 63) (zB.of (x := 0) 0 (by decide)) (by decide) (by decide)) 0 (zB.wk (a' := 0) (b' := 3073) (zB.of (x := 0) 0 (by decide)) (by decide) (by decide)) g19 hI19 hF19 cr19_13_0_6 (by intro n j hn; exact ((hF19q 6 n j rfl)).trans (rfl)) (by
                                                                                          have hb := hp19_0
                                                                                          have b7 : g19 13 0 7 = f 13 0 7 + 1 := by rw [hb, zup_ne _ _ (by omega), zup_same]
                                                                                          have b6 : g19 13 0 6 = 1 := by rw [hb, zup_same]
                                                                                          have c1 : (1 : Int32).toInt = 1 := by decide
                                                                                          have e7 : (g19 13 0 7).toInt = (f 13 0 7).toInt + 1 := by
                                                                                            rw [b7, zadd_e (by rw [c1]; have := hp2; omega) (by rw [c1]; have := hp2; omega), c1]
                                                                                          refine zQx_0 b6 (fun key => ?_)
                                                                                          rw [e7, hF19q 14 0 key rfl]
                                                                                          have := hp2.1 key
                                                                                          omega) (by
                                                                                          have hb := hp19_0
                                                                                          have b7 : g19 13 0 7 = f 13 0 7 + 1 := by rw [hb, zup_ne _ _ (by omega), zup_same]
                                                                                          have b6 : g19 13 0 6 = 1 := by rw [hb, zup_same]
                                                                                          have c1 : (1 : Int32).toInt = 1 := by decide
                                                                                          have e7 : (g19 13 0 7).toInt = (f 13 0 7).toInt + 1 := by
                                                                                            rw [b7, zadd_e (by rw [c1]; have := hp2; omega) (by rw [c1]; have := hp2; omega), c1]
                                                                                          exact e7) (by exact (zbf_0 _ (fun k _ ⟨j, h, _⟩ => absurd h (Nat.not_lt_zero j))).symm) (by
                                                                                          have hb := hp19_0
                                                                                          have b7 : g19 13 0 7 = f 13 0 7 + 1 := by rw [hb, zup_ne _ _ (by omega), zup_same]
                                                                                          have b6 : g19 13 0 6 = 1 := by rw [hb, zup_same]
                                                                                          have c1 : (1 : Int32).toInt = 1 := by decide
                                                                                          have e7 : (g19 13 0 7).toInt = (f 13 0 7).toInt + 1 := by
                                                                                            rw [b7, zadd_e (by rw [c1]; have := hp2; omega) (by rw [c1]; have := hp2; omega), c1]
                                                                                          rw [b6, c1]
                                                                                          decide) (by have qc0 : (0 : Int32).toInt = 0 := (by decide); omega)

def zHL (w : Nat) (b : Int) : Prop := ∃ L : Nat, b < L ∧ zbk L w = 1
theorem zpa_12 {m : zM} (hm : zInv m) (k : Nat) : zpa m k < 12 := by
  have b : 0 ≤ (m 15 0 k).toInt ∧ (m 15 0 k).toInt ≤ 3071 := hm 15 0 k
  unfold zpa; omega
theorem zFres_o {f m : zM} {Q : Nat → Prop} {v : Int32} (hm : zInv m) (h : zFres f m Q v) : (v = -4 ∧ zFnd Q (zGpx f) (zNsx f) (f 1 0 7).toInt.toNat (zS0x f) none) ∨ (∃ k, v = nI k ∧ k < 3073 ∧ zFnd Q (zGpx f) (zNsx f) (f 1 0 7).toInt.toNat (zS0x f) (some (zpd (zpr m) (zpa m) k)) ∧ ∀ j, 0 < j → j ≤ k → zpr m j < j) := by
  have b : 0 ≤ (m 13 0 6).toInt ∧ (m 13 0 6).toInt ≤ 3073 := hm 13 0 6
  rcases h with ⟨h1, h2, h3⟩ | ⟨k, k1, k2, k3, k4, k5⟩
  · exact Or.inl ⟨h1, zsts f m, zpr m, zpa m, zxn m, zxn m, h2.2.2.2, Or.inl ⟨rfl, rfl, h3⟩⟩
  · refine Or.inr ⟨k, k1, by unfold zxn at k2; omega, ⟨zsts f m, zpr m, zpa m, zxn m, k, k3.2.2.2, Or.inr ⟨k, k2, Or.inr rfl, rfl, k4, k5⟩⟩, fun j j0 jk => (k3.2.2.2.2.1 j j0 (by omega)).1⟩
theorem zFres_c {f m : zM} {Q : Nat → Prop} {v : Int32} (hm : zInv m) (h : zFres f m Q v) (h0 : 0 ≤ v.toInt) : ∀ k : Nat, 0 < k → k ≤ v.toInt.toNat → zpr m k < k := by
  rcases zFres_o hm h with ⟨e, _⟩ | ⟨k, e, k1, _, k2⟩
  · rw [e] at h0; exact absurd h0 (by decide)
  · rw [e, nI_tt (by omega)]; exact k2
theorem zFres_s {f m : zM} {Q : Nat → Prop} {v : Int32} (hm : zInv m) (h : zFres f m Q v) (h0 : 0 ≤ v.toInt) : zFnd Q (zGpx f) (zNsx f) (f 1 0 7).toInt.toNat (zS0x f) (some (zpd (zpr m) (zpa m) v.toInt.toNat)) := by
  rcases zFres_o hm h with ⟨e, _⟩ | ⟨k, e, k1, k3, _⟩
  · rw [e] at h0; exact absurd h0 (by decide)
  · rw [e, nI_tt (by omega)]; exact k3
theorem zFres_n {f m : zM} {Q : Nat → Prop} {v : Int32} (hm : zInv m) (h : zFres f m Q v) (h0 : v.toInt < 0) : zFnd Q (zGpx f) (zNsx f) (f 1 0 7).toInt.toNat (zS0x f) none := by
  rcases zFres_o hm h with ⟨_, k3⟩ | ⟨k, e, k1, _, _⟩
  · exact k3
  · rw [e, nI_toInt (by omega)] at h0; omega

set_option maxRecDepth 100000 in
set_option maxHeartbeats 4000000 in
theorem y_X5_lengthTo (d : Nat) (f : zM) (a1 : Int32) (b1 : zB a1 0 3072) (hp0 : (∀ k : Nat, 0 < k → k ≤ a1.toInt.toNat → zpr f k < k)) (hI : zInv f) : ZM d yX5_lengthTo cX5_lengthTo 4 (some .int) [zr 13 0, zi a1] f (fun r g => (∃ v, r = some (zi v) ∧ zB v 0 3073) ∧ zInv g ∧ zFr [] f g ∧ (∀ v : Int32, r = some (zi v) → zbk v.toInt.toNat (zpd (zpr f) (zpa f) a1.toInt.toNat) = 1)) := by
  refine ZM.intro (by decide +kernel) (Nat.le_of_ble_eq_true rfl) ?_
  intro X C hr hn
  have hF : zFr [] f f := zFr.rf _ _
  have J : ∀ t : Nat, (∀ a4_2 : Int32, zB a4_2 0 3073 → ∀ a4_3 : Int32, zB a4_3 0 3072 → ∀ g : zM, zInv g → zFr [] f g → (g = f) → (zbk a4_2.toInt.toNat (zpd (zpr f) (zpa f) a1.toInt.toNat) = zpd (zpr f) (zpa f) a4_3.toInt.toNat) → (a4_2.toInt + a4_3.toInt ≤ a1.toInt) → (0 + 3 * (3073 - a4_2.toInt) : Int) < t → Z X 4 [some (zr 13 0), some (zi a1), some (zi a4_2), some (zi a4_3)] [] g) := by
    intro t
    induction t with
    | zero =>
      intros; exfalso; omega
    | succ t ih =>
      have ih0 := ih
      intro a4_2 b4_2 a4_3 b4_3 g4_ hI4_ hF4_ hR4_0 hR4_1 hR4_2 hM4_
      refine z_iload_n (pc := 4) C dX5_lengthTo_4 rfl ?_
      refine z_if_le (pc := 5) 30 C dX5_lengthTo_5 (by decide) (fun h5_0 => ?_) (fun h5_0 => ?_)
      · skip
        have b2x : zB a4_3 0 0 := by have q1 := b4_3; have q2 := (zB.of (x := 0) 0 (by decide)); simp only [z32lt, z32le, z32eq, Int32.reduceToInt, Int32.toInt_zero] at h5_0; constructor <;> omega
        refine z_iload_n (pc := 30) C dX5_lengthTo_30 rfl ?_
        exact z_iret (pc := 31) C hr dX5_lengthTo_31 ⟨⟨_, rfl, b4_2⟩, hI4_, hF4_, (by
                                                                                          intro v hv; cases hv
                                                                                          first
                                                                                            | (have h0 : a4_3.toInt.toNat = 0 := by omega
                                                                                               rw [hR4_1, h0]; rfl)
                                                                                            | (exfalso; omega))⟩
      · skip
        have b3x : zB a4_3 1 3072 := by have q1 := b4_3; have q2 := (zB.of (x := 0) 0 (by decide)); simp only [z32lt, z32le, z32eq, Int32.reduceToInt, Int32.toInt_zero] at h5_0; constructor <;> omega
        refine z_iload_n (pc := 8) C dX5_lengthTo_8 rfl ?_
        refine z_aload_n (pc := 9) C dX5_lengthTo_9 rfl ?_
        refine z_getR (pc := 10) C zf_X5_22 rfl rfl (by decide) dX5_lengthTo_10 ?_
        refine z_alenI (pc := 13) (v := 3073) C rfl (by decide) rfl dX5_lengthTo_13 ?_
        refine z_icmp_ge (pc := 14) 30 C dX5_lengthTo_14 (by decide) (fun h14_3 => ?_) (fun h14_3 => ?_)
        · skip
          have b5x : zB a4_2 3073 3073 := by have q1 := b4_2; have q2 := (zB.of (x := 3073) 3073 (by decide)); simp only [z32lt, z32le, z32eq, Int32.reduceToInt, Int32.toInt_zero] at h14_3; constructor <;> omega
          refine z_iload_n (pc := 30) C dX5_lengthTo_30 rfl ?_
          exact z_iret (pc := 31) C hr dX5_lengthTo_31 ⟨⟨_, rfl, (zB.wk (a' := 0) (b' := 3073) b5x (by decide) (by decide))⟩, hI4_, hF4_, (by
                                                                                          intro v hv; cases hv
                                                                                          first
                                                                                            | (have h0 : a4_3.toInt.toNat = 0 := by omega
                                                                                               rw [hR4_1, h0]; rfl)
                                                                                            | (exfalso; omega))⟩
        · skip
          have b6x : zB a4_2 0 3072 := by have q1 := b4_2; have q2 := (zB.of (x := 3073) 3073 (by decide)); simp only [z32lt, z32le, z32eq, Int32.reduceToInt, Int32.toInt_zero] at h14_3; constructor <;> omega
          refine z_iinc (pc := 17) (v := 1) C dX5_lengthTo_17 rfl (by decide) (by rw [hn]; decide) rfl ?_
          obtain ⟨v7, hv7, e7⟩ : ∃ v : Int32, v = a4_2 + 1 ∧ v.toInt = a4_2.toInt + 1 := ⟨_, rfl, zadd_eb b6x (zB.of (x := 1) 1 (by decide)) (by decide) (by decide)⟩
          rw [← hv7]
          have b7x : zB v7 1 3073 := by have q9 := b6x; constructor <;> omega
          refine z_aload_n (pc := 20) C dX5_lengthTo_20 rfl ?_
          refine z_getR (pc := 21) C zf_X5_25 rfl rfl (by decide) dX5_lengthTo_21 ?_
          refine z_iload_n (pc := 24) C dX5_lengthTo_24 rfl ?_
          refine z_iald (pc := 25) C rfl (by decide) (zIx b3x (by decide) (by decide)) dX5_lengthTo_25 ?_
          have kq25_7 : a4_3.toNatClampNeg = a4_3.toInt.toNat := rfl
          refine w_gp (fun v => v = g4_ 16 0 a4_3.toNatClampNeg) rfl (fun v8 q8 => ?_)
          have b8x : zB v8 0 3072 := by rw [q8]; exact (hI4_ 16 0 a4_3.toNatClampNeg)
          refine z_istore_n (pc := 26) C dX5_lengthTo_26 (by rw [hn]; decide) rfl ?_
          refine z_goto (pc := 27) 4 C dX5_lengthTo_27 (by decide) ?_
          exact ih0 v7 (zB.wk (a' := 0) (b' := 3073) b7x (by decide) (by decide)) v8 b8x g4_ hI4_ hF4_ (by exact hR4_0) (by
                                                                                          have h12 := zpa_12 hI a4_3.toInt.toNat
                                                                                          have r25 : v8 = f 16 0 a4_3.toInt.toNat := by
                                                                                            have h := q8
                                                                                            rw [hR4_0] at h
                                                                                            exact h
                                                                                          have hz : (v8).toInt.toNat = zpr f a4_3.toInt.toNat := by rw [r25]; rfl
                                                                                          have hp := hp0 a4_3.toInt.toNat (by omega) (by omega)
                                                                                          have hn : (v7).toInt.toNat = a4_2.toInt.toNat + 1 := by omega
                                                                                          rw [hn, zbk_s, hR4_1, zpd_s (n := a1.toInt.toNat + 1) (fun k a b => hp0 k a (by omega)) (by omega) (by omega), hz]
                                                                                          omega) (by
                                                                                          have h12 := zpa_12 hI a4_3.toInt.toNat
                                                                                          have r25 : v8 = f 16 0 a4_3.toInt.toNat := by
                                                                                            have h := q8
                                                                                            rw [hR4_0] at h
                                                                                            exact h
                                                                                          have hz : (v8).toInt.toNat = zpr f a4_3.toInt.toNat := by rw [r25]; rfl
                                                                                          have hp := hp0 a4_3.toInt.toNat (by omega) (by omega)
                                                                                          omega) (by omega)
  have J0 := J 9234
  show Z X 0 [some (zr 13 0), some (zi a1), none, none] [] f
  refine z_iconst (pc := 0) (v := 0) C dX5_lengthTo_0 (by decide) ?_
  refine z_istore_n (pc := 1) C dX5_lengthTo_1 (by rw [hn]; decide) rfl ?_
  refine z_iload_n (pc := 2) C dX5_lengthTo_2 rfl ?_
  refine z_istore_n (pc := 3) C dX5_lengthTo_3 (by rw [hn]; decide) rfl ?_
  exact J0 0 (zB.wk (a' := 0) (b' := 3073) (zB.of (x := 0) 0 (by decide)) (by decide) (by decide)) a1 b1 f hI hF (by rfl) (by rfl) (by
                                                                                          have c0 : (0 : Int32).toInt = 0 := by decide
                                                                                          omega) (by have qc0 : (0 : Int32).toInt = 0 := (by decide); omega)

set_option maxRecDepth 100000 in
set_option maxHeartbeats 4000000 in
theorem y_X5_paperOn (d : Nat) (f : zM) (a1 : Int32) (b1 : zB a1 0 3072) (a2 : Int32) (b2 : zB a2 (-4000) 4000) (hp0 : (∀ k : Nat, 0 < k → k ≤ a1.toInt.toNat → zpr f k < k)) (hp1 : 0 ≤ a2.toInt) (hp2 : zHL (zpd (zpr f) (zpa f) a1.toInt.toNat) a2.toInt) (hI : zInv f) : ZM d yX5_paperOn cX5_paperOn 5 (some .int) [zr 13 0, zi a1, zi a2] f (fun r g => (∃ v, r = some (zi v) ∧ zB v 0 11) ∧ zInv g ∧ zFr [] f g ∧ (∀ v : Int32, r = some (zi v) → v.toInt = (zbk a2.toInt.toNat (zpd (zpr f) (zpa f) a1.toInt.toNat) % 12 : Nat))) := by
  refine ZM.intro (by decide +kernel) (Nat.le_of_ble_eq_true rfl) ?_
  intro X C hr hn
  have hF : zFr [] f f := zFr.rf _ _
  have J : ∀ t : Nat, (∀ a5_3 : Int32, zB a5_3 0 3072 → ∀ a5_4 : Int32, zB a5_4 0 4000 → ∀ g : zM, zInv g → zFr [] f g → (g = f) → (zbk a5_4.toInt.toNat (zpd (zpr f) (zpa f) a1.toInt.toNat) = zpd (zpr f) (zpa f) a5_3.toInt.toNat) → (a5_3.toInt ≤ a1.toInt) → (a5_4.toInt ≤ a2.toInt) → (0 + 3 * (4000 - a5_4.toInt) : Int) < t → Z X 5 [some (zr 13 0), some (zi a1), some (zi a2), some (zi a5_3), some (zi a5_4)] [] g) := by
    intro t
    induction t with
    | zero =>
      intros; exfalso; omega
    | succ t ih =>
      have ih0 := ih
      intro a5_3 b5_3 a5_4 b5_4 g5_ hI5_ hF5_ hR5_0 hR5_1 hR5_2 hR5_3 hM5_
      refine z_iload (pc := 5) C dX5_paperOn_5 rfl ?_
      refine z_iload_n (pc := 7) C dX5_paperOn_7 rfl ?_
      refine z_icmp_ge (pc := 8) 24 C dX5_paperOn_8 (by decide) (fun h8_0 => ?_) (fun h8_0 => ?_)
      · skip
        have rr2 : a5_4.toInt ≥ a2.toInt := by simp only [z32lt, z32le, z32eq] at h8_0; omega
        refine z_aload_n (pc := 24) C dX5_paperOn_24 rfl ?_
        refine z_getR (pc := 25) C zf_X5_22 rfl rfl (by decide) dX5_paperOn_25 ?_
        refine z_iload_n (pc := 28) C dX5_paperOn_28 rfl ?_
        refine z_iald (pc := 29) C rfl (by decide) (zIx b5_3 (by decide) (by decide)) dX5_paperOn_29 ?_
        have kq29_2 : a5_3.toNatClampNeg = a5_3.toInt.toNat := rfl
        refine w_gp (fun v => v = g5_ 15 0 a5_3.toNatClampNeg) rfl (fun v3 q3 => ?_)
        have b3x : zB v3 0 3071 := by rw [q3]; exact (hI5_ 15 0 a5_3.toNatClampNeg)
        refine z_sipush (pc := 30) (v := 256) C dX5_paperOn_30 (by decide) ?_
        refine z_idiv (pc := 33) C dX5_paperOn_33 (by decide) ?_
        refine w_gp (fun v => v = v3 / (256 : Int32)) rfl (fun v4 q4 => ?_)
        have b4x : zB v4 0 11 := by rw [q4]; exact (zdiv_b 256 b3x (by decide) (by decide) (by decide))
        exact z_iret (pc := 34) C hr dX5_paperOn_34 ⟨⟨_, rfl, b4x⟩, hI5_, hF5_, (by
                                                                                          intro v hv; cases hv
                                                                                          have hpos : 0 < a5_3.toInt.toNat := by
                                                                                            rcases Nat.eq_zero_or_pos a5_3.toInt.toNat with z | z
                                                                                            · exfalso
                                                                                              obtain ⟨L, l1, l2⟩ := hp2
                                                                                              rw [z] at hR5_1
                                                                                              have b := zbk_0 (w := (zpd (zpr f) (zpa f) a1.toInt.toNat)) (c := a5_4.toInt.toNat) (by rw [hR5_1]; exact Nat.le_refl 1) (L - a5_4.toInt.toNat - 1)
                                                                                              rw [show a5_4.toInt.toNat + (L - a5_4.toInt.toNat - 1) + 1 = L by omega] at b
                                                                                              omega
                                                                                            · exact z
                                                                                          have h12 := zpa_12 hI a5_3.toInt.toNat
                                                                                          have hzp := zpd_s (pr := zpr f) (pa := zpa f) (n := a1.toInt.toNat + 1) (fun k a b => hp0 k a (by omega)) hpos (by omega)
                                                                                          have r29 : v3 = f 15 0 a5_3.toInt.toNat := by
                                                                                            have h := q3
                                                                                            rw [hR5_0] at h
                                                                                            exact h
                                                                                          have b15 : 0 ≤ (f 15 0 a5_3.toInt.toNat).toInt := (hI 15 0 _).1
                                                                                          have c256 : (256 : Int32).toInt = 256 := by decide
                                                                                          have e33 : (v4).toInt = (f 15 0 a5_3.toInt.toNat).toInt / 256 := by rw [q4, r29, zdiv_e b15 (by decide), c256]
                                                                                          have hpa : zpa f a5_3.toInt.toNat = (f 15 0 a5_3.toInt.toNat).toInt.toNat / 256 := rfl
                                                                                          have h4 : a2.toInt.toNat = a5_4.toInt.toNat := by omega
                                                                                          rw [h4, hR5_1, hzp, e33]
                                                                                          omega)⟩
      · skip
        have rr5 : a5_4.toInt < a2.toInt := by simp only [z32lt, z32le, z32eq] at h8_0; omega
        have b6x : zB a5_4 0 3999 := by have q1 := b5_4; have q2 := b2; simp only [z32lt, z32le, z32eq, Int32.reduceToInt, Int32.toInt_zero] at h8_0; constructor <;> omega
        have b7x : zB a2 1 4000 := by have q1 := b5_4; have q2 := b2; simp only [z32lt, z32le, z32eq, Int32.reduceToInt, Int32.toInt_zero] at h8_0; constructor <;> omega
        refine z_aload_n (pc := 11) C dX5_paperOn_11 rfl ?_
        refine z_getR (pc := 12) C zf_X5_25 rfl rfl (by decide) dX5_paperOn_12 ?_
        refine z_iload_n (pc := 15) C dX5_paperOn_15 rfl ?_
        refine z_iald (pc := 16) C rfl (by decide) (zIx b5_3 (by decide) (by decide)) dX5_paperOn_16 ?_
        have kq16_7 : a5_3.toNatClampNeg = a5_3.toInt.toNat := rfl
        refine w_gp (fun v => v = g5_ 16 0 a5_3.toNatClampNeg) rfl (fun v8 q8 => ?_)
        have b8x : zB v8 0 3072 := by rw [q8]; exact (hI5_ 16 0 a5_3.toNatClampNeg)
        refine z_istore_n (pc := 17) C dX5_paperOn_17 (by rw [hn]; decide) rfl ?_
        refine z_iinc (pc := 18) (v := 1) C dX5_paperOn_18 rfl (by decide) (by rw [hn]; decide) rfl ?_
        obtain ⟨v9, hv9, e9⟩ : ∃ v : Int32, v = a5_4 + 1 ∧ v.toInt = a5_4.toInt + 1 := ⟨_, rfl, zadd_eb b6x (zB.of (x := 1) 1 (by decide)) (by decide) (by decide)⟩
        rw [← hv9]
        have b9x : zB v9 1 4000 := by have q9 := b6x; constructor <;> omega
        refine z_goto (pc := 21) 5 C dX5_paperOn_21 (by decide) ?_
        exact ih0 v8 b8x v9 (zB.wk (a' := 0) (b' := 4000) b9x (by decide) (by decide)) g5_ hI5_ hF5_ (by exact hR5_0) (by
                                                                                          have hpos : 0 < a5_3.toInt.toNat := by
                                                                                            rcases Nat.eq_zero_or_pos a5_3.toInt.toNat with z | z
                                                                                            · exfalso
                                                                                              obtain ⟨L, l1, l2⟩ := hp2
                                                                                              rw [z] at hR5_1
                                                                                              have b := zbk_0 (w := (zpd (zpr f) (zpa f) a1.toInt.toNat)) (c := a5_4.toInt.toNat) (by rw [hR5_1]; exact Nat.le_refl 1) (L - a5_4.toInt.toNat - 1)
                                                                                              rw [show a5_4.toInt.toNat + (L - a5_4.toInt.toNat - 1) + 1 = L by omega] at b
                                                                                              omega
                                                                                            · exact z
                                                                                          have h12 := zpa_12 hI a5_3.toInt.toNat
                                                                                          have hzp := zpd_s (pr := zpr f) (pa := zpa f) (n := a1.toInt.toNat + 1) (fun k a b => hp0 k a (by omega)) hpos (by omega)
                                                                                          have r16 : v8 = f 16 0 a5_3.toInt.toNat := by
                                                                                            have h := q8
                                                                                            rw [hR5_0] at h
                                                                                            exact h
                                                                                          have hz : (v8).toInt.toNat = zpr f a5_3.toInt.toNat := by rw [r16]; rfl
                                                                                          have hp := hp0 a5_3.toInt.toNat hpos (by omega)
                                                                                          have hn : (v9).toInt.toNat = a5_4.toInt.toNat + 1 := by omega
                                                                                          rw [hn, zbk_s, hR5_1, hzp, hz]
                                                                                          omega) (by
                                                                                          have hpos : 0 < a5_3.toInt.toNat := by
                                                                                            rcases Nat.eq_zero_or_pos a5_3.toInt.toNat with z | z
                                                                                            · exfalso
                                                                                              obtain ⟨L, l1, l2⟩ := hp2
                                                                                              rw [z] at hR5_1
                                                                                              have b := zbk_0 (w := (zpd (zpr f) (zpa f) a1.toInt.toNat)) (c := a5_4.toInt.toNat) (by rw [hR5_1]; exact Nat.le_refl 1) (L - a5_4.toInt.toNat - 1)
                                                                                              rw [show a5_4.toInt.toNat + (L - a5_4.toInt.toNat - 1) + 1 = L by omega] at b
                                                                                              omega
                                                                                            · exact z
                                                                                          have h12 := zpa_12 hI a5_3.toInt.toNat
                                                                                          have hzp := zpd_s (pr := zpr f) (pa := zpa f) (n := a1.toInt.toNat + 1) (fun k a b => hp0 k a (by omega)) hpos (by omega)
                                                                                          have r16 : v8 = f 16 0 a5_3.toInt.toNat := by
                                                                                            have h := q8
                                                                                            rw [hR5_0] at h
                                                                                            exact h
                                                                                          have hz : (v8).toInt.toNat = zpr f a5_3.toInt.toNat := by rw [r16]; rfl
                                                                                          have hp := hp0 a5_3.toInt.toNat hpos (by omega)
                                                                                          omega) (by omega) (by omega)
  have J0 := J 12015
  show Z X 0 [some (zr 13 0), some (zi a1), some (zi a2), none, none] [] f
  refine z_iload_n (pc := 0) C dX5_paperOn_0 rfl ?_
  refine z_istore_n (pc := 1) C dX5_paperOn_1 (by rw [hn]; decide) rfl ?_
  refine z_iconst (pc := 2) (v := 0) C dX5_paperOn_2 (by decide) ?_
  refine z_istore (pc := 3) C dX5_paperOn_3 (by rw [hn]; decide) rfl ?_
  exact J0 a1 b1 0 (zB.wk (a' := 0) (b' := 4000) (zB.of (x := 0) 0 (by decide)) (by decide) (by decide)) f hI hF (by rfl) (by rfl) (by omega) (by
                                                                                          have c0 : (0 : Int32).toInt = 0 := by decide
                                                                                          omega) (by have qc0 : (0 : Int32).toInt = 0 := (by decide); omega)

set_option maxRecDepth 100000 in
set_option maxHeartbeats 4000000 in
theorem y_X9_road (d : Nat) (f : zM) (a1 : Int32) (b1 : zB a1 (-2147483648) 2147483647) (a2 : Int32) (b2 : zB a2 (-2147483648) 2147483647) (a3 : Int32) (b3 : zB a3 (-2147483648) 2147483647) (hp0 : ((f 6 0 5).toInt = -4 ∨ 0 ≤ (f 6 0 5).toInt)) (hp1 : ((∀ key, (f 14 0 key).toInt ≤ (f 13 0 7).toInt) ∧ (f 13 0 7).toInt < 2147483647 ∧ 0 ≤ (f 13 0 7).toInt)) (hI : zInv f) : ZM (d + 4) yX9_road cX9_road 6 (some .int) [zr 0 0, zi a1, zi a2, zi a3] f (fun r g => (∃ v, r = some (zi v) ∧ zB v (-4) 3073) ∧ zInv g ∧ zFr [(6, some 1), (6, some 4), (6, some 5), (6, some 6), (11, some 8), (11, some 9), (13, some 6), (13, some 7), (14, none), (15, none), (16, none)] f g ∧ (∀ v : Int32, r = some (zi v) → (¬ ((0 ≤ a1.toInt ∧ a1.toInt ≤ 5) ∧ (0 ≤ a2.toInt ∧ a2.toInt < (f 1 0 6).toInt) ∧ -1 ≤ a3.toInt) ∧ v = -1) ∨ (((0 ≤ a1.toInt ∧ a1.toInt ≤ 5) ∧ (0 ≤ a2.toInt ∧ a2.toInt < (f 1 0 6).toInt) ∧ -1 ≤ a3.toInt) ∧ ∃ o, zFnd (zQs f a1 a2.toInt.toNat) (zGpx f) (zNsx f) (f 1 0 7).toInt.toNat (zS0x f) o ∧ ((o = none ∧ v = -4) ∨ ∃ w, o = some w ∧ zAns w a3.toInt v))) ∧ (∀ v : Int32, r = some (zi v) → ((∀ key, (g 14 0 key).toInt ≤ (g 13 0 7).toInt) ∧ (g 13 0 7).toInt ≤ (f 13 0 7).toInt + 1 ∧ 0 ≤ (g 13 0 7).toInt)) ∧ (∀ v : Int32, r = some (zi v) → (∀ n j, n ≠ 2 → g 6 n j = f 6 n j))) := by
  refine ZM.intro (by decide +kernel) (Nat.le_of_ble_eq_true rfl) ?_
  intro X C hr hn
  have hF : zFr [(6, some 1), (6, some 4), (6, some 5), (6, some 6), (11, some 8), (11, some 9), (13, some 6), (13, some 7), (14, none), (15, none), (16, none)] f f := zFr.rf _ _
  show Z X 0 [some (zr 0 0), some (zi a1), some (zi a2), some (zi a3), none, none] [] f
  refine z_iload_n (pc := 0) C dX9_road_0 rfl ?_
  refine z_callSb (pc := 1) C zk_X9_46 (m_X9_isLand _ _ _) rfl rfl (Nat.le_of_ble_eq_true rfl) dX9_road_1 (fun h1_0 => ?_) (fun h1_0 => ?_)
  · skip
    have b2x : zB a1 0 5 := h1_0
    refine z_if_eq (pc := 4) 20 C dX9_road_4 (by decide) (fun h => absurd h (by decide)) (fun _ => ?_)
    refine z_aload_n (pc := 7) C dX9_road_7 rfl ?_
    refine z_iload_n (pc := 8) C dX9_road_8 rfl ?_
    refine z_callVb (pc := 9) C zk_X9_179 (m_X9_isDeed _ _ _) rfl rfl (by decide) rfl rfl (Nat.le_of_ble_eq_true rfl) dX9_road_9 (fun h9_2 => ?_) (fun h9_2 => ?_)
    · skip
      have b4x : zB a2 0 7 := (zltc h9_2 (hI 1 0 6).2)
      refine z_if_eq (pc := 12) 20 C dX9_road_12 (by decide) (fun h => absurd h (by decide)) (fun _ => ?_)
      refine z_iload_n (pc := 15) C dX9_road_15 rfl ?_
      refine z_iconst (pc := 16) (v := -1) C dX9_road_16 (by decide) ?_
      refine z_icmp_ge (pc := 17) 22 C dX9_road_17 (by decide) (fun h17_4 => ?_) (fun h17_4 => ?_)
      · skip
        have b6x : zB a3 (-1) 2147483647 := by have q1 := b3; have q2 := (zB.of (x := (-1)) (-1) (by decide)); simp only [z32lt, z32le, z32eq, Int32.reduceToInt, Int32.toInt_zero] at h17_4; constructor <;> omega
        refine z_aload_n (pc := 22) C dX9_road_22 rfl ?_
        refine z_getR (pc := 23) C zf_X9_10 rfl rfl (by decide) dX9_road_23 ?_
        refine z_callV (pc := 26) C zk_X9_280 (x_X8_weighAll _ _  hI) rfl rfl (by decide) rfl rfl (Nat.le_of_ble_eq_true rfl) dX9_road_26 (fun r7 g7 q7 => ?_)
        obtain ⟨rfl, hI7, hF7q, hp7_0⟩ := q7
        have hF7 := zFr.tr hF hF7q (by decide)
        simp only [Option.toList, List.cons_append, List.nil_append]
        refine z_aload_n (pc := 29) C dX9_road_29 rfl ?_
        refine z_getR (pc := 30) C zf_X9_24 rfl rfl (by decide) dX9_road_30 ?_
        refine z_iload_n (pc := 33) C dX9_road_33 rfl ?_
        refine z_iload_n (pc := 34) C dX9_road_34 rfl ?_
        refine z_callV (pc := 35) C zk_X9_283 (y_X5_find _ _ a1 b2x a2 b4x (by assumption) (by rw [hF7q 6 0 5 rfl]; exact hp0) (by exact ⟨fun key => by rw [hF7q 14 0 key rfl, hF7q 13 0 7 rfl]; exact hp1.1 key, by rw [hF7q 13 0 7 rfl]; exact hp1.2.1, by rw [hF7q 13 0 7 rfl]; exact hp1.2.2⟩) (by rw [hF7q 1 0 6 rfl]; omega) hI7) rfl rfl (by decide) rfl rfl (Nat.le_of_ble_eq_true rfl) dX9_road_35 (fun r8 g8 q8 => ?_)
        obtain ⟨⟨v8, rfl, b8x⟩, hI8, hF8q, hp8_0, hp8_1, hp8_2⟩ := q8
        have hp8_0 := hp8_0 _ rfl
        have hp8_1 := hp8_1 _ rfl
        have hp8_2 := hp8_2 _ rfl
        have hF8 := zFr.tr hF7 hF8q (by decide)
        simp only [Option.toList, List.cons_append, List.nil_append]
        refine z_istore (pc := 38) C dX9_road_38 (by rw [hn]; decide) rfl ?_
        refine z_iload (pc := 40) C dX9_road_40 rfl ?_
        refine z_if_ge (pc := 42) 48 C dX9_road_42 (by decide) (fun h42_8 => ?_) (fun h42_8 => ?_)
        · skip
          have b10x : zB v8 0 3072 := by have q1 := b8x; have q2 := (zB.of (x := 0) 0 (by decide)); simp only [z32lt, z32le, z32eq, Int32.reduceToInt, Int32.toInt_zero] at h42_8; constructor <;> omega
          refine z_aload_n (pc := 48) C dX9_road_48 rfl ?_
          refine z_getR (pc := 49) C zf_X9_24 rfl rfl (by decide) dX9_road_49 ?_
          refine z_iload (pc := 52) C dX9_road_52 rfl ?_
          refine z_callV (pc := 54) C zk_X9_287 (y_X5_lengthTo _ _ v8 b10x (by exact zFres_c hI8 hp8_0 (by omega)) hI8) rfl rfl (by decide) rfl rfl (Nat.le_of_ble_eq_true rfl) dX9_road_54 (fun r11 g11 q11 => ?_)
          obtain ⟨⟨v11, rfl, b11x⟩, hI11, hF11q, hp11_0⟩ := q11
          have hp11_0 := hp11_0 _ rfl
          obtain rfl := zFr_nil hF11q
          simp only [Option.toList, List.cons_append, List.nil_append]
          refine z_istore (pc := 57) C dX9_road_57 (by rw [hn]; decide) rfl ?_
          refine z_iload_n (pc := 59) C dX9_road_59 rfl ?_
          refine z_iconst (pc := 60) (v := -1) C dX9_road_60 (by decide) ?_
          refine z_icmp_ne (pc := 61) 67 C dX9_road_61 (by decide) (fun h61_11 => ?_) (fun h61_11 => ?_)
          · skip
            have b13x : zB a3 0 2147483647 := by have q1 := b6x; have q2 := (zB.of (x := (-1)) (-1) (by decide)); simp only [z32lt, z32le, z32eq, Int32.reduceToInt, Int32.toInt_zero] at h61_11; constructor <;> omega
            refine z_iload_n (pc := 67) C dX9_road_67 rfl ?_
            refine z_iload (pc := 68) C dX9_road_68 rfl ?_
            refine z_icmp_ge (pc := 70) 91 C dX9_road_70 (by decide) (fun h70_13 => ?_) (fun h70_13 => ?_)
            · skip
              have rr15 : a3.toInt ≥ v11.toInt := by simp only [z32lt, z32le, z32eq] at h70_13; omega
              refine z_bipush (pc := 91) (v := -4) C dX9_road_91 (by decide) ?_
              exact z_iret (pc := 93) C hr dX9_road_93 ⟨⟨_, rfl, (zB.wk (a' := (-4)) (b' := 3073) (zB.of (x := (-4)) (-4) (by decide)) (by decide) (by decide))⟩, hI8, hF8, (by
                                                                                          intro v hv; cases hv
                                                                                          have kk := zGx_k (f := f) (g := g7) (fun j _ => hF7q 1 0 j rfl) (fun q j hj => by rcases (show j = 0 ∨ j = 1 ∨ j = 2 ∨ j = 3 ∨ j = 4 ∨ j = 5 ∨ j = 6 ∨ j = 7 by omega) with rfl | rfl | rfl | rfl | rfl | rfl | rfl | rfl <;> exact hF7q 11 q _ rfl) (fun n j => hF7q 8 n j rfl) (fun n j => hF7q 9 n j rfl) (fun n j => hF7q 10 n j rfl) (fun j => hF7q 6 0 j rfl)
                                                                                          have kq : zQs g7 a1 a2.toInt.toNat = zQs f a1 a2.toInt.toNat := by
                                                                                            funext s
                                                                                            unfold zQs zMTx
                                                                                            rw [hF7q 8 _ _ rfl, hF7q 9 _ _ rfl]
                                                                                          have k7 : g7 1 0 7 = f 1 0 7 := hF7q 1 0 7 rfl
                                                                                          have hr := hp8_0
                                                                                          have hs := zFres_s hI8 hr (by omega)
                                                                                          rw [kk.2.1, kk.2.2.1, kk.2.2.2.1, kq, k7] at hs
                                                                                          have hl := hp11_0
                                                                                          refine Or.inr ⟨by omega, _, hs, Or.inr ⟨_, rfl, _, hl, ?_⟩⟩
                                                                                          exact Or.inr (Or.inl ⟨by (have h : ¬ a3 = -1 := (by assumption); have c1 : (-1 : Int32).toInt = -1 := (by decide); rw [z32eq, c1] at h; omega), by omega, rfl⟩)), (by
                                                                                          intro v hv; cases hv
                                                                                          have hm := hp8_1
                                                                                          have k7 := hF7q 13 0 7 rfl
                                                                                          rw [k7] at hm
                                                                                          exact hm), (by intro v hv; cases hv; intro n j hn; exact ((hp8_2 n j hn)).trans (((hF7q 6 n j rfl)).trans (rfl)))⟩
            · skip
              have rr16 : a3.toInt < v11.toInt := by simp only [z32lt, z32le, z32eq] at h70_13; omega
              have b17x : zB a3 0 3072 := by have q1 := b13x; have q2 := b11x; simp only [z32lt, z32le, z32eq, Int32.reduceToInt, Int32.toInt_zero] at h70_13; constructor <;> omega
              have b18x : zB v11 1 3073 := by have q1 := b13x; have q2 := b11x; simp only [z32lt, z32le, z32eq, Int32.reduceToInt, Int32.toInt_zero] at h70_13; constructor <;> omega
              refine z_aload_n (pc := 73) C dX9_road_73 rfl ?_
              refine z_getR (pc := 74) C zf_X9_24 rfl rfl (by decide) dX9_road_74 ?_
              refine z_iload (pc := 77) C dX9_road_77 rfl ?_
              refine z_iload (pc := 79) C dX9_road_79 rfl ?_
              refine z_iconst (pc := 81) (v := 1) C dX9_road_81 (by decide) ?_
              refine z_isub (pc := 82) C dX9_road_82 ?_
              refine w_gp (fun v => v = v11 - (1 : Int32)) rfl (fun v19 q19 => ?_)
              have e19 : v19.toInt = v11.toInt - 1 := by rw [q19]; exact (zsub_eb b18x (zB.of (x := 1) 1 (by decide)) (by decide) (by decide))
              have b19x : zB v19 0 3072 := by have q1 := b18x; have q2 := (zB.of (x := 1) 1 (by decide)); constructor <;> omega
              refine z_iload_n (pc := 83) C dX9_road_83 rfl ?_
              refine z_isub (pc := 84) C dX9_road_84 ?_
              refine w_gp (fun v => v = v19 - a3) rfl (fun v20 q20 => ?_)
              have e20 : v20.toInt = v19.toInt - a3.toInt := by rw [q20]; exact (zsub_eb b19x b17x (by decide) (by decide))
              have b20x : zB v20 (-3072) 3072 := by have q1 := b19x; have q2 := b17x; constructor <;> omega
              refine z_callV (pc := 85) C zk_X9_290 (y_X5_paperOn _ _ v8 b10x v20 (zB.wk (a' := (-4000)) (b' := 4000) b20x (by decide) (by decide)) (by exact zFres_c hI8 hp8_0 (by omega)) (by omega) (by exact ⟨_, by omega, hp11_0⟩) hI8) rfl rfl (by decide) rfl rfl (Nat.le_of_ble_eq_true rfl) dX9_road_85 (fun r21 g21 q21 => ?_)
              obtain ⟨⟨v21, rfl, b21x⟩, hI21, hF21q, hp21_0⟩ := q21
              have hp21_0 := hp21_0 _ rfl
              obtain rfl := zFr_nil hF21q
              simp only [Option.toList, List.cons_append, List.nil_append]
              refine z_goto (pc := 88) 93 C dX9_road_88 (by decide) ?_
              exact z_iret (pc := 93) C hr dX9_road_93 ⟨⟨_, rfl, (zB.wk (a' := (-4)) (b' := 3073) b21x (by decide) (by decide))⟩, hI8, hF8, (by
                                                                                          intro v hv; cases hv
                                                                                          have kk := zGx_k (f := f) (g := g7) (fun j _ => hF7q 1 0 j rfl) (fun q j hj => by rcases (show j = 0 ∨ j = 1 ∨ j = 2 ∨ j = 3 ∨ j = 4 ∨ j = 5 ∨ j = 6 ∨ j = 7 by omega) with rfl | rfl | rfl | rfl | rfl | rfl | rfl | rfl <;> exact hF7q 11 q _ rfl) (fun n j => hF7q 8 n j rfl) (fun n j => hF7q 9 n j rfl) (fun n j => hF7q 10 n j rfl) (fun j => hF7q 6 0 j rfl)
                                                                                          have kq : zQs g7 a1 a2.toInt.toNat = zQs f a1 a2.toInt.toNat := by
                                                                                            funext s
                                                                                            unfold zQs zMTx
                                                                                            rw [hF7q 8 _ _ rfl, hF7q 9 _ _ rfl]
                                                                                          have k7 : g7 1 0 7 = f 1 0 7 := hF7q 1 0 7 rfl
                                                                                          have hr := hp8_0
                                                                                          have hs := zFres_s hI8 hr (by omega)
                                                                                          rw [kk.2.1, kk.2.2.1, kk.2.2.2.1, kq, k7] at hs
                                                                                          have hl := hp11_0
                                                                                          refine Or.inr ⟨by omega, _, hs, Or.inr ⟨_, rfl, _, hl, ?_⟩⟩
                                                                                          refine Or.inr (Or.inr ⟨by (have h : ¬ a3 = -1 := (by assumption); have c1 : (-1 : Int32).toInt = -1 := (by decide); rw [z32eq, c1] at h; omega), by omega, ?_⟩)
                                                                                          have hp := hp21_0
                                                                                          rw [hp]
                                                                                          congr 2
                                                                                          congr 1
                                                                                          omega), (by
                                                                                          intro v hv; cases hv
                                                                                          have hm := hp8_1
                                                                                          have k7 := hF7q 13 0 7 rfl
                                                                                          rw [k7] at hm
                                                                                          exact hm), (by intro v hv; cases hv; intro n j hn; exact ((hp8_2 n j hn)).trans (((hF7q 6 n j rfl)).trans (rfl)))⟩
          · skip
            have b22x : zB a3 (-1) (-1) := by have q1 := b6x; have q2 := (zB.of (x := (-1)) (-1) (by decide)); simp only [z32lt, z32le, z32eq, Int32.reduceToInt, Int32.toInt_zero] at h61_11; constructor <;> omega
            refine z_iload (pc := 64) C dX9_road_64 rfl ?_
            exact z_iret (pc := 66) C hr dX9_road_66 ⟨⟨_, rfl, (zB.wk (a' := (-4)) (b' := 3073) b11x (by decide) (by decide))⟩, hI8, hF8, (by
                                                                                          intro v hv; cases hv
                                                                                          have kk := zGx_k (f := f) (g := g7) (fun j _ => hF7q 1 0 j rfl) (fun q j hj => by rcases (show j = 0 ∨ j = 1 ∨ j = 2 ∨ j = 3 ∨ j = 4 ∨ j = 5 ∨ j = 6 ∨ j = 7 by omega) with rfl | rfl | rfl | rfl | rfl | rfl | rfl | rfl <;> exact hF7q 11 q _ rfl) (fun n j => hF7q 8 n j rfl) (fun n j => hF7q 9 n j rfl) (fun n j => hF7q 10 n j rfl) (fun j => hF7q 6 0 j rfl)
                                                                                          have kq : zQs g7 a1 a2.toInt.toNat = zQs f a1 a2.toInt.toNat := by
                                                                                            funext s
                                                                                            unfold zQs zMTx
                                                                                            rw [hF7q 8 _ _ rfl, hF7q 9 _ _ rfl]
                                                                                          have k7 : g7 1 0 7 = f 1 0 7 := hF7q 1 0 7 rfl
                                                                                          have hr := hp8_0
                                                                                          have hs := zFres_s hI8 hr (by omega)
                                                                                          rw [kk.2.1, kk.2.2.1, kk.2.2.2.1, kq, k7] at hs
                                                                                          have hl := hp11_0
                                                                                          refine Or.inr ⟨by omega, _, hs, Or.inr ⟨_, rfl, _, hl, ?_⟩⟩
                                                                                          exact Or.inl ⟨(by first | omega | (have h : a3 = -1 := (by assumption); rw [h]; decide)), by omega⟩), (by
                                                                                          intro v hv; cases hv
                                                                                          have hm := hp8_1
                                                                                          have k7 := hF7q 13 0 7 rfl
                                                                                          rw [k7] at hm
                                                                                          exact hm), (by intro v hv; cases hv; intro n j hn; exact ((hp8_2 n j hn)).trans (((hF7q 6 n j rfl)).trans (rfl)))⟩
        · skip
          have b23x : zB v8 (-4) (-1) := by have q1 := b8x; have q2 := (zB.of (x := 0) 0 (by decide)); simp only [z32lt, z32le, z32eq, Int32.reduceToInt, Int32.toInt_zero] at h42_8; constructor <;> omega
          refine z_bipush (pc := 45) (v := -4) C dX9_road_45 (by decide) ?_
          exact z_iret (pc := 47) C hr dX9_road_47 ⟨⟨_, rfl, (zB.wk (a' := (-4)) (b' := 3073) (zB.of (x := (-4)) (-4) (by decide)) (by decide) (by decide))⟩, hI8, hF8, (by
                                                                                          intro v hv; cases hv
                                                                                          have kk := zGx_k (f := f) (g := g7) (fun j _ => hF7q 1 0 j rfl) (fun q j hj => by rcases (show j = 0 ∨ j = 1 ∨ j = 2 ∨ j = 3 ∨ j = 4 ∨ j = 5 ∨ j = 6 ∨ j = 7 by omega) with rfl | rfl | rfl | rfl | rfl | rfl | rfl | rfl <;> exact hF7q 11 q _ rfl) (fun n j => hF7q 8 n j rfl) (fun n j => hF7q 9 n j rfl) (fun n j => hF7q 10 n j rfl) (fun j => hF7q 6 0 j rfl)
                                                                                          have kq : zQs g7 a1 a2.toInt.toNat = zQs f a1 a2.toInt.toNat := by
                                                                                            funext s
                                                                                            unfold zQs zMTx
                                                                                            rw [hF7q 8 _ _ rfl, hF7q 9 _ _ rfl]
                                                                                          have k7 : g7 1 0 7 = f 1 0 7 := hF7q 1 0 7 rfl
                                                                                          have hr := hp8_0
                                                                                          have hs := zFres_n hI8 hr (by omega)
                                                                                          rw [kk.2.1, kk.2.2.1, kk.2.2.2.1, kq, k7] at hs
                                                                                          exact Or.inr ⟨by omega, none, hs, Or.inl ⟨rfl, rfl⟩⟩), (by
                                                                                          intro v hv; cases hv
                                                                                          have hm := hp8_1
                                                                                          have k7 := hF7q 13 0 7 rfl
                                                                                          rw [k7] at hm
                                                                                          exact hm), (by intro v hv; cases hv; intro n j hn; exact ((hp8_2 n j hn)).trans (((hF7q 6 n j rfl)).trans (rfl)))⟩
      · skip
        have b24x : zB a3 (-2147483648) (-2) := by have q1 := b3; have q2 := (zB.of (x := (-1)) (-1) (by decide)); simp only [z32lt, z32le, z32eq, Int32.reduceToInt, Int32.toInt_zero] at h17_4; constructor <;> omega
        refine z_iconst (pc := 20) (v := -1) C dX9_road_20 (by decide) ?_
        exact z_iret (pc := 21) C hr dX9_road_21 ⟨⟨_, rfl, (zB.wk (a' := (-4)) (b' := 3073) (zB.of (x := (-1)) (-1) (by decide)) (by decide) (by decide))⟩, hI, hF, (by intro v hv; cases hv; exact Or.inl ⟨by omega, rfl⟩), (by intro v hv; cases hv; exact ⟨hp1.1, by omega, hp1.2.2⟩), (by intro v hv; cases hv; intro n j hn; exact rfl)⟩
    · skip
      refine z_if_eq (pc := 12) 20 C dX9_road_12 (by decide) (fun _ => ?_) (fun h => absurd (by decide) h)
      refine z_iconst (pc := 20) (v := -1) C dX9_road_20 (by decide) ?_
      exact z_iret (pc := 21) C hr dX9_road_21 ⟨⟨_, rfl, (zB.wk (a' := (-4)) (b' := 3073) (zB.of (x := (-1)) (-1) (by decide)) (by decide) (by decide))⟩, hI, hF, (by intro v hv; cases hv; exact Or.inl ⟨by omega, rfl⟩), (by intro v hv; cases hv; exact ⟨hp1.1, by omega, hp1.2.2⟩), (by intro v hv; cases hv; intro n j hn; exact rfl)⟩
  · skip
    refine z_if_eq (pc := 4) 20 C dX9_road_4 (by decide) (fun _ => ?_) (fun h => absurd (by decide) h)
    refine z_iconst (pc := 20) (v := -1) C dX9_road_20 (by decide) ?_
    exact z_iret (pc := 21) C hr dX9_road_21 ⟨⟨_, rfl, (zB.wk (a' := (-4)) (b' := 3073) (zB.of (x := (-1)) (-1) (by decide)) (by decide) (by decide))⟩, hI, hF, (by intro v hv; cases hv; exact Or.inl ⟨by omega, rfl⟩), (by intro v hv; cases hv; exact ⟨hp1.1, by omega, hp1.2.2⟩), (by intro v hv; cases hv; intro n j hn; exact rfl)⟩

set_option maxRecDepth 100000 in
set_option maxHeartbeats 4000000 in
theorem y_X9_lands (d : Nat) (f : zM) (hp0 : ((f 6 0 5).toInt = -4 ∨ 0 ≤ (f 6 0 5).toInt)) (hp1 : ((∀ key, (f 14 0 key).toInt ≤ (f 13 0 7).toInt) ∧ (f 13 0 7).toInt < 2147483647 ∧ 0 ≤ (f 13 0 7).toInt)) (hI : zInv f) : ZM (d + 4) yX9_lands cX9_lands 1 (some .int) [zr 0 0] f (fun r g => (∃ v, r = some (zi v) ∧ zB v 0 63) ∧ zInv g ∧ zFr [(6, some 1), (6, some 4), (6, some 5), (6, some 6), (11, some 8), (11, some 9), (13, some 6), (13, some 7), (14, none), (15, none), (16, none)] f g ∧ (∀ v : Int32, r = some (zi v) → ∃ L : Nat → Prop, v = zbf L 6 ∧ zRh_ (zGpx f) (zNsx f) (f 1 0 7).toInt.toNat (zS0x f) L (fun s => s / 3584)) ∧ (∀ v : Int32, r = some (zi v) → ((∀ key, (g 14 0 key).toInt ≤ (g 13 0 7).toInt) ∧ (g 13 0 7).toInt ≤ (f 13 0 7).toInt + 1 ∧ 0 ≤ (g 13 0 7).toInt)) ∧ (∀ v : Int32, r = some (zi v) → (∀ n j, n ≠ 2 → g 6 n j = f 6 n j))) := by
  refine ZM.intro (by decide +kernel) (Nat.le_of_ble_eq_true rfl) ?_
  intro X C hr hn
  have hF : zFr [(6, some 1), (6, some 4), (6, some 5), (6, some 6), (11, some 8), (11, some 9), (13, some 6), (13, some 7), (14, none), (15, none), (16, none)] f f := zFr.rf _ _
  show Z X 0 [some (zr 0 0)] [] f
  refine z_aload_n (pc := 0) C dX9_lands_0 rfl ?_
  refine z_getR (pc := 1) C zf_X9_10 rfl rfl (by decide) dX9_lands_1 ?_
  refine z_callV (pc := 4) C zk_X9_280 (x_X8_weighAll _ _  hI) rfl rfl (by decide) rfl rfl (Nat.le_of_ble_eq_true rfl) dX9_lands_4 (fun r1 g1 q1 => ?_)
  obtain ⟨rfl, hI1, hF1q, hp1_0⟩ := q1
  have hF1 := zFr.tr hF hF1q (by decide)
  simp only [Option.toList, List.cons_append, List.nil_append]
  refine z_aload_n (pc := 7) C dX9_lands_7 rfl ?_
  refine z_getR (pc := 8) C zf_X9_24 rfl rfl (by decide) dX9_lands_8 ?_
  refine z_callV (pc := 11) C zk_X9_293 (y_X5_reach _ _ (by assumption) (by rw [hF1q 6 0 5 rfl]; exact hp0) (by exact ⟨fun key => by rw [hF1q 14 0 key rfl, hF1q 13 0 7 rfl]; exact hp1.1 key, by rw [hF1q 13 0 7 rfl]; exact hp1.2.1, by rw [hF1q 13 0 7 rfl]; exact hp1.2.2⟩) hI1) rfl rfl (by decide) rfl rfl (Nat.le_of_ble_eq_true rfl) dX9_lands_11 (fun r2 g2 q2 => ?_)
  obtain ⟨⟨v2, rfl, b2x⟩, hI2, hF2q, hp2_0, hp2_1, hp2_2⟩ := q2
  have hp2_0 := hp2_0 _ rfl
  have hp2_1 := hp2_1 _ rfl
  have hp2_2 := hp2_2 _ rfl
  have hF2 := zFr.tr hF1 hF2q (by decide)
  simp only [Option.toList, List.cons_append, List.nil_append]
  exact z_iret (pc := 14) C hr dX9_lands_14 ⟨⟨_, rfl, b2x⟩, hI2, hF2, (by
                                                                                          intro v hv; cases hv
                                                                                          have kk := zGx_k (f := f) (g := g1) (fun j _ => hF1q 1 0 j rfl) (fun q j hj => by rcases (show j = 0 ∨ j = 1 ∨ j = 2 ∨ j = 3 ∨ j = 4 ∨ j = 5 ∨ j = 6 ∨ j = 7 by omega) with rfl | rfl | rfl | rfl | rfl | rfl | rfl | rfl <;> exact hF1q 11 q _ rfl) (fun n j => hF1q 8 n j rfl) (fun n j => hF1q 9 n j rfl) (fun n j => hF1q 10 n j rfl) (fun j => hF1q 6 0 j rfl)
                                                                                          have k7 : g1 1 0 7 = f 1 0 7 := hF1q 1 0 7 rfl
                                                                                          have hr := hp2_0
                                                                                          rw [kk.2.1, kk.2.2.1, kk.2.2.2.1, k7] at hr
                                                                                          exact hr), (by
                                                                                          intro v hv; cases hv
                                                                                          have hm := hp2_1
                                                                                          have k7 := hF1q 13 0 7 rfl
                                                                                          rw [k7] at hm
                                                                                          exact hm), (by intro v hv; cases hv; intro n j hn; exact ((hp2_2 n j hn)).trans (((hF1q 6 n j rfl)).trans (rfl)))⟩

theorem qd_road {f g g2 : zM} {v v2 : Int32} {a1 a2 a3 : Int32} (hI : zInv f) (hg : zInv g) (Rc : zRc f) (Rd : zRd f) (Rq : zRq f) (Rp : zRp f) (Rl : zRl f) (Rn : zRn f) (Rm : zRm f) (Ro : zRo f) (hF : zFr [(6, some 1), (6, some 4), (6, some 5), (6, some 6), (11, some 8), (11, some 9), (13, some 6), (13, some 7), (14, none), (15, none), (16, none)] f g) (hG : zFr [(25, some 13), (31, none), (32, none), (33, none), (34, none)] g g2) (hP : (¬ ((0 ≤ a1.toInt ∧ a1.toInt ≤ 5) ∧ (0 ≤ a2.toInt ∧ a2.toInt < (f 1 0 6).toInt) ∧ -1 ≤ a3.toInt) ∧ v = -1) ∨ (((0 ≤ a1.toInt ∧ a1.toInt ≤ 5) ∧ (0 ≤ a2.toInt ∧ a2.toInt < (f 1 0 6).toInt) ∧ -1 ≤ a3.toInt) ∧ ∃ o, zFnd (zQs f a1 a2.toInt.toNat) (zGpx f) (zNsx f) (f 1 0 7).toInt.toNat (zS0x f) o ∧ ((o = none ∧ v = -4) ∨ ∃ w, o = some w ∧ zAns w a3.toInt v))) (hQ : (¬ ((0 ≤ a1.toInt ∧ a1.toInt ≤ 5) ∧ (0 ≤ a2.toInt ∧ a2.toInt < (g 25 0 2).toInt) ∧ -1 ≤ a3.toInt) ∧ v2 = -1) ∨ (((0 ≤ a1.toInt ∧ a1.toInt ≤ 5) ∧ (0 ≤ a2.toInt ∧ a2.toInt < (g 25 0 2).toInt) ∧ -1 ≤ a3.toInt) ∧ ∃ o, zFnd (zQr g a1 a2.toInt.toNat) (zGp g) (zNs g) (g 25 0 4).toInt.toNat (zS0 g) o ∧ ((o = none ∧ v2 = -4) ∨ ∃ w, o = some w ∧ zAns w a3.toInt v2))) : v2 = v := by
  have k25 : g 25 0 = f 25 0 := funext (fun j => hF 25 0 j rfl)
  have k26 : g 26 0 = f 26 0 := funext (fun j => hF 26 0 j rfl)
  have k27 : g 27 0 = f 27 0 := funext (fun j => hF 27 0 j rfl)
  have k28 : g 28 0 = f 28 0 := funext (fun j => hF 28 0 j rfl)
  have k30 : g 30 0 = f 30 0 := funext (fun j => hF 30 0 j rfl)
  obtain ⟨g1, g2_, g3, g4⟩ := zG_k k25 k26 k27 k28 k30
  obtain ⟨r1, r2, r3⟩ := zGx_r hI Rc Rd Rq Rp Rl Rn Rm
  have b12 : (f 1 0 7).toInt ≤ 12 := (hI 1 0 7).2
  rw [g2_, g3, g4, k25, ← r1, ← r2, ← r3, ← Rp.1, ← Rc.1] at hQ
  rcases hP with ⟨p1, p2⟩ | ⟨p1, o, p2, p3⟩ <;> rcases hQ with ⟨q1, q2⟩ | ⟨q1, o2, q2, q3⟩
  · exact q2.trans p2.symm
  · exact absurd q1 p1
  · exact absurd p1 q1
  · have hqr : ∀ s, zQs f a1 a2.toInt.toNat s ↔ zQr g a1 a2.toInt.toNat s := fun s => by
      rw [zQs_r hI Rd Rq Rl Ro p1.1 (by omega)]
      unfold zQr
      rw [k25, k26, k27]
    have ho := zFnd_u (by omega) rfl hqr p2 q2
    subst ho
    rcases p3 with ⟨x1, x2⟩ | ⟨w, x1, x2⟩ <;> rcases q3 with ⟨y1, y2⟩ | ⟨w2, y1, y2⟩
    · exact y2.trans x2.symm
    · rw [x1] at y1; cases y1
    · rw [x1] at y1; cases y1
    · rw [x1] at y1
      injection y1 with y1
      subst y1
      exact zAns_u x2 y2
theorem qd_lands {f g g2 : zM} {v v2 : Int32} (hI : zInv f) (hg : zInv g) (Rc : zRc f) (Rd : zRd f) (Rq : zRq f) (Rp : zRp f) (Rl : zRl f) (Rn : zRn f) (Rm : zRm f) (Ro : zRo f) (hF : zFr [(6, some 1), (6, some 4), (6, some 5), (6, some 6), (11, some 8), (11, some 9), (13, some 6), (13, some 7), (14, none), (15, none), (16, none)] f g) (hG : zFr [(25, some 13), (31, none), (32, none), (33, none), (34, none)] g g2) (hP : ∃ L : Nat → Prop, v = zbf L 6 ∧ zRh_ (zGpx f) (zNsx f) (f 1 0 7).toInt.toNat (zS0x f) L (fun s => s / 3584)) (hQ : ∃ L : Nat → Prop, v2 = zbf L 6 ∧ zRh_ (zGp g) (zNs g) (g 25 0 4).toInt.toNat (zS0 g) L (fun s => s / 3584)) : v2 = v := by
  have k25 : g 25 0 = f 25 0 := funext (fun j => hF 25 0 j rfl)
  have k26 : g 26 0 = f 26 0 := funext (fun j => hF 26 0 j rfl)
  have k27 : g 27 0 = f 27 0 := funext (fun j => hF 27 0 j rfl)
  have k28 : g 28 0 = f 28 0 := funext (fun j => hF 28 0 j rfl)
  have k30 : g 30 0 = f 30 0 := funext (fun j => hF 30 0 j rfl)
  obtain ⟨g1, g2_, g3, g4⟩ := zG_k k25 k26 k27 k28 k30
  obtain ⟨r1, r2, r3⟩ := zGx_r hI Rc Rd Rq Rp Rl Rn Rm
  have b12 : (f 1 0 7).toInt ≤ 12 := (hI 1 0 7).2
  rw [g2_, g3, g4, k25, ← r1, ← r2, ← r3, ← Rp.1] at hQ
  obtain ⟨L, p1, p2⟩ := hP
  obtain ⟨M, q1, q2⟩ := hQ
  rw [p1, q1]
  exact zbf_congr _ (fun l _ => ⟨fun h => zRh_u (by omega) q2 p2 l h, fun h => zRh_u (by omega) p2 q2 l h⟩)
/-- the search's marks are not above its number, that not above the calls so far -/
def zRx (j : Nat) (f : zM) : Prop := (∀ key, (f 14 0 key).toInt ≤ (f 13 0 7).toInt) ∧ (f 13 0 7).toInt ≤ j ∧ 0 ≤ (f 13 0 7).toInt
theorem zRx_k {j : Nat} {f g : zM} (h : zRx j f) (a : g 13 0 7 = f 13 0 7) (b : ∀ k, g 14 0 k = f 14 0 k) : zRx (j + 1) g := by
  refine ⟨fun key => ?_, ?_, ?_⟩
  · rw [a, b]; exact h.1 key
  · rw [a]; have := h.2.1; omega
  · rw [a]; exact h.2.2
theorem zRx_m {j : Nat} {f g g2 : zM} (h : zRx j f) (hm : ((∀ key, (g 14 0 key).toInt ≤ (g 13 0 7).toInt) ∧ (g 13 0 7).toInt ≤ (f 13 0 7).toInt + 1 ∧ 0 ≤ (g 13 0 7).toInt)) (a : g2 13 0 7 = g 13 0 7) (b : ∀ k, g2 14 0 k = g 14 0 k) : zRx (j + 1) g2 := by
  refine ⟨fun key => ?_, ?_, ?_⟩
  · rw [a, b]; exact hm.1 key
  · rw [a]; have := h.2.1; have := hm.2.1; omega
  · rw [a]; exact hm.2.2
theorem zRx_0 : zRx 0 z0 := by
  have e1 : z0 13 0 7 = 0 := rfl
  have e2 : ∀ k, z0 14 0 k = 0 := fun k => rfl
  refine ⟨fun key => ?_, ?_, ?_⟩
  · rw [e1, e2]; exact Int.le_refl _
  · rw [e1]; decide
  · rw [e1]; decide
