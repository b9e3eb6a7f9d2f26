def zAt_ (s : Nat) : Int32 := nI (s / 3584)
def zDi_ (s : Nat) : Int32 := nI (s / 1792 % 2)
def zOn_ (s : Nat) : Int32 := nI (s / 256 % 7) - 1
def zDe_ (s : Nat) : Int32 := nI (s % 256)
def zon (o : Int32) : Nat := if o.toInt < 0 then 0 else o.toInt.toNat + 1
def zcd (al a d o b : Int32) : Nat := ((2 * a.toInt.toNat + d.toInt.toNat) * 7 + zon o) * 256 + (b &&& al).toInt.toNat
def zAl (c : Int32) : Int32 := (1 <<< (c &&& 31)) - 1
theorem zAl_b {c : Int32} (hc : 0 ≤ c.toInt ∧ c.toInt ≤ 8) : 0 ≤ (zAl c).toInt ∧ (zAl c).toInt ≤ 255 ∧ ∀ i, i < 32 → (bt (zAl c) i = true ↔ i < c.toInt.toNat) := by
  have e := (nI_ofI hc.1).1
  have key : ∀ q : Fin 9, 0 ≤ (zAl (nI q.val)).toInt ∧ (zAl (nI q.val)).toInt ≤ 255 ∧ ∀ i : Fin 32, (bt (zAl (nI q.val)) i.val = true ↔ i.val < q.val) := by decide +kernel
  have k := key ⟨c.toInt.toNat, by omega⟩
  simp only at k
  rw [← e] at k
  exact ⟨k.1, k.2.1, fun i hi => k.2.2 ⟨i, hi⟩⟩
theorem zcd_b {al b : Int32} (hl : 0 ≤ al.toInt ∧ al.toInt ≤ 255) : (b &&& al).toInt = ((b &&& al).toInt.toNat : Int) ∧ (b &&& al).toInt.toNat ≤ 255 := by
  have h := zand_b (x := b) (y := al) (zB_any b) (show zB al 0 255 from hl) (by decide)
  have h1 := h.1
  have h2 := h.2
  constructor <;> omega
theorem zcd_x {al a d o b : Int32} (hl : 0 ≤ al.toInt ∧ al.toInt ≤ 255) (ha : 0 ≤ a.toInt ∧ a.toInt ≤ 5) (hd : 0 ≤ d.toInt ∧ d.toInt ≤ 1) (ho : o.toInt ≤ 5) : zcd al a d o b < 21504 ∧ zcd al a d o b / 3584 = a.toInt.toNat ∧ zcd al a d o b / 1792 % 2 = d.toInt.toNat ∧ zcd al a d o b / 256 % 7 = zon o ∧ zcd al a d o b % 256 = (b &&& al).toInt.toNat := by
  have h := (zcd_b (b := b) hl).2
  have h6 : zon o ≤ 6 := by unfold zon; split <;> omega
  unfold zcd
  generalize (b &&& al).toInt.toNat = x at h ⊢
  generalize zon o = y at h6 ⊢
  generalize hA : a.toInt.toNat = p
  generalize hD : d.toInt.toNat = q
  refine ⟨?_, ?_, ?_, ?_, ?_⟩ <;> omega
/-- what a paper lets go in a state; the state in which it leaves him: the reference -/
noncomputable def zGs (f : zM) (s p : Nat) : Int32 := zbf (zgr f p (zAt_ s) (zDi_ s) (zOn_ s) (zDe_ s)) (f 25 0 2).toInt.toNat
def zGp (f : zM) (s p : Nat) : Prop := (p : Int) < (f 25 0 4).toInt ∧ ¬ zGs f s p = 0
noncomputable def zNs (f : zM) (s p : Nat) : Nat := @ite Nat ((p : Int) < (f 25 0 4).toInt) (Classical.propDecidable _) (zcd (zAl (f 25 0 2)) (f 28 0 (8 * p + 2)) (f 28 0 (8 * p + 7) &&& 1) (@ite Int32 (¬ f 28 0 (8 * p + 7) &&& 4 = 0) (Classical.propDecidable _) (zAt_ s) (-4)) (@ite Int32 (¬ f 28 0 (8 * p + 7) &&& 2 = 0) (Classical.propDecidable _) (zGs f s p) 255)) 0
noncomputable def zS0 (f : zM) : Nat := zcd (zAl (f 25 0 2)) (f 30 0 1) (f 30 0 3) (f 30 0 4) (f 30 0 5)
theorem zG_k {f g : zM} (k25 : g 25 0 = f 25 0) (k26 : g 26 0 = f 26 0) (k27 : g 27 0 = f 27 0) (k28 : g 28 0 = f 28 0) (k30 : g 30 0 = f 30 0) : zGs g = zGs f ∧ zGp g = zGp f ∧ zNs g = zNs f ∧ zS0 g = zS0 f := by
  have h1 : zGs g = zGs f := funext (fun s => funext (fun p => by
    unfold zGs
    rw [k25]
    exact zbf_congr _ (fun i _ => by rw [zgr_k k25 k26 k27 k28 k30])))
  refine ⟨h1, ?_, ?_, ?_⟩
  · funext s p; unfold zGp; rw [h1, k25]
  · funext s p; unfold zNs; rw [h1, k25, k28]
  · unfold zS0; rw [k25, k30]
/-- the queue: entries and their ties -/
def zqs (m : zM) (k : Nat) : Nat := (m 34 0 k).toInt.toNat
def zqn (m : zM) : Nat := (m 25 0 13).toInt.toNat
def zQm (f m : zM) (e q : Nat) : Prop :=
  (m 25 0 13).toInt = (zcn (m 32 0) 21504 : Nat) ∧
  (∀ s, s < 21504 → (¬ m 32 0 s = -4 ↔ ∃ k, k < zqn m ∧ zqs m k = s)) ∧
  (∀ j k, j < k → k < zqn m → zqs m j ≠ zqs m k) ∧
  (m 32 0 (zqs m 0) = m 34 0 0) ∧
  ∃ pr pa : Nat → Nat, zBF (zGp f) (zNs f) (f 25 0 4).toInt.toNat (zS0 f) (zqs m) pr pa (zqn m) e q ∧ ∀ k, 0 < k → k < zqn m → m 32 0 (zqs m k) = m 34 0 (pr k) ∧ m 33 0 (zqs m k) = nI (pa k)
theorem zQm_lt {f m : zM} {e q : Nat} (h : zQm f m e q) {s : Nat} (hs : s < 21504) (h4 : m 32 0 s = -4) : (m 25 0 13).toInt < 21504 := by
  have := zcn_lt (m 32 0) h4 21504 hs
  rw [h.1]; omega
theorem zQm_skip {f m : zM} {e q : Nat} (h : zQm f m e q) (hg : zGp f (zqs m e) q → ∃ j, j < zqn m ∧ zqs m j = zNs f (zqs m e) q) : zQm f m e (q + 1) := by
  obtain ⟨h1, h2, h3, h4, pr, pa, h5, h6⟩ := h
  exact ⟨h1, h2, h3, h4, pr, pa, zBF_skip h5 hg, h6⟩
theorem zQm_row {f m : zM} {e q : Nat} (h : zQm f m e q) (hq : (f 25 0 4).toInt.toNat ≤ q) : zQm f m (e + 1) 0 := by
  obtain ⟨h1, h2, h3, h4, pr, pa, h5, h6⟩ := h
  exact ⟨h1, h2, h3, h4, pr, pa, zBF_row h5 hq, h6⟩
/-- a state comes: m' is what come leaves -/
def zcom (m : zM) (s t p : Int32) : zM := zup (zup (zup (zup m 32 0 s.toInt.toNat t) 33 0 s.toInt.toNat p) 34 0 (m 25 0 13).toInt.toNat s) 25 0 13 (m 25 0 13 + 1)
theorem zcom_x {m : zM} {s t p : Int32} : (∀ a b c, ¬ (a = 32 ∧ b = 0 ∧ c = s.toInt.toNat) → ¬ (a = 33 ∧ b = 0 ∧ c = s.toInt.toNat) → ¬ (a = 34 ∧ b = 0 ∧ c = (m 25 0 13).toInt.toNat) → ¬ (a = 25 ∧ b = 0 ∧ c = 13) → zcom m s t p a b c = m a b c) ∧ zcom m s t p 32 0 s.toInt.toNat = t ∧ zcom m s t p 33 0 s.toInt.toNat = p ∧ zcom m s t p 34 0 (m 25 0 13).toInt.toNat = s ∧ zcom m s t p 25 0 13 = m 25 0 13 + 1 := by
  unfold zcom
  refine ⟨fun a b c h1 h2 h3 h4 => ?_, ?_, ?_, ?_, ?_⟩
  · rw [zup_ne _ _ h4, zup_ne _ _ h3, zup_ne _ _ h2, zup_ne _ _ h1]
  · rw [zup_ne _ _ (by omega), zup_ne _ _ (by omega), zup_ne _ _ (by omega), zup_same]
  · rw [zup_ne _ _ (by omega), zup_ne _ _ (by omega), zup_same]
  · rw [zup_ne _ _ (by omega), zup_same]
  · rw [zup_same]
theorem zQm_add {f m : zM} {e q : Nat} {s : Int32} (hm : zInv m) (h : zQm f m e q) (he : e < zqn m) (hq : q < (f 25 0 4).toInt.toNat) (hG : zGp f (zqs m e) q) (hs : s.toInt = (zNs f (zqs m e) q : Nat)) (hs2 : s.toInt < 21504) (h4 : m 32 0 s.toInt.toNat = -4) : zQm f (zcom m s (m 34 0 e) (nI q)) e (q + 1) := by
  have hlt := zQm_lt h (s := s.toInt.toNat) (by omega) h4
  have h13 : 0 ≤ (m 25 0 13).toInt ∧ (m 25 0 13).toInt ≤ 21504 := hm 25 0 13
  have hst : s.toInt.toNat = zNs f (zqs m e) q := by omega
  obtain ⟨h1, h2, h3, h0, pr, pa, h5, h6⟩ := h
  obtain ⟨xo, x32, x33, x34, x13⟩ := zcom_x (m := m) (s := s) (t := m 34 0 e) (p := nI q)
  generalize zcom m s (m 34 0 e) (nI q) = g at xo x32 x33 x34 x13 ⊢
  have es : (m 25 0 13 + 1 : Int32).toInt = (m 25 0 13).toInt + 1 := zadd_eb (x := m 25 0 13) (hm 25 0 13) (zB.of (x := 1) 1 (by decide)) (by decide) (by decide)
  have gn : zqn g = zqn m + 1 := by unfold zqn; rw [x13, es]; omega
  have gs : ∀ k, k < zqn m → zqs g k = zqs m k := fun k hk => by
    unfold zqs
    rw [xo 34 0 k (by omega) (by omega) (by unfold zqn at hk; omega) (by omega)]
  have g34 : ∀ k, k < zqn m → g 34 0 k = m 34 0 k := fun k hk => xo 34 0 k (by omega) (by omega) (by unfold zqn at hk; omega) (by omega)
  have gsn : zqs g (zqn m) = s.toInt.toNat := by unfold zqs; rw [show zqn m = (m 25 0 13).toInt.toNat from rfl, x34]
  have g32 : ∀ i, i ≠ s.toInt.toNat → g 32 0 i = m 32 0 i := fun i hi => xo 32 0 i (by omega) (by omega) (by omega) (by omega)
  have g33 : ∀ i, i ≠ s.toInt.toNat → g 33 0 i = m 33 0 i := fun i hi => xo 33 0 i (by omega) (by omega) (by omega) (by omega)
  have bq : 0 ≤ (m 34 0 e).toInt := (hm 34 0 e).1
  have hne : ¬ m 34 0 e = -4 := fun z => by rw [z] at bq; exact absurd bq (by decide)
  have old : ∀ k, k < zqn m → zqs m k ≠ s.toInt.toNat := fun k hk z => by
    have := (h2 s.toInt.toNat (by omega)).mpr ⟨k, hk, z⟩
    exact this h4
  have n1 : 1 ≤ zqn m := h5.1.1
  refine ⟨?_, fun t ht => ?_, fun j k hjk hk => ?_, ?_, fun k => if k = zqn m then e else pr k, fun k => if k = zqn m then q else pa k, ?_, fun k k0 kn => ?_⟩
  · rw [x13, es, h1, zcn_up (b := m 32 0) (c := g 32 0) h4 (by rw [x32]; exact hne) g32 21504 (by omega)]
    omega
  · rw [gn]
    by_cases z : t = s.toInt.toNat
    · subst z
      rw [x32]
      exact ⟨fun _ => ⟨zqn m, by omega, gsn⟩, fun _ => hne⟩
    · rw [g32 t z, h2 t ht]
      constructor
      · rintro ⟨k, k1, k2⟩; exact ⟨k, by omega, by rw [gs k k1]; exact k2⟩
      · rintro ⟨k, k1, k2⟩
        by_cases y : k = zqn m
        · subst y; rw [gsn] at k2; exact absurd k2.symm z
        · exact ⟨k, by omega, by rw [← gs k (by omega)]; exact k2⟩
  · rw [gn] at hk
    by_cases z : k = zqn m
    · subst z; rw [gsn, gs j hjk]; exact old j hjk
    · rw [gs j (by omega), gs k (by omega)]; exact h3 j k hjk (by omega)
  · rw [gs 0 (by omega), g32 _ (old 0 (by omega)), g34 0 (by omega)]; exact h0
  · rw [gn]
    refine zBF_add h5 he hq hG (fun k hk => ⟨gs k hk, if_neg (by omega), if_neg (by omega)⟩) ⟨by rw [gsn]; exact hst, if_pos rfl, if_pos rfl⟩
  · rw [gn] at kn
    by_cases z : k = zqn m
    · subst z
      show g 32 0 (zqs g (zqn m)) = g 34 0 (if zqn m = zqn m then e else pr (zqn m)) ∧ g 33 0 (zqs g (zqn m)) = nI (if zqn m = zqn m then q else pa (zqn m))
      rw [gsn, x32, x33, if_pos rfl, if_pos rfl, g34 e he]
      exact ⟨rfl, rfl⟩
    · have hp := (h5.2.1 k k0 (by omega)).1
      show g 32 0 (zqs g k) = g 34 0 (if k = zqn m then e else pr k) ∧ g 33 0 (zqs g k) = nI (if k = zqn m then q else pa k)
      rw [gs k (by omega), g32 _ (old k (by omega)), g33 _ (old k (by omega)), if_neg z, if_neg z, g34 (pr k) (by omega)]
      exact h6 k k0 (by omega)
theorem zQm_0 {f m : zM} {s p : Int32} (h : ∀ i, i < 21504 → m 32 0 i = -4) (h0 : m 25 0 13 = 0) (hs : s.toInt = (zS0 f : Nat)) (hs2 : s.toInt < 21504) : zQm f (zcom m s s p) 0 0 := by
  obtain ⟨xo, x32, x33, x34, x13⟩ := zcom_x (m := m) (s := s) (t := s) (p := p)
  generalize zcom m s s p = g at xo x32 x33 x34 x13 ⊢
  rw [h0] at x13 x34
  have z0 : (0 : Int32).toInt.toNat = 0 := by decide
  rw [z0] at x34
  have x13 : g 25 0 13 = 1 := x13
  have gn : zqn g = 1 := by unfold zqn; rw [x13]; decide
  have c4 : (-4 : Int32).toInt = -4 := by decide
  have hne : ¬ s = -4 := fun z => by rw [z, c4] at hs; omega
  have gs : zqs g 0 = s.toInt.toNat := by unfold zqs; rw [x34]
  have g32 : ∀ i, i ≠ s.toInt.toNat → g 32 0 i = m 32 0 i := fun i hi => xo 32 0 i (by omega) (by omega) (by omega) (by omega)
  refine ⟨?_, fun t ht => ?_, fun j k hjk hk => ?_, ?_, fun _ => 0, fun _ => 0, ?_, fun k k0 kn => ?_⟩
  · rw [x13, zcn_up (b := m 32 0) (c := g 32 0) (h _ (by omega)) (by rw [x32]; exact hne) g32 21504 (by omega), zcn_0 21504 h]
    decide
  · rw [gn]
    by_cases z : t = s.toInt.toNat
    · subst z; rw [x32]; exact ⟨fun _ => ⟨0, by omega, gs⟩, fun _ => hne⟩
    · rw [g32 t z, h t ht]
      constructor
      · intro y; exact absurd rfl y
      · rintro ⟨k, k1, k2⟩
        have : k = 0 := by omega
        subst this; rw [gs] at k2; exact absurd k2.symm z
  · rw [gn] at hk; omega
  · rw [gs, x32, x34]
  · rw [gn]; exact zBF_0 (by rw [gs]; omega)
  · rw [gn] at kn; omega
set_option maxRecDepth 100000 in
set_option maxHeartbeats 4000000 in
theorem x_X10_codeOf (d : Nat) (f : zM) (a1 : Int32) (b1 : zB a1 0 5) (a2 : Int32) (b2 : zB a2 0 1) (a3 : Int32) (b3 : zB a3 (-4) 5) (a4 : Int32) (b4 : zB a4 0 255) (hI : zInv f) : ZM (d + 1) yX10_codeOf cX10_codeOf 5 (some .int) [zr 25 0, zi a1, zi a2, zi a3, zi a4] f (fun r g => (∃ v, r = some (zi v) ∧ zB v 0 21503) ∧ zInv g ∧ zFr [] f g ∧ (∀ v : Int32, r = some (zi v) → v.toInt = (zcd (zAl (f 25 0 2)) a1 a2 a3 a4 : Nat))) := by
  refine ZM.intro (by decide +kernel) (Nat.le_of_ble_eq_true rfl) ?_
  intro X C hr hn
  have hF : zFr [] f f := zFr.rf _ _
  show Z X 0 [some (zr 25 0), some (zi a1), some (zi a2), some (zi a3), some (zi a4)] [] f
  refine z_iconst (pc := 0) (v := 2) C dX10_codeOf_0 (by decide) ?_
  refine z_iload_n (pc := 1) C dX10_codeOf_1 rfl ?_
  refine z_imul (pc := 2) C dX10_codeOf_2 ?_
  refine w_gp (fun v => v = (2 : Int32) * a1) rfl (fun v1 q1 => ?_)
  have e1 : v1.toInt = 2 * a1.toInt := by rw [q1]; exact (zmul_kb 2 (by decide) (by decide) b1 (by decide) (by decide))
  have b1x : zB v1 0 10 := zmul_bb e1 (by decide) b1
  refine z_iload_n (pc := 3) C dX10_codeOf_3 rfl ?_
  refine z_iadd (pc := 4) C dX10_codeOf_4 ?_
  refine w_gp (fun v => v = v1 + a2) rfl (fun v2 q2 => ?_)
  have e2 : v2.toInt = v1.toInt + a2.toInt := by rw [q2]; exact (zadd_eb b1x b2 (by decide) (by decide))
  have b2x : zB v2 0 11 := by have q1 := b1x; have q2 := b2; constructor <;> omega
  refine z_bipush (pc := 5) (v := 7) C dX10_codeOf_5 (by decide) ?_
  refine z_imul (pc := 7) C dX10_codeOf_7 ?_
  refine w_gp (fun v => v = v2 * (7 : Int32)) rfl (fun v3 q3 => ?_)
  have e3 : v3.toInt = 7 * v2.toInt := by rw [q3]; exact (by rw [Int32.mul_comm]; exact zmul_kb 7 (by decide) (by decide) b2x (by decide) (by decide))
  have b3x : zB v3 0 77 := zmul_bb e3 (by decide) b2x
  refine z_iload_n (pc := 8) C dX10_codeOf_8 rfl ?_
  refine z_if_ge (pc := 9) 16 C dX10_codeOf_9 (by decide) (fun h9_3 => ?_) (fun h9_3 => ?_)
  · skip
    have b5x : zB a3 0 5 := by have q1 := b3; have q2 := (zB.of (x := 0) 0 (by decide)); simp only [z32lt, z32le, z32eq, Int32.reduceToInt, Int32.toInt_zero] at h9_3; constructor <;> omega
    refine z_iload_n (pc := 16) C dX10_codeOf_16 rfl ?_
    refine z_iconst (pc := 17) (v := 1) C dX10_codeOf_17 (by decide) ?_
    refine z_iadd (pc := 18) C dX10_codeOf_18 ?_
    refine w_gp (fun v => v = a3 + (1 : Int32)) rfl (fun v6 q6 => ?_)
    have e6 : v6.toInt = a3.toInt + 1 := by rw [q6]; exact (zadd_eb b5x (zB.of (x := 1) 1 (by decide)) (by decide) (by decide))
    have b6x : zB v6 1 6 := by have q1 := b5x; have q2 := (zB.of (x := 1) 1 (by decide)); constructor <;> omega
    refine z_iadd (pc := 19) C dX10_codeOf_19 ?_
    refine w_gp (fun v => v = v3 + v6) rfl (fun v7 q7 => ?_)
    have e7 : v7.toInt = v3.toInt + v6.toInt := by rw [q7]; exact (zadd_eb b3x b6x (by decide) (by decide))
    have b7x : zB v7 1 83 := by have q1 := b3x; have q2 := b6x; constructor <;> omega
    refine z_sipush (pc := 20) (v := 256) C dX10_codeOf_20 (by decide) ?_
    refine z_imul (pc := 23) C dX10_codeOf_23 ?_
    refine w_gp (fun v => v = v7 * (256 : Int32)) rfl (fun v8 q8 => ?_)
    have e8 : v8.toInt = 256 * v7.toInt := by rw [q8]; exact (by rw [Int32.mul_comm]; exact zmul_kb 256 (by decide) (by decide) b7x (by decide) (by decide))
    have b8x : zB v8 256 21248 := zmul_bb e8 (by decide) b7x
    refine z_iload (pc := 24) C dX10_codeOf_24 rfl ?_
    refine z_aload_n (pc := 26) C dX10_codeOf_26 rfl ?_
    refine z_callV (pc := 27) C zk_X10_131 (x_X10_allDeeds _ _  hI) rfl rfl (by decide) rfl rfl (Nat.le_of_ble_eq_true rfl) dX10_codeOf_27 (fun r9 g9 q9 => ?_)
    obtain ⟨⟨v9, rfl, b9x⟩, hI9, hF9q, hp9_0⟩ := q9
    have hp9_0 := hp9_0 _ rfl
    obtain rfl := zFr_nil hF9q
    simp only [Option.toList, List.cons_append, List.nil_append]
    refine z_iand (pc := 30) C dX10_codeOf_30 ?_
    refine w_gp (fun v => v = a4 &&& v9) rfl (fun v10 q10 => ?_)
    have b10x : zB v10 0 255 := by rw [q10]; exact (zand_bl b4 b9x (by decide))
    refine z_iadd (pc := 31) C dX10_codeOf_31 ?_
    refine w_gp (fun v => v = v8 + v10) rfl (fun v11 q11 => ?_)
    have e11 : v11.toInt = v8.toInt + v10.toInt := by rw [q11]; exact (zadd_eb b8x b10x (by decide) (by decide))
    have b11x : zB v11 256 21503 := by have q1 := b8x; have q2 := b10x; constructor <;> omega
    exact z_iret (pc := 32) C hr dX10_codeOf_32 ⟨⟨_, rfl, (zB.wk (a' := 0) (b' := 21503) b11x (by decide) (by decide))⟩, hI, hF, (by
                                                                                          intro v hv; cases hv
                                                                                          have hb := hp9_0
                                                                                          have q30 := q10
                                                                                          rw [hb] at q30
                                                                                          have e30 : (v10).toInt = ((a4 &&& zAl (f 25 0 2)).toInt.toNat : Int) := by
                                                                                            have hz : v10 = a4 &&& zAl (f 25 0 2) := q30
                                                                                            rw [← hz]
                                                                                            omega
                                                                                          unfold zcd zon
                                                                                          split <;> omega)⟩
  · skip
    have b12x : zB a3 (-4) (-1) := by have q1 := b3; have q2 := (zB.of (x := 0) 0 (by decide)); simp only [z32lt, z32le, z32eq, Int32.reduceToInt, Int32.toInt_zero] at h9_3; constructor <;> omega
    refine z_iconst (pc := 12) (v := 0) C dX10_codeOf_12 (by decide) ?_
    refine z_goto (pc := 13) 19 C dX10_codeOf_13 (by decide) ?_
    refine z_iadd (pc := 19) C dX10_codeOf_19 ?_
    refine w_gp (fun v => v = v3 + (0 : Int32)) rfl (fun v13 q13 => ?_)
    have e13 : v13.toInt = v3.toInt + 0 := by rw [q13]; exact (zadd_eb b3x (zB.of (x := 0) 0 (by decide)) (by decide) (by decide))
    have b13x : zB v13 0 77 := by have q1 := b3x; have q2 := (zB.of (x := 0) 0 (by decide)); constructor <;> omega
    refine z_sipush (pc := 20) (v := 256) C dX10_codeOf_20 (by decide) ?_
    refine z_imul (pc := 23) C dX10_codeOf_23 ?_
    refine w_gp (fun v => v = v13 * (256 : Int32)) rfl (fun v14 q14 => ?_)
    have e14 : v14.toInt = 256 * v13.toInt := by rw [q14]; exact (by rw [Int32.mul_comm]; exact zmul_kb 256 (by decide) (by decide) b13x (by decide) (by decide))
    have b14x : zB v14 0 19712 := zmul_bb e14 (by decide) b13x
    refine z_iload (pc := 24) C dX10_codeOf_24 rfl ?_
    refine z_aload_n (pc := 26) C dX10_codeOf_26 rfl ?_
    refine z_callV (pc := 27) C zk_X10_131 (x_X10_allDeeds _ _  hI) rfl rfl (by decide) rfl rfl (Nat.le_of_ble_eq_true rfl) dX10_codeOf_27 (fun r15 g15 q15 => ?_)
    obtain ⟨⟨v15, rfl, b15x⟩, hI15, hF15q, hp15_0⟩ := q15
    have hp15_0 := hp15_0 _ rfl
    obtain rfl := zFr_nil hF15q
    simp only [Option.toList, List.cons_append, List.nil_append]
    refine z_iand (pc := 30) C dX10_codeOf_30 ?_
    refine w_gp (fun v => v = a4 &&& v15) rfl (fun v16 q16 => ?_)
    have b16x : zB v16 0 255 := by rw [q16]; exact (zand_bl b4 b15x (by decide))
    refine z_iadd (pc := 31) C dX10_codeOf_31 ?_
    refine w_gp (fun v => v = v14 + v16) rfl (fun v17 q17 => ?_)
    have e17 : v17.toInt = v14.toInt + v16.toInt := by rw [q17]; exact (zadd_eb b14x b16x (by decide) (by decide))
    have b17x : zB v17 0 19967 := by have q1 := b14x; have q2 := b16x; constructor <;> omega
    exact z_iret (pc := 32) C hr dX10_codeOf_32 ⟨⟨_, rfl, (zB.wk (a' := 0) (b' := 21503) b17x (by decide) (by decide))⟩, hI, hF, (by
                                                                                          intro v hv; cases hv
                                                                                          have hb := hp15_0
                                                                                          have q30 := q16
                                                                                          rw [hb] at q30
                                                                                          have e30 : (v16).toInt = ((a4 &&& zAl (f 25 0 2)).toInt.toNat : Int) := by
                                                                                            have hz : v16 = a4 &&& zAl (f 25 0 2) := q30
                                                                                            rw [← hz]
                                                                                            omega
                                                                                          unfold zcd zon
                                                                                          split <;> omega)⟩

set_option maxRecDepth 100000 in
set_option maxHeartbeats 4000000 in
theorem x_X10_come (d : Nat) (f : zM) (a1 : Int32) (b1 : zB a1 0 21503) (a2 : Int32) (b2 : zB a2 0 21503) (a3 : Int32) (b3 : zB a3 (-4) 11) (hp0 : (f 32 0 a1.toInt.toNat = -4 → (f 25 0 13).toInt < 21504)) (hI : zInv f) : ZM d yX10_come cX10_come 4 none [zr 25 0, zi a1, zi a2, zi a3] f (fun r g => r = none ∧ zInv g ∧ zFr [(25, some 13), (32, none), (33, none), (34, none)] f g ∧ ((f 32 0 a1.toInt.toNat = -4 ∧ g = zcom f a1 a2 a3) ∨ (¬ f 32 0 a1.toInt.toNat = -4 ∧ g = f))) := by
  refine ZM.intro (by decide +kernel) (Nat.le_of_ble_eq_true rfl) ?_
  intro X C hr hn
  have hF : zFr [(25, some 13), (32, none), (33, none), (34, none)] f f := zFr.rf _ _
  show Z X 0 [some (zr 25 0), some (zi a1), some (zi a2), some (zi a3)] [] f
  refine z_aload_n (pc := 0) C dX10_come_0 rfl ?_
  refine z_getR (pc := 1) C zf_X10_28 rfl rfl (by decide) dX10_come_1 ?_
  refine z_iload_n (pc := 4) C dX10_come_4 rfl ?_
  refine z_iald (pc := 5) C rfl (by decide) (zIx b1 (by decide) (by decide)) dX10_come_5 ?_
  have kq5_0 : a1.toNatClampNeg = a1.toInt.toNat := rfl
  refine w_gp (fun v => v = f 32 0 a1.toNatClampNeg) rfl (fun v1 q1 => ?_)
  have b1x : zB v1 (-4) 21503 := by rw [q1]; exact (hI 32 0 a1.toNatClampNeg)
  refine z_bipush (pc := 6) (v := -4) C dX10_come_6 (by decide) ?_
  refine z_icmp_ne (pc := 8) 45 C dX10_come_8 (by decide) (fun h8_1 => ?_) (fun h8_1 => ?_)
  · skip
    have b3x : zB v1 (-3) 21503 := by have q1 := b1x; have q2 := (zB.of (x := (-4)) (-4) (by decide)); simp only [z32lt, z32le, z32eq, Int32.reduceToInt, Int32.toInt_zero] at h8_1; constructor <;> omega
    exact z_vret (pc := 45) C hr dX10_come_45 ⟨rfl, hI, hF, (by
                                                                                          have h := q1
                                                                                          rw [show a1.toNatClampNeg = a1.toInt.toNat from rfl] at h
                                                                                          exact Or.inr ⟨fun z => absurd (h.trans z) (by assumption), rfl⟩)⟩
  · skip
    have b4x : zB v1 (-4) (-4) := by have q1 := b1x; have q2 := (zB.of (x := (-4)) (-4) (by decide)); simp only [z32lt, z32le, z32eq, Int32.reduceToInt, Int32.toInt_zero] at h8_1; constructor <;> omega
    refine z_aload_n (pc := 11) C dX10_come_11 rfl ?_
    refine z_getR (pc := 12) C zf_X10_28 rfl rfl (by decide) dX10_come_12 ?_
    refine z_iload_n (pc := 15) C dX10_come_15 rfl ?_
    refine z_iload_n (pc := 16) C dX10_come_16 rfl ?_
    have kw17_4 : a1.toNatClampNeg = a1.toInt.toNat := rfl
    refine z_iast (pc := 17) C rfl (by decide) (zIx b1 (by decide) (by decide)) dX10_come_17 ?_
    refine w_memy hI hF (zB.wk (a' := (-4)) (b' := 21503) b2 (by decide) (by decide)) rfl (fun g5 qm5 hI5 hF5 => ?_)
    refine z_aload_n (pc := 18) C dX10_come_18 rfl ?_
    refine z_getR (pc := 19) C zf_X10_31 rfl rfl (by decide) dX10_come_19 ?_
    refine z_iload_n (pc := 22) C dX10_come_22 rfl ?_
    refine z_iload_n (pc := 23) C dX10_come_23 rfl ?_
    have kw24_5 : a1.toNatClampNeg = a1.toInt.toNat := rfl
    refine z_iast (pc := 24) C rfl (by decide) (zIx b1 (by decide) (by decide)) dX10_come_24 ?_
    refine w_memy hI5 hF5 b3 rfl (fun g6 qm6 hI6 hF6 => ?_)
    refine z_aload_n (pc := 25) C dX10_come_25 rfl ?_
    refine z_getR (pc := 26) C zf_X10_34 rfl rfl (by decide) dX10_come_26 ?_
    refine z_aload_n (pc := 29) C dX10_come_29 rfl ?_
    refine z_getI (pc := 30) C zf_X10_168 rfl rfl (by decide) dX10_come_30 ?_
    refine w_gp (fun v => v = g6 25 0 13) rfl (fun v8 q8 => ?_)
    have b8x : zB v8 0 21504 := by rw [q8]; exact (hI6 25 0 13)
    have hq33 : (f 25 0 13).toInt < 21504 := hp0 (by have h := q1; rw [show a1.toNatClampNeg = a1.toInt.toNat from rfl] at h; rw [← h]; assumption)
    have bq33 : zB v8 0 21503 := by have h := q8; rw [qm6, zup_ne _ _ (by omega), qm5, zup_ne _ _ (by omega)] at h; rw [h]; have q9 := hI 25 0 13; have q8 : 0 ≤ (f 25 0 13).toInt := q9.1; constructor <;> omega
    refine z_iload_n (pc := 33) C dX10_come_33 rfl ?_
    have kw34_8 : v8.toNatClampNeg = v8.toInt.toNat := rfl
    refine z_iast (pc := 34) C rfl (by decide) (zIx bq33 (by decide) (by decide)) dX10_come_34 ?_
    refine w_memy hI6 hF6 b1 rfl (fun g9 qm9 hI9 hF9 => ?_)
    refine z_aload_n (pc := 35) C dX10_come_35 rfl ?_
    refine z_dupr (pc := 36) C dX10_come_36 ?_
    refine z_getI (pc := 37) C zf_X10_168 rfl rfl (by decide) dX10_come_37 ?_
    refine w_gp (fun v => v = g9 25 0 13) rfl (fun v11 q11 => ?_)
    have b11x : zB v11 0 21504 := by rw [q11]; exact (hI9 25 0 13)
    refine z_iconst (pc := 40) (v := 1) C dX10_come_40 (by decide) ?_
    refine z_iadd (pc := 41) C dX10_come_41 ?_
    refine w_gp (fun v => v = v11 + (1 : Int32)) rfl (fun v12 q12 => ?_)
    have e12 : v12.toInt = v11.toInt + 1 := by rw [q12]; exact (zadd_eb b11x (zB.of (x := 1) 1 (by decide)) (by decide) (by decide))
    have b12x : zB v12 1 21505 := by have q1 := b11x; have q2 := (zB.of (x := 1) 1 (by decide)); constructor <;> omega
    have h37 : v11 = f 25 0 13 := by have h := q11; rw [qm9, zup_ne _ _ (by omega), qm6, zup_ne _ _ (by omega), qm5, zup_ne _ _ (by omega)] at h; exact h
    have bq42 : zB v12 0 21504 := by rw [q12, h37, show ((f 25 0 13 + 1 : Int32)) = f 25 0 13 + 1 from rfl]; have q9 : zB (f 25 0 13) 0 21504 := hI 25 0 13; have es := zadd_e (x := f 25 0 13) (y := 1) (by show _ ≤ _ + (1 : Int); have := q9.1; omega) (by show _ + (1 : Int) ≤ _; omega); have c1 : (1 : Int32).toInt = 1 := (by decide); rw [c1] at es; have := q9.1; constructor <;> omega
    refine z_putI (pc := 42) C zf_X10_168 zp_10_13 rfl rfl (by decide) dX10_come_42 ?_
    refine w_memy hI9 hF9 bq42 rfl (fun g13 qm13 hI13 hF13 => ?_)
    exact z_vret (pc := 45) C hr dX10_come_45 ⟨rfl, hI13, hF13, (by
                                                                                          have h := q1
                                                                                          rw [show a1.toNatClampNeg = a1.toInt.toNat from rfl] at h
                                                                                          refine Or.inl ⟨h.symm.trans (by assumption), ?_⟩
                                                                                          have h30 : v8 = f 25 0 13 := by have h := q8; rw [qm6, zup_ne _ _ (by omega), qm5, zup_ne _ _ (by omega)] at h; exact h
                                                                                          have n1 : a1.toNatClampNeg = a1.toInt.toNat := rfl
                                                                                          have n2 : (f 25 0 13).toNatClampNeg = (f 25 0 13).toInt.toNat := rfl
                                                                                          unfold zcom
                                                                                          rw [qm13, qm9, qm6, qm5, q12, h37, h30, n1, n2])⟩

theorem zmg_k2 {f g : zM} {p d : Nat} {x y z : Int32} (c0 : g 25 0 0 = f 25 0 0) (h26 : g 26 0 = f 26 0) (h27 : g 27 0 = f 27 0) (h28 : g 28 0 = f 28 0) : zmg g p d x y z = zmg f p d x y z := by
  unfold zmg; rw [c0, h26, h27, h28]
theorem zgs2 {f m : zM} {p : Nat} {v a d o b : Int32} (hI : zInv f) (c0 : m 25 0 0 = f 25 0 0) (c2 : m 25 0 2 = f 25 0 2) (k26 : m 26 0 = f 26 0) (k27 : m 27 0 = f 27 0) (k28 : m 28 0 = f 28 0) (hO : m 31 0 p = zbf (fun i => zcr f p i ∧ zsr f p i = 0) (f 25 0 2).toInt.toNat) (h : v = zbf (fun i => m 28 0 (8 * p + 1) = a ∧ bt (m 31 0 p) i = true ∧ zmg m p i d o b) (m 25 0 2).toInt.toNat) : v = zbf (zgr f p a d o b) (f 25 0 2).toInt.toNat := by
  have b8 : (f 25 0 2).toInt ≤ 8 := (hI 25 0 2).2
  rw [h, hO, c2, k28]
  refine zbf_congr _ (fun i hi => ?_)
  rw [zmg_k2 c0 k26 k27 k28, zbf_bit (by omega) _ (by omega)]
  constructor
  · rintro ⟨q1, ⟨_, q2⟩, q3⟩; exact ⟨q1, q2, q3⟩
  · rintro ⟨q1, q2, q3⟩; exact ⟨q1, ⟨hi, q2⟩, q3⟩
theorem zdec {x : Int32} (h : zB x 0 21503) : (x - x / 256 * 256) = zDe_ x.toInt.toNat ∧ ((x / 256) - (x / 256) / 7 * 7) - 1 = zOn_ x.toInt.toNat ∧ ((x / 1792) - (x / 1792) / 2 * 2) = zDi_ x.toInt.toNat ∧ x / 3584 = zAt_ x.toInt.toNat := by
  have h0 := h.1
  have h1 := h.2
  have c256 : (256 : Int32).toInt = 256 := by decide
  have c7 : (7 : Int32).toInt = 7 := by decide
  have c1792 : (1792 : Int32).toInt = 1792 := by decide
  have c2 : (2 : Int32).toInt = 2 := by decide
  have c3584 : (3584 : Int32).toInt = 3584 := by decide
  have e1 := zdiv_e (x := x) (y := 256) h0 (by decide)
  have e2 := zdiv_e (x := x) (y := 1792) h0 (by decide)
  have e3 := zdiv_e (x := x) (y := 3584) h0 (by decide)
  have r1 := zrem_e (x := x) (y := 256) h0 (by decide)
  rw [c256] at e1 r1
  rw [c1792] at e2
  rw [c3584] at e3
  have r2 := zrem_e (x := x / 256) (y := 7) (by rw [e1]; omega) (by decide)
  have r3 := zrem_e (x := x / 1792) (y := 2) (by rw [e2]; omega) (by decide)
  rw [c7, e1] at r2
  rw [c2, e2] at r3
  refine ⟨?_, ?_, ?_, ?_⟩
  · unfold zDe_; rw [z32eq, r1, nI_toInt (by omega)]; omega
  · unfold zOn_
    congr 1
    rw [z32eq, r2, nI_toInt (by omega)]; omega
  · unfold zDi_; rw [z32eq, r3, nI_toInt (by omega)]; omega
  · unfold zAt_; rw [z32eq, e3, nI_toInt (by omega)]; omega

set_option maxRecDepth 100000 in
set_option maxHeartbeats 4000000 in
theorem y_X10_findStates (d : Nat) (f : zM)  (hI : zInv f) : ZM (d + 5) yX10_findStates cX10_findStates 11 none [zr 25 0] f (fun r g => r = none ∧ zInv g ∧ zFr [(25, some 13), (31, none), (32, none), (33, none), (34, none)] f g ∧ (zQm f g (zqn g) 0)) := by
  refine ZM.intro (by decide +kernel) (Nat.le_of_ble_eq_true rfl) ?_
  intro X C hr hn
  have hF : zFr [(25, some 13), (31, none), (32, none), (33, none), (34, none)] f f := zFr.rf _ _
  have ct25_0_13 : zB (f 25 0 13) 0 21504 := hI 25 0 13
  have ct25_0_4 : zB (f 25 0 4) 0 12 := hI 25 0 4
  have J : ∀ t : Nat, (∀ a71_1 : Int32, zB a71_1 0 21503 → ∀ a71_2 : Int32, zB a71_2 0 21504 → ∀ g : zM, zInv g → zFr [(25, some 13), (31, none), (32, none), (33, none), (34, none)] f g → zB (g 25 0 4) 0 12 → zB (g 25 0 13) 0 21504 → ((∀ q : Nat, (q : Int) < (f 25 0 4).toInt → g 31 0 q = zbf (fun i => zcr f q i ∧ zsr f q i = 0) (f 25 0 2).toInt.toNat)) → (zQm f g a71_2.toInt.toNat 0) → (a71_2.toInt ≤ (g 25 0 13).toInt) → ((g 25 0 4).toInt = (f 25 0 4).toInt) → (53 + 56 * (21504 - a71_2.toInt) : Int) < t → Z X 71 [some (zr 25 0), some (zi a71_1), some (zi a71_2), none, none, none, none, none, none, none, none] [] g) ∧ (∀ a124_1 : Int32, zB a124_1 0 21503 → ∀ a124_2 : Int32, zB a124_2 0 21503 → ∀ a124_3 : Int32, zB a124_3 0 21503 → ∀ a124_4 : Int32, zB a124_4 0 255 → ∀ a124_5 : Int32, zB a124_5 (-1) 5 → ∀ a124_6 : Int32, zB a124_6 0 1 → ∀ a124_7 : Int32, zB a124_7 0 5 → ∀ a124_8 : Int32, zB a124_8 0 12 → ∀ g : zM, zInv g → zFr [(25, some 13), (31, none), (32, none), (33, none), (34, none)] f g → zB (g 25 0 4) 0 12 → zB (g 25 0 13) 0 21504 → ((∀ q : Nat, (q : Int) < (f 25 0 4).toInt → g 31 0 q = zbf (fun i => zcr f q i ∧ zsr f q i = 0) (f 25 0 2).toInt.toNat)) → (zQm f g a124_2.toInt.toNat a124_8.toInt.toNat) → (a124_3 = g 34 0 a124_2.toInt.toNat) → ((a124_4 = zDe_ a124_3.toInt.toNat ∧ a124_5 = zOn_ a124_3.toInt.toNat ∧ a124_6 = zDi_ a124_3.toInt.toNat ∧ a124_7 = zAt_ a124_3.toInt.toNat)) → (a124_2.toInt < (g 25 0 13).toInt) → (a124_8.toInt ≤ (f 25 0 4).toInt) → ((g 25 0 4).toInt = (f 25 0 4).toInt) → (0 + 4 * (12 - a124_8.toInt) + 56 * (21504 - a124_2.toInt) : Int) < t → Z X 124 [some (zr 25 0), some (zi a124_1), some (zi a124_2), some (zi a124_3), some (zi a124_4), some (zi a124_5), some (zi a124_6), some (zi a124_7), some (zi a124_8), none, none] [] g) := by
    intro t
    induction t with
    | zero =>
      refine ⟨?_, ?_⟩ <;> (intros; exfalso; omega)
    | succ t ih =>
      obtain ⟨ih0, ih1⟩ := ih
      refine ⟨?_, ?_⟩
      · skip
        intro a71_1 b71_1 a71_2 b71_2 g71_ hI71_ hF71_ f71_25_0_4 f71_25_0_13 hR71_0 hR71_1 hR71_2 hR71_3 hM71_
        refine z_iload_n (pc := 71) C dX10_findStates_71 rfl ?_
        refine z_aload_n (pc := 72) C dX10_findStates_72 rfl ?_
        refine z_getI (pc := 73) C zf_X10_168 rfl rfl (by decide) dX10_findStates_73 ?_
        refine w_gp (fun v => v = g71_ 25 0 13) rfl (fun v1 q1 => ?_)
        have e1 : v1.toInt = (g71_ 25 0 13).toInt := by rw [q1]
        have b1x : zB v1 0 21504 := by first | exact zB.eqv e1 f71_25_0_13 | (have q9 := f71_25_0_13; constructor <;> omega)
        refine z_icmp_ge (pc := 76) 237 C dX10_findStates_76 (by decide) (fun h76_1 => ?_) (fun h76_1 => ?_)
        · skip
          have rr3 : a71_2.toInt ≥ v1.toInt := by simp only [z32lt, z32le, z32eq] at h76_1; omega
          exact z_vret (pc := 237) C hr dX10_findStates_237 ⟨rfl, hI71_, hF71_, (by
                                                                                          have hn2 : zqn g71_ = a71_2.toInt.toNat := by unfold zqn; omega
                                                                                          rw [hn2]; exact hR71_1)⟩
        · skip
          have rr4 : a71_2.toInt < v1.toInt := by simp only [z32lt, z32le, z32eq] at h76_1; omega
          have b5x : zB a71_2 0 21503 := by have q1 := b71_2; have q2 := b1x; simp only [z32lt, z32le, z32eq, Int32.reduceToInt, Int32.toInt_zero] at h76_1; constructor <;> omega
          have b6x : zB v1 1 21504 := by have q1 := b71_2; have q2 := b1x; simp only [z32lt, z32le, z32eq, Int32.reduceToInt, Int32.toInt_zero] at h76_1; constructor <;> omega
          have c7x : zB (g71_ 25 0 13) 1 21504 := by first | assumption | (constructor <;> omega)
          refine z_aload_n (pc := 79) C dX10_findStates_79 rfl ?_
          refine z_getR (pc := 80) C zf_X10_34 rfl rfl (by decide) dX10_findStates_80 ?_
          refine z_iload_n (pc := 83) C dX10_findStates_83 rfl ?_
          refine z_iald (pc := 84) C rfl (by decide) (zIx b5x (by decide) (by decide)) dX10_findStates_84 ?_
          have kq84_7 : a71_2.toNatClampNeg = a71_2.toInt.toNat := rfl
          refine w_gp (fun v => v = g71_ 34 0 a71_2.toNatClampNeg) rfl (fun v8 q8 => ?_)
          have b8x : zB v8 0 21503 := by rw [q8]; exact (hI71_ 34 0 a71_2.toNatClampNeg)
          refine z_istore_n (pc := 85) C dX10_findStates_85 (by rw [hn]; decide) rfl ?_
          refine z_iload_n (pc := 86) C dX10_findStates_86 rfl ?_
          refine z_sipush (pc := 87) (v := 256) C dX10_findStates_87 (by decide) ?_
          refine z_irem (pc := 90) C dX10_findStates_90 (by decide) ?_
          refine w_gp (fun v => v = v8 - v8 / (256 : Int32) * (256 : Int32)) rfl (fun v9 q9 => ?_)
          have b9x : zB v9 0 255 := by rw [q9]; exact (zrem_b 256 b8x (by decide) (by decide) (by decide))
          refine z_istore (pc := 91) C dX10_findStates_91 (by rw [hn]; decide) rfl ?_
          refine z_iload_n (pc := 93) C dX10_findStates_93 rfl ?_
          refine z_sipush (pc := 94) (v := 256) C dX10_findStates_94 (by decide) ?_
          refine z_idiv (pc := 97) C dX10_findStates_97 (by decide) ?_
          refine w_gp (fun v => v = v8 / (256 : Int32)) rfl (fun v10 q10 => ?_)
          have b10x : zB v10 0 83 := by rw [q10]; exact (zdiv_b 256 b8x (by decide) (by decide) (by decide))
          refine z_bipush (pc := 98) (v := 7) C dX10_findStates_98 (by decide) ?_
          refine z_irem (pc := 100) C dX10_findStates_100 (by decide) ?_
          refine w_gp (fun v => v = v10 - v10 / (7 : Int32) * (7 : Int32)) rfl (fun v11 q11 => ?_)
          have b11x : zB v11 0 6 := by rw [q11]; exact (zrem_b 7 b10x (by decide) (by decide) (by decide))
          refine z_iconst (pc := 101) (v := 1) C dX10_findStates_101 (by decide) ?_
          refine z_isub (pc := 102) C dX10_findStates_102 ?_
          refine w_gp (fun v => v = v11 - (1 : Int32)) rfl (fun v12 q12 => ?_)
          have e12 : v12.toInt = v11.toInt - 1 := by rw [q12]; exact (zsub_eb b11x (zB.of (x := 1) 1 (by decide)) (by decide) (by decide))
          have b12x : zB v12 (-1) 5 := by have q1 := b11x; have q2 := (zB.of (x := 1) 1 (by decide)); constructor <;> omega
          refine z_istore (pc := 103) C dX10_findStates_103 (by rw [hn]; decide) rfl ?_
          refine z_iload_n (pc := 105) C dX10_findStates_105 rfl ?_
          refine z_sipush (pc := 106) (v := 1792) C dX10_findStates_106 (by decide) ?_
          refine z_idiv (pc := 109) C dX10_findStates_109 (by decide) ?_
          refine w_gp (fun v => v = v8 / (1792 : Int32)) rfl (fun v13 q13 => ?_)
          have b13x : zB v13 0 11 := by rw [q13]; exact (zdiv_b 1792 b8x (by decide) (by decide) (by decide))
          refine z_iconst (pc := 110) (v := 2) C dX10_findStates_110 (by decide) ?_
          refine z_irem (pc := 111) C dX10_findStates_111 (by decide) ?_
          refine w_gp (fun v => v = v13 - v13 / (2 : Int32) * (2 : Int32)) rfl (fun v14 q14 => ?_)
          have b14x : zB v14 0 1 := by rw [q14]; exact (zrem_b 2 b13x (by decide) (by decide) (by decide))
          refine z_istore (pc := 112) C dX10_findStates_112 (by rw [hn]; decide) rfl ?_
          refine z_iload_n (pc := 114) C dX10_findStates_114 rfl ?_
          refine z_sipush (pc := 115) (v := 3584) C dX10_findStates_115 (by decide) ?_
          refine z_idiv (pc := 118) C dX10_findStates_118 (by decide) ?_
          refine w_gp (fun v => v = v8 / (3584 : Int32)) rfl (fun v15 q15 => ?_)
          have b15x : zB v15 0 5 := by rw [q15]; exact (zdiv_b 3584 b8x (by decide) (by decide) (by decide))
          refine z_istore (pc := 119) C dX10_findStates_119 (by rw [hn]; decide) rfl ?_
          refine z_iconst (pc := 121) (v := 0) C dX10_findStates_121 (by decide) ?_
          refine z_istore (pc := 122) C dX10_findStates_122 (by rw [hn]; decide) rfl ?_
          exact ih1 a71_1 b71_1 a71_2 b5x v8 b8x v9 b9x v12 b12x v14 b14x v15 b15x 0 (zB.wk (a' := 0) (b' := 12) (zB.of (x := 0) 0 (by decide)) (by decide) (by decide)) g71_ hI71_ hF71_ f71_25_0_4 (zB.wk c7x (by decide) (by decide)) (by exact hR71_0) (by exact hR71_1) (by exact q8) (by
                                                                                          have hz := zdec (x := v8) (by omega)
                                                                                          have e90 := q9
                                                                                          have e100 : v11 = v8 / 256 - v8 / 256 / 7 * 7 := by rw [q11, q10]
                                                                                          have e102 : v12 = v8 / 256 - v8 / 256 / 7 * 7 - 1 := by rw [q12, e100]
                                                                                          have e111 : v14 = v8 / 1792 - v8 / 1792 / 2 * 2 := by rw [q14, q13]
                                                                                          exact ⟨e90.trans hz.1, e102.trans hz.2.1, e111.trans hz.2.2.1, (q15).trans hz.2.2.2⟩) (by omega) (by have qc0 : (0 : Int32).toInt = 0 := (by decide); omega) (by have qc0 : (0 : Int32).toInt = 0 := (by decide); omega) (by have qc0 : (0 : Int32).toInt = 0 := (by decide); omega)
      · skip
        intro a124_1 b124_1 a124_2 b124_2 a124_3 b124_3 a124_4 b124_4 a124_5 b124_5 a124_6 b124_6 a124_7 b124_7 a124_8 b124_8 g124_ hI124_ hF124_ f124_25_0_4 f124_25_0_13 hR124_0 hR124_1 hR124_2 hR124_3 hR124_4 hR124_5 hR124_6 hM124_
        refine z_iload (pc := 124) C dX10_findStates_124 rfl ?_
        refine z_aload_n (pc := 126) C dX10_findStates_126 rfl ?_
        refine z_getI (pc := 127) C zf_X10_77 rfl rfl (by decide) dX10_findStates_127 ?_
        refine w_gp (fun v => v = g124_ 25 0 4) rfl (fun v16 q16 => ?_)
        have e16 : v16.toInt = (g124_ 25 0 4).toInt := by rw [q16]
        have b16x : zB v16 0 12 := by first | exact zB.eqv e16 f124_25_0_4 | (have q9 := f124_25_0_4; constructor <;> omega)
        refine z_icmp_ge (pc := 130) 231 C dX10_findStates_130 (by decide) (fun h130_16 => ?_) (fun h130_16 => ?_)
        · skip
          have rr18 : a124_8.toInt ≥ v16.toInt := by simp only [z32lt, z32le, z32eq] at h130_16; omega
          refine z_iinc (pc := 231) (v := 1) C dX10_findStates_231 rfl (by decide) (by rw [hn]; decide) rfl ?_
          obtain ⟨v19, hv19, e19⟩ : ∃ v : Int32, v = a124_2 + 1 ∧ v.toInt = a124_2.toInt + 1 := ⟨_, rfl, zadd_eb b124_2 (zB.of (x := 1) 1 (by decide)) (by decide) (by decide)⟩
          rw [← hv19]
          have b19x : zB v19 1 21504 := by have q9 := b124_2; constructor <;> omega
          refine z_goto (pc := 234) 71 C dX10_findStates_234 (by decide) ?_
          refine w_mask [3, 4, 5, 6, 7, 8] ?_
          exact ih0 a124_1 b124_1 v19 (zB.wk (a' := 0) (b' := 21504) b19x (by decide) (by decide)) g124_ hI124_ hF124_ f124_25_0_4 f124_25_0_13 (by exact hR124_0) (by
                                                                                          have hn2 : (v19).toInt.toNat = a124_2.toInt.toNat + 1 := by omega
                                                                                          rw [hn2]; exact zQm_row hR124_1 (by omega)) (by omega) (by omega) (by omega)
        · skip
          have rr20 : a124_8.toInt < v16.toInt := by simp only [z32lt, z32le, z32eq] at h130_16; omega
          have b21x : zB a124_8 0 11 := by have q1 := b124_8; have q2 := b16x; simp only [z32lt, z32le, z32eq, Int32.reduceToInt, Int32.toInt_zero] at h130_16; constructor <;> omega
          have b22x : zB v16 1 12 := by have q1 := b124_8; have q2 := b16x; simp only [z32lt, z32le, z32eq, Int32.reduceToInt, Int32.toInt_zero] at h130_16; constructor <;> omega
          have c23x : zB (g124_ 25 0 4) 1 12 := by first | assumption | (constructor <;> omega)
          refine z_aload_n (pc := 133) C dX10_findStates_133 rfl ?_
          refine z_iload (pc := 134) C dX10_findStates_134 rfl ?_
          refine z_iload (pc := 136) C dX10_findStates_136 rfl ?_
          refine z_iload (pc := 138) C dX10_findStates_138 rfl ?_
          refine z_iload (pc := 140) C dX10_findStates_140 rfl ?_
          refine z_iload (pc := 142) C dX10_findStates_142 rfl ?_
          refine z_callV (pc := 144) C zk_X10_147 (x_X10_goes _ _ a124_8 b21x a124_7 b124_7 a124_6 b124_6 a124_5 (zB.wk (a' := (-4)) (b' := 5) b124_5 (by decide) (by decide)) a124_4 b124_4 hI124_) rfl rfl (by decide) rfl rfl (Nat.le_of_ble_eq_true rfl) dX10_findStates_144 (fun r24 g24 q24 => ?_)
          obtain ⟨⟨v24, rfl, b24x⟩, hI24, hF24q, hp24_0⟩ := q24
          have hp24_0 := hp24_0 _ rfl
          obtain rfl := zFr_nil hF24q
          simp only [Option.toList, List.cons_append, List.nil_append]
          refine z_istore (pc := 147) C dX10_findStates_147 (by rw [hn]; decide) rfl ?_
          refine z_iload (pc := 149) C dX10_findStates_149 rfl ?_
          refine z_if_eq (pc := 151) 225 C dX10_findStates_151 (by decide) (fun h151_24 => ?_) (fun h151_24 => ?_)
          · skip
            have b26x : zB v24 0 0 := by have q1 := b24x; have q2 := (zB.of (x := 0) 0 (by decide)); simp only [z32lt, z32le, z32eq, Int32.reduceToInt, Int32.toInt_zero] at h151_24; constructor <;> omega
            refine z_iinc (pc := 225) (v := 1) C dX10_findStates_225 rfl (by decide) (by rw [hn]; decide) rfl ?_
            obtain ⟨v27, hv27, e27⟩ : ∃ v : Int32, v = a124_8 + 1 ∧ v.toInt = a124_8.toInt + 1 := ⟨_, rfl, zadd_eb b21x (zB.of (x := 1) 1 (by decide)) (by decide) (by decide)⟩
            rw [← hv27]
            have b27x : zB v27 1 12 := by have q9 := b21x; constructor <;> omega
            refine z_goto (pc := 228) 124 C dX10_findStates_228 (by decide) ?_
            refine w_mask [9] ?_
            exact ih1 a124_1 b124_1 a124_2 b124_2 a124_3 b124_3 a124_4 b124_4 a124_5 b124_5 a124_6 b124_6 a124_7 b124_7 v27 (zB.wk (a' := 0) (b' := 12) b27x (by decide) (by decide)) g124_ hI124_ hF124_ (zB.wk c23x (by decide) (by decide)) f124_25_0_13 (by exact hR124_0) (by
                                                                                          have hn8 : (v27).toInt.toNat = a124_8.toInt.toNat + 1 := by omega
                                                                                          have hi8 : a124_8 = nI a124_8.toInt.toNat := (nI_ofI (by omega)).1
                                                                                          have c0 : g124_ 25 0 0 = f 25 0 0 := hF124_ 25 0 0 rfl
                                                                                          have c2 : g124_ 25 0 2 = f 25 0 2 := hF124_ 25 0 2 rfl
                                                                                          have k26 : g124_ 26 0 = f 26 0 := funext (fun j => hF124_ 26 0 j rfl)
                                                                                          have k27 : g124_ 27 0 = f 27 0 := funext (fun j => hF124_ 27 0 j rfl)
                                                                                          have k28 : g124_ 28 0 = f 28 0 := funext (fun j => hF124_ 28 0 j rfl)
                                                                                          have k30 : g124_ 30 0 = f 30 0 := funext (fun j => hF124_ 30 0 j rfl)
                                                                                          have hv := zgs2 (f := f) hI c0 c2 k26 k27 k28 (hR124_0 a124_8.toInt.toNat (by omega)) hp24_0
                                                                                          obtain ⟨d4, d5, d6, d7⟩ := hR124_3
                                                                                          have hqs : zqs g124_ a124_2.toInt.toNat = a124_3.toInt.toNat := by unfold zqs; rw [← hR124_2]
                                                                                          have hgs : v24 = zGs f (zqs g124_ a124_2.toInt.toNat) a124_8.toInt.toNat := by
                                                                                            unfold zGs
                                                                                            rw [hqs, ← d4, ← d5, ← d6, ← d7]; exact hv
                                                                                          rw [hn8]
                                                                                          exact zQm_skip hR124_1 (fun h => absurd (hgs.symm.trans (by assumption)) h.2)) (by exact hR124_2) (by exact hR124_3) (by exact hR124_4) (by omega) (by omega) (by omega)
          · skip
            have b28x : zB v24 1 255 := by have q1 := b24x; have q2 := (zB.of (x := 0) 0 (by decide)); simp only [z32lt, z32le, z32eq, Int32.reduceToInt, Int32.toInt_zero] at h151_24; constructor <;> omega
            refine z_aload_n (pc := 154) C dX10_findStates_154 rfl ?_
            refine z_getR (pc := 155) C zf_X10_16 rfl rfl (by decide) dX10_findStates_155 ?_
            refine z_bipush (pc := 158) (v := 8) C dX10_findStates_158 (by decide) ?_
            refine z_iload (pc := 160) C dX10_findStates_160 rfl ?_
            refine z_imul (pc := 162) C dX10_findStates_162 ?_
            refine w_gp (fun v => v = (8 : Int32) * a124_8) rfl (fun v29 q29 => ?_)
            have e29 : v29.toInt = 8 * a124_8.toInt := by rw [q29]; exact (zmul_kb 8 (by decide) (by decide) b21x (by decide) (by decide))
            have b29x : zB v29 0 88 := zmul_bb e29 (by decide) b21x
            refine z_bipush (pc := 163) (v := 7) C dX10_findStates_163 (by decide) ?_
            refine z_iadd (pc := 165) C dX10_findStates_165 ?_
            refine w_gp (fun v => v = v29 + (7 : Int32)) rfl (fun v30 q30 => ?_)
            have e30 : v30.toInt = v29.toInt + 7 := by rw [q30]; exact (zadd_eb b29x (zB.of (x := 7) 7 (by decide)) (by decide) (by decide))
            have b30x : zB v30 7 95 := by have q1 := b29x; have q2 := (zB.of (x := 7) 7 (by decide)); constructor <;> omega
            refine z_iald (pc := 166) C rfl (by decide) (zIx b30x (by decide) (by decide)) dX10_findStates_166 ?_
            have kq166_30 : v30.toNatClampNeg = v30.toInt.toNat := rfl
            refine w_gp (fun v => v = g124_ 28 0 v30.toNatClampNeg) rfl (fun v31 q31 => ?_)
            have b31x : zB v31 0 7 := by rw [q31]; exact (by have hq9 := hI124_ 28 0 v30.toNatClampNeg; rw [zrg28 (r := 7) (by have hq : v30.toNatClampNeg = v30.toInt.toNat := rfl; have hq2 := b30x; omega)] at hq9; exact hq9)
            refine z_istore (pc := 167) C dX10_findStates_167 (by rw [hn]; decide) rfl ?_
            refine z_aload_n (pc := 169) C dX10_findStates_169 rfl ?_
            refine z_aload_n (pc := 170) C dX10_findStates_170 rfl ?_
            refine z_aload_n (pc := 171) C dX10_findStates_171 rfl ?_
            refine z_getR (pc := 172) C zf_X10_16 rfl rfl (by decide) dX10_findStates_172 ?_
            refine z_bipush (pc := 175) (v := 8) C dX10_findStates_175 (by decide) ?_
            refine z_iload (pc := 177) C dX10_findStates_177 rfl ?_
            refine z_imul (pc := 179) C dX10_findStates_179 ?_
            refine w_gp (fun v => v = (8 : Int32) * a124_8) rfl (fun v32 q32 => ?_)
            have e32 : v32.toInt = 8 * a124_8.toInt := by rw [q32]; exact (zmul_kb 8 (by decide) (by decide) b21x (by decide) (by decide))
            have b32x : zB v32 0 88 := zmul_bb e32 (by decide) b21x
            refine z_iconst (pc := 180) (v := 2) C dX10_findStates_180 (by decide) ?_
            refine z_iadd (pc := 181) C dX10_findStates_181 ?_
            refine w_gp (fun v => v = v32 + (2 : Int32)) rfl (fun v33 q33 => ?_)
            have e33 : v33.toInt = v32.toInt + 2 := by rw [q33]; exact (zadd_eb b32x (zB.of (x := 2) 2 (by decide)) (by decide) (by decide))
            have b33x : zB v33 2 90 := by have q1 := b32x; have q2 := (zB.of (x := 2) 2 (by decide)); constructor <;> omega
            refine z_iald (pc := 182) C rfl (by decide) (zIx b33x (by decide) (by decide)) dX10_findStates_182 ?_
            have kq182_33 : v33.toNatClampNeg = v33.toInt.toNat := rfl
            refine w_gp (fun v => v = g124_ 28 0 v33.toNatClampNeg) rfl (fun v34 q34 => ?_)
            have b34x : zB v34 0 5 := by rw [q34]; exact (by have hq9 := hI124_ 28 0 v33.toNatClampNeg; rw [zrg28 (r := 2) (by have hq : v33.toNatClampNeg = v33.toInt.toNat := rfl; have hq2 := b33x; omega)] at hq9; exact hq9)
            refine z_iload (pc := 183) C dX10_findStates_183 rfl ?_
            refine z_iconst (pc := 185) (v := 1) C dX10_findStates_185 (by decide) ?_
            refine z_iand (pc := 186) C dX10_findStates_186 ?_
            refine w_gp (fun v => v = v31 &&& (1 : Int32)) rfl (fun v35 q35 => ?_)
            have b35x : zB v35 0 1 := by rw [q35]; exact (zand_b b31x (zB.of (x := 1) 1 (by decide)) (by decide))
            refine z_iload (pc := 187) C dX10_findStates_187 rfl ?_
            refine z_iconst (pc := 189) (v := 4) C dX10_findStates_189 (by decide) ?_
            refine z_iand (pc := 190) C dX10_findStates_190 ?_
            refine w_gp (fun v => v = v31 &&& (4 : Int32)) rfl (fun v36 q36 => ?_)
            have b36x : zB v36 0 4 := by rw [q36]; exact (zand_b b31x (zB.of (x := 4) 4 (by decide)) (by decide))
            refine z_if_eq (pc := 191) 199 C dX10_findStates_191 (by decide) (fun h191_36 => ?_) (fun h191_36 => ?_)
            · skip
              have b38x : zB v36 0 0 := by have q1 := b36x; have q2 := (zB.of (x := 0) 0 (by decide)); simp only [z32lt, z32le, z32eq, Int32.reduceToInt, Int32.toInt_zero] at h191_36; constructor <;> omega
              refine z_bipush (pc := 199) (v := -4) C dX10_findStates_199 (by decide) ?_
              refine z_iload (pc := 201) C dX10_findStates_201 rfl ?_
              refine z_iconst (pc := 203) (v := 2) C dX10_findStates_203 (by decide) ?_
              refine z_iand (pc := 204) C dX10_findStates_204 ?_
              refine w_gp (fun v => v = v31 &&& (2 : Int32)) rfl (fun v39 q39 => ?_)
              have b39x : zB v39 0 2 := by rw [q39]; exact (zand_b b31x (zB.of (x := 2) 2 (by decide)) (by decide))
              refine z_if_eq (pc := 205) 213 C dX10_findStates_205 (by decide) (fun h205_39 => ?_) (fun h205_39 => ?_)
              · skip
                have b41x : zB v39 0 0 := by have q1 := b39x; have q2 := (zB.of (x := 0) 0 (by decide)); simp only [z32lt, z32le, z32eq, Int32.reduceToInt, Int32.toInt_zero] at h205_39; constructor <;> omega
                refine z_sipush (pc := 213) (v := 255) C dX10_findStates_213 (by decide) ?_
                refine z_callV (pc := 216) C zk_X10_171 (x_X10_codeOf _ _ v34 b34x v35 b35x (-4) (zB.wk (a' := (-4)) (b' := 5) (zB.of (x := (-4)) (-4) (by decide)) (by decide) (by decide)) 255 (zB.wk (a' := 0) (b' := 255) (zB.of (x := 255) 255 (by decide)) (by decide) (by decide)) hI124_) rfl rfl (by decide) rfl rfl (Nat.le_of_ble_eq_true rfl) dX10_findStates_216 (fun r42 g42 q42 => ?_)
                have qa42_m4 : ((-4) : Int32).toInt = (-4) := by decide
                have qa42_255 : (255 : Int32).toInt = 255 := by decide
                obtain ⟨⟨v42, rfl, b42x⟩, hI42, hF42q, hp42_0⟩ := q42
                have hp42_0 := hp42_0 _ rfl
                obtain rfl := zFr_nil hF42q
                simp only [Option.toList, List.cons_append, List.nil_append]
                refine z_iload_n (pc := 219) C dX10_findStates_219 rfl ?_
                refine z_iload (pc := 220) C dX10_findStates_220 rfl ?_
                refine z_callV (pc := 222) C zk_X10_175 (x_X10_come _ _ v42 b42x a124_3 b124_3 a124_8 (zB.wk (a' := (-4)) (b' := 11) b21x (by decide) (by decide)) (by exact fun h => zQm_lt hR124_1 (by omega) h) hI124_) rfl rfl (by decide) rfl rfl (Nat.le_of_ble_eq_true rfl) dX10_findStates_222 (fun r43 g43 q43 => ?_)
                obtain ⟨rfl, hI43, hF43q, hp43_0⟩ := q43
                have hF43 := zFr.tr hF124_ hF43q (by decide)
                simp only [Option.toList, List.cons_append, List.nil_append]
                have cr43_25_0_13 : zB (g43 25 0 13) 0 21504 := hI43 25 0 13
                have ek43_25_0_4 : (g43 25 0 4).toInt = (g124_ 25 0 4).toInt := by rw [hF43q 25 0 4 rfl]
                have c43_25_0_4x : zB (g43 25 0 4) 1 12 := by rw [hF43q 25 0 4 rfl]; exact c23x
                refine z_iinc (pc := 225) (v := 1) C dX10_findStates_225 rfl (by decide) (by rw [hn]; decide) rfl ?_
                obtain ⟨v44, hv44, e44⟩ : ∃ v : Int32, v = a124_8 + 1 ∧ v.toInt = a124_8.toInt + 1 := ⟨_, rfl, zadd_eb b21x (zB.of (x := 1) 1 (by decide)) (by decide) (by decide)⟩
                rw [← hv44]
                have b44x : zB v44 1 12 := by have q9 := b21x; constructor <;> omega
                refine z_goto (pc := 228) 124 C dX10_findStates_228 (by decide) ?_
                refine w_mask [9, 10] ?_
                exact ih1 a124_1 b124_1 a124_2 b124_2 a124_3 b124_3 a124_4 b124_4 a124_5 b124_5 a124_6 b124_6 a124_7 b124_7 v44 (zB.wk (a' := 0) (b' := 12) b44x (by decide) (by decide)) g43 hI43 hF43 (zB.wk c43_25_0_4x (by decide) (by decide)) cr43_25_0_13 (by
                                                                                          have hn8 : (v44).toInt.toNat = a124_8.toInt.toNat + 1 := by omega
                                                                                          have hi8 : a124_8 = nI a124_8.toInt.toNat := (nI_ofI (by omega)).1
                                                                                          have c0 : g124_ 25 0 0 = f 25 0 0 := hF124_ 25 0 0 rfl
                                                                                          have c2 : g124_ 25 0 2 = f 25 0 2 := hF124_ 25 0 2 rfl
                                                                                          have k26 : g124_ 26 0 = f 26 0 := funext (fun j => hF124_ 26 0 j rfl)
                                                                                          have k27 : g124_ 27 0 = f 27 0 := funext (fun j => hF124_ 27 0 j rfl)
                                                                                          have k28 : g124_ 28 0 = f 28 0 := funext (fun j => hF124_ 28 0 j rfl)
                                                                                          have k30 : g124_ 30 0 = f 30 0 := funext (fun j => hF124_ 30 0 j rfl)
                                                                                          have hv := zgs2 (f := f) hI c0 c2 k26 k27 k28 (hR124_0 a124_8.toInt.toNat (by omega)) hp24_0
                                                                                          obtain ⟨d4, d5, d6, d7⟩ := hR124_3
                                                                                          have hqs : zqs g124_ a124_2.toInt.toNat = a124_3.toInt.toNat := by unfold zqs; rw [← hR124_2]
                                                                                          have hgs : v24 = zGs f (zqs g124_ a124_2.toInt.toNat) a124_8.toInt.toNat := by
                                                                                            unfold zGs
                                                                                            rw [hqs, ← d4, ← d5, ← d6, ← d7]; exact hv
                                                                                          have x166 : (v30).toNatClampNeg = 8 * a124_8.toInt.toNat + 7 := by omega
                                                                                          have r166 := q31
                                                                                          rw [x166, k28] at r166
                                                                                          have x182 : (v33).toNatClampNeg = 8 * a124_8.toInt.toNat + 2 := by omega
                                                                                          have r182 := q34
                                                                                          rw [x182, k28] at r182
                                                                                          have e186 : v35 = f 28 0 (8 * a124_8.toInt.toNat + 7) &&& 1 := by rw [q35, r166]
                                                                                          have e190 : v36 = f 28 0 (8 * a124_8.toInt.toNat + 7) &&& 4 := by rw [q36, r166]
                                                                                          have e204 : v39 = f 28 0 (8 * a124_8.toInt.toNat + 7) &&& 2 := by rw [q39, r166]
                                                                                          have hs := hp42_0
                                                                                          have hG : zGp f (zqs g124_ a124_2.toInt.toNat) a124_8.toInt.toNat := ⟨by omega, fun z => absurd (hgs.trans z) (by assumption)⟩
                                                                                          have hN : (v42).toInt = (zNs f (zqs g124_ a124_2.toInt.toNat) a124_8.toInt.toNat : Nat) := by
                                                                                            unfold zNs
                                                                                            rw [hs, c2, r182, e186, if_pos (by omega)]
                                                                                            congr 1
                                                                                            first
                                                                                              | (rw [if_pos (show ¬ f 28 0 (8 * a124_8.toInt.toNat + 7) &&& 4 = 0 by rw [← e190]; assumption), hqs, ← d7])
                                                                                              | (rw [if_neg (show ¬ ¬ f 28 0 (8 * a124_8.toInt.toNat + 7) &&& 4 = 0 from fun z => z (by rw [← e190]; assumption))])
                                                                                            first
                                                                                              | (rw [if_pos (show ¬ f 28 0 (8 * a124_8.toInt.toNat + 7) &&& 2 = 0 by rw [← e204]; assumption), hgs, hqs]; done)
                                                                                              | (rw [if_pos (show ¬ f 28 0 (8 * a124_8.toInt.toNat + 7) &&& 2 = 0 by rw [← e204]; assumption), hgs]; done)
                                                                                              | (rw [if_neg (show ¬ ¬ f 28 0 (8 * a124_8.toInt.toNat + 7) &&& 2 = 0 from fun z => z (by rw [← e204]; assumption))]; done)
                                                                                          intro q hq
                                                                                          rcases hp43_0 with ⟨_, h⟩ | ⟨_, h⟩
                                                                                          · rw [h, zcom_x.1 31 0 q (by omega) (by omega) (by omega) (by omega)]; exact hR124_0 q hq
                                                                                          · rw [h]; exact hR124_0 q hq) (by
                                                                                          have hn8 : (v44).toInt.toNat = a124_8.toInt.toNat + 1 := by omega
                                                                                          have hi8 : a124_8 = nI a124_8.toInt.toNat := (nI_ofI (by omega)).1
                                                                                          have c0 : g124_ 25 0 0 = f 25 0 0 := hF124_ 25 0 0 rfl
                                                                                          have c2 : g124_ 25 0 2 = f 25 0 2 := hF124_ 25 0 2 rfl
                                                                                          have k26 : g124_ 26 0 = f 26 0 := funext (fun j => hF124_ 26 0 j rfl)
                                                                                          have k27 : g124_ 27 0 = f 27 0 := funext (fun j => hF124_ 27 0 j rfl)
                                                                                          have k28 : g124_ 28 0 = f 28 0 := funext (fun j => hF124_ 28 0 j rfl)
                                                                                          have k30 : g124_ 30 0 = f 30 0 := funext (fun j => hF124_ 30 0 j rfl)
                                                                                          have hv := zgs2 (f := f) hI c0 c2 k26 k27 k28 (hR124_0 a124_8.toInt.toNat (by omega)) hp24_0
                                                                                          obtain ⟨d4, d5, d6, d7⟩ := hR124_3
                                                                                          have hqs : zqs g124_ a124_2.toInt.toNat = a124_3.toInt.toNat := by unfold zqs; rw [← hR124_2]
                                                                                          have hgs : v24 = zGs f (zqs g124_ a124_2.toInt.toNat) a124_8.toInt.toNat := by
                                                                                            unfold zGs
                                                                                            rw [hqs, ← d4, ← d5, ← d6, ← d7]; exact hv
                                                                                          have x166 : (v30).toNatClampNeg = 8 * a124_8.toInt.toNat + 7 := by omega
                                                                                          have r166 := q31
                                                                                          rw [x166, k28] at r166
                                                                                          have x182 : (v33).toNatClampNeg = 8 * a124_8.toInt.toNat + 2 := by omega
                                                                                          have r182 := q34
                                                                                          rw [x182, k28] at r182
                                                                                          have e186 : v35 = f 28 0 (8 * a124_8.toInt.toNat + 7) &&& 1 := by rw [q35, r166]
                                                                                          have e190 : v36 = f 28 0 (8 * a124_8.toInt.toNat + 7) &&& 4 := by rw [q36, r166]
                                                                                          have e204 : v39 = f 28 0 (8 * a124_8.toInt.toNat + 7) &&& 2 := by rw [q39, r166]
                                                                                          have hs := hp42_0
                                                                                          have hG : zGp f (zqs g124_ a124_2.toInt.toNat) a124_8.toInt.toNat := ⟨by omega, fun z => absurd (hgs.trans z) (by assumption)⟩
                                                                                          have hN : (v42).toInt = (zNs f (zqs g124_ a124_2.toInt.toNat) a124_8.toInt.toNat : Nat) := by
                                                                                            unfold zNs
                                                                                            rw [hs, c2, r182, e186, if_pos (by omega)]
                                                                                            congr 1
                                                                                            first
                                                                                              | (rw [if_pos (show ¬ f 28 0 (8 * a124_8.toInt.toNat + 7) &&& 4 = 0 by rw [← e190]; assumption), hqs, ← d7])
                                                                                              | (rw [if_neg (show ¬ ¬ f 28 0 (8 * a124_8.toInt.toNat + 7) &&& 4 = 0 from fun z => z (by rw [← e190]; assumption))])
                                                                                            first
                                                                                              | (rw [if_pos (show ¬ f 28 0 (8 * a124_8.toInt.toNat + 7) &&& 2 = 0 by rw [← e204]; assumption), hgs, hqs]; done)
                                                                                              | (rw [if_pos (show ¬ f 28 0 (8 * a124_8.toInt.toNat + 7) &&& 2 = 0 by rw [← e204]; assumption), hgs]; done)
                                                                                              | (rw [if_neg (show ¬ ¬ f 28 0 (8 * a124_8.toInt.toNat + 7) &&& 2 = 0 from fun z => z (by rw [← e204]; assumption))]; done)
                                                                                          rw [hn8]
                                                                                          rcases hp43_0 with ⟨h4, h⟩ | ⟨h4, h⟩
                                                                                          · rw [h, hR124_2, hi8, nI_tt (by omega)]
                                                                                            exact zQm_add hI124_ hR124_1 (by unfold zqn; omega) (by omega) hG hN (by omega) h4
                                                                                          · rw [h]
                                                                                            refine zQm_skip hR124_1 (fun _ => ?_)
                                                                                            obtain ⟨k, k1, k2⟩ := (hR124_1.2.1 (v42).toInt.toNat (by omega)).mp h4
                                                                                            exact ⟨k, k1, by rw [k2]; omega⟩) (by
                                                                                          have hn8 : (v44).toInt.toNat = a124_8.toInt.toNat + 1 := by omega
                                                                                          have hi8 : a124_8 = nI a124_8.toInt.toNat := (nI_ofI (by omega)).1
                                                                                          have c0 : g124_ 25 0 0 = f 25 0 0 := hF124_ 25 0 0 rfl
                                                                                          have c2 : g124_ 25 0 2 = f 25 0 2 := hF124_ 25 0 2 rfl
                                                                                          have k26 : g124_ 26 0 = f 26 0 := funext (fun j => hF124_ 26 0 j rfl)
                                                                                          have k27 : g124_ 27 0 = f 27 0 := funext (fun j => hF124_ 27 0 j rfl)
                                                                                          have k28 : g124_ 28 0 = f 28 0 := funext (fun j => hF124_ 28 0 j rfl)
                                                                                          have k30 : g124_ 30 0 = f 30 0 := funext (fun j => hF124_ 30 0 j rfl)
                                                                                          have hv := zgs2 (f := f) hI c0 c2 k26 k27 k28 (hR124_0 a124_8.toInt.toNat (by omega)) hp24_0
                                                                                          obtain ⟨d4, d5, d6, d7⟩ := hR124_3
                                                                                          have hqs : zqs g124_ a124_2.toInt.toNat = a124_3.toInt.toNat := by unfold zqs; rw [← hR124_2]
                                                                                          have hgs : v24 = zGs f (zqs g124_ a124_2.toInt.toNat) a124_8.toInt.toNat := by
                                                                                            unfold zGs
                                                                                            rw [hqs, ← d4, ← d5, ← d6, ← d7]; exact hv
                                                                                          have x166 : (v30).toNatClampNeg = 8 * a124_8.toInt.toNat + 7 := by omega
                                                                                          have r166 := q31
                                                                                          rw [x166, k28] at r166
                                                                                          have x182 : (v33).toNatClampNeg = 8 * a124_8.toInt.toNat + 2 := by omega
                                                                                          have r182 := q34
                                                                                          rw [x182, k28] at r182
                                                                                          have e186 : v35 = f 28 0 (8 * a124_8.toInt.toNat + 7) &&& 1 := by rw [q35, r166]
                                                                                          have e190 : v36 = f 28 0 (8 * a124_8.toInt.toNat + 7) &&& 4 := by rw [q36, r166]
                                                                                          have e204 : v39 = f 28 0 (8 * a124_8.toInt.toNat + 7) &&& 2 := by rw [q39, r166]
                                                                                          have hs := hp42_0
                                                                                          have hG : zGp f (zqs g124_ a124_2.toInt.toNat) a124_8.toInt.toNat := ⟨by omega, fun z => absurd (hgs.trans z) (by assumption)⟩
                                                                                          have hN : (v42).toInt = (zNs f (zqs g124_ a124_2.toInt.toNat) a124_8.toInt.toNat : Nat) := by
                                                                                            unfold zNs
                                                                                            rw [hs, c2, r182, e186, if_pos (by omega)]
                                                                                            congr 1
                                                                                            first
                                                                                              | (rw [if_pos (show ¬ f 28 0 (8 * a124_8.toInt.toNat + 7) &&& 4 = 0 by rw [← e190]; assumption), hqs, ← d7])
                                                                                              | (rw [if_neg (show ¬ ¬ f 28 0 (8 * a124_8.toInt.toNat + 7) &&& 4 = 0 from fun z => z (by rw [← e190]; assumption))])
                                                                                            first
                                                                                              | (rw [if_pos (show ¬ f 28 0 (8 * a124_8.toInt.toNat + 7) &&& 2 = 0 by rw [← e204]; assumption), hgs, hqs]; done)
                                                                                              | (rw [if_pos (show ¬ f 28 0 (8 * a124_8.toInt.toNat + 7) &&& 2 = 0 by rw [← e204]; assumption), hgs]; done)
                                                                                              | (rw [if_neg (show ¬ ¬ f 28 0 (8 * a124_8.toInt.toNat + 7) &&& 2 = 0 from fun z => z (by rw [← e204]; assumption))]; done)
                                                                                          rcases hp43_0 with ⟨_, h⟩ | ⟨_, h⟩
                                                                                          · rw [h, zcom_x.1 34 0 _ (by omega) (by omega) (by omega) (by omega)]; exact hR124_2
                                                                                          · rw [h]; exact hR124_2) (by exact hR124_3) (by
                                                                                          have hn8 : (v44).toInt.toNat = a124_8.toInt.toNat + 1 := by omega
                                                                                          have hi8 : a124_8 = nI a124_8.toInt.toNat := (nI_ofI (by omega)).1
                                                                                          have c0 : g124_ 25 0 0 = f 25 0 0 := hF124_ 25 0 0 rfl
                                                                                          have c2 : g124_ 25 0 2 = f 25 0 2 := hF124_ 25 0 2 rfl
                                                                                          have k26 : g124_ 26 0 = f 26 0 := funext (fun j => hF124_ 26 0 j rfl)
                                                                                          have k27 : g124_ 27 0 = f 27 0 := funext (fun j => hF124_ 27 0 j rfl)
                                                                                          have k28 : g124_ 28 0 = f 28 0 := funext (fun j => hF124_ 28 0 j rfl)
                                                                                          have k30 : g124_ 30 0 = f 30 0 := funext (fun j => hF124_ 30 0 j rfl)
                                                                                          have hv := zgs2 (f := f) hI c0 c2 k26 k27 k28 (hR124_0 a124_8.toInt.toNat (by omega)) hp24_0
                                                                                          obtain ⟨d4, d5, d6, d7⟩ := hR124_3
                                                                                          have hqs : zqs g124_ a124_2.toInt.toNat = a124_3.toInt.toNat := by unfold zqs; rw [← hR124_2]
                                                                                          have hgs : v24 = zGs f (zqs g124_ a124_2.toInt.toNat) a124_8.toInt.toNat := by
                                                                                            unfold zGs
                                                                                            rw [hqs, ← d4, ← d5, ← d6, ← d7]; exact hv
                                                                                          have x166 : (v30).toNatClampNeg = 8 * a124_8.toInt.toNat + 7 := by omega
                                                                                          have r166 := q31
                                                                                          rw [x166, k28] at r166
                                                                                          have x182 : (v33).toNatClampNeg = 8 * a124_8.toInt.toNat + 2 := by omega
                                                                                          have r182 := q34
                                                                                          rw [x182, k28] at r182
                                                                                          have e186 : v35 = f 28 0 (8 * a124_8.toInt.toNat + 7) &&& 1 := by rw [q35, r166]
                                                                                          have e190 : v36 = f 28 0 (8 * a124_8.toInt.toNat + 7) &&& 4 := by rw [q36, r166]
                                                                                          have e204 : v39 = f 28 0 (8 * a124_8.toInt.toNat + 7) &&& 2 := by rw [q39, r166]
                                                                                          have hs := hp42_0
                                                                                          have hG : zGp f (zqs g124_ a124_2.toInt.toNat) a124_8.toInt.toNat := ⟨by omega, fun z => absurd (hgs.trans z) (by assumption)⟩
                                                                                          have hN : (v42).toInt = (zNs f (zqs g124_ a124_2.toInt.toNat) a124_8.toInt.toNat : Nat) := by
                                                                                            unfold zNs
                                                                                            rw [hs, c2, r182, e186, if_pos (by omega)]
                                                                                            congr 1
                                                                                            first
                                                                                              | (rw [if_pos (show ¬ f 28 0 (8 * a124_8.toInt.toNat + 7) &&& 4 = 0 by rw [← e190]; assumption), hqs, ← d7])
                                                                                              | (rw [if_neg (show ¬ ¬ f 28 0 (8 * a124_8.toInt.toNat + 7) &&& 4 = 0 from fun z => z (by rw [← e190]; assumption))])
                                                                                            first
                                                                                              | (rw [if_pos (show ¬ f 28 0 (8 * a124_8.toInt.toNat + 7) &&& 2 = 0 by rw [← e204]; assumption), hgs, hqs]; done)
                                                                                              | (rw [if_pos (show ¬ f 28 0 (8 * a124_8.toInt.toNat + 7) &&& 2 = 0 by rw [← e204]; assumption), hgs]; done)
                                                                                              | (rw [if_neg (show ¬ ¬ f 28 0 (8 * a124_8.toInt.toNat + 7) &&& 2 = 0 from fun z => z (by rw [← e204]; assumption))]; done)
                                                                                          have b13 : 0 ≤ (g124_ 25 0 13).toInt ∧ (g124_ 25 0 13).toInt ≤ 21504 := hI124_ 25 0 13
                                                                                          rcases hp43_0 with ⟨h4, h⟩ | ⟨_, h⟩
                                                                                          · have hl := zQm_lt hR124_1 (by omega) h4
                                                                                            have es : (g124_ 25 0 13 + 1 : Int32).toInt = (g124_ 25 0 13).toInt + 1 := zadd_eb (x := g124_ 25 0 13) (hI124_ 25 0 13) (zB.of (x := 1) 1 (by decide)) (by decide) (by decide)
                                                                                            rw [h, zcom_x.2.2.2.2, es]; omega
                                                                                          · rw [h]; omega) (by omega) (by omega) (by omega)
              · skip
                have b45x : zB v39 1 2 := by have q1 := b39x; have q2 := (zB.of (x := 0) 0 (by decide)); simp only [z32lt, z32le, z32eq, Int32.reduceToInt, Int32.toInt_zero] at h205_39; constructor <;> omega
                refine z_iload (pc := 208) C dX10_findStates_208 rfl ?_
                refine z_goto (pc := 210) 216 C dX10_findStates_210 (by decide) ?_
                refine z_callV (pc := 216) C zk_X10_171 (x_X10_codeOf _ _ v34 b34x v35 b35x (-4) (zB.wk (a' := (-4)) (b' := 5) (zB.of (x := (-4)) (-4) (by decide)) (by decide) (by decide)) v24 (zB.wk (a' := 0) (b' := 255) b28x (by decide) (by decide)) hI124_) rfl rfl (by decide) rfl rfl (Nat.le_of_ble_eq_true rfl) dX10_findStates_216 (fun r46 g46 q46 => ?_)
                have qa46_m4 : ((-4) : Int32).toInt = (-4) := by decide
                obtain ⟨⟨v46, rfl, b46x⟩, hI46, hF46q, hp46_0⟩ := q46
                have hp46_0 := hp46_0 _ rfl
                obtain rfl := zFr_nil hF46q
                simp only [Option.toList, List.cons_append, List.nil_append]
                refine z_iload_n (pc := 219) C dX10_findStates_219 rfl ?_
                refine z_iload (pc := 220) C dX10_findStates_220 rfl ?_
                refine z_callV (pc := 222) C zk_X10_175 (x_X10_come _ _ v46 b46x a124_3 b124_3 a124_8 (zB.wk (a' := (-4)) (b' := 11) b21x (by decide) (by decide)) (by exact fun h => zQm_lt hR124_1 (by omega) h) hI124_) rfl rfl (by decide) rfl rfl (Nat.le_of_ble_eq_true rfl) dX10_findStates_222 (fun r47 g47 q47 => ?_)
                obtain ⟨rfl, hI47, hF47q, hp47_0⟩ := q47
                have hF47 := zFr.tr hF124_ hF47q (by decide)
                simp only [Option.toList, List.cons_append, List.nil_append]
                have cr47_25_0_13 : zB (g47 25 0 13) 0 21504 := hI47 25 0 13
                have ek47_25_0_4 : (g47 25 0 4).toInt = (g124_ 25 0 4).toInt := by rw [hF47q 25 0 4 rfl]
                have c47_25_0_4x : zB (g47 25 0 4) 1 12 := by rw [hF47q 25 0 4 rfl]; exact c23x
                refine z_iinc (pc := 225) (v := 1) C dX10_findStates_225 rfl (by decide) (by rw [hn]; decide) rfl ?_
                obtain ⟨v48, hv48, e48⟩ : ∃ v : Int32, v = a124_8 + 1 ∧ v.toInt = a124_8.toInt + 1 := ⟨_, rfl, zadd_eb b21x (zB.of (x := 1) 1 (by decide)) (by decide) (by decide)⟩
                rw [← hv48]
                have b48x : zB v48 1 12 := by have q9 := b21x; constructor <;> omega
                refine z_goto (pc := 228) 124 C dX10_findStates_228 (by decide) ?_
                refine w_mask [9, 10] ?_
                exact ih1 a124_1 b124_1 a124_2 b124_2 a124_3 b124_3 a124_4 b124_4 a124_5 b124_5 a124_6 b124_6 a124_7 b124_7 v48 (zB.wk (a' := 0) (b' := 12) b48x (by decide) (by decide)) g47 hI47 hF47 (zB.wk c47_25_0_4x (by decide) (by decide)) cr47_25_0_13 (by
                                                                                          have hn8 : (v48).toInt.toNat = a124_8.toInt.toNat + 1 := by omega
                                                                                          have hi8 : a124_8 = nI a124_8.toInt.toNat := (nI_ofI (by omega)).1
                                                                                          have c0 : g124_ 25 0 0 = f 25 0 0 := hF124_ 25 0 0 rfl
                                                                                          have c2 : g124_ 25 0 2 = f 25 0 2 := hF124_ 25 0 2 rfl
                                                                                          have k26 : g124_ 26 0 = f 26 0 := funext (fun j => hF124_ 26 0 j rfl)
                                                                                          have k27 : g124_ 27 0 = f 27 0 := funext (fun j => hF124_ 27 0 j rfl)
                                                                                          have k28 : g124_ 28 0 = f 28 0 := funext (fun j => hF124_ 28 0 j rfl)
                                                                                          have k30 : g124_ 30 0 = f 30 0 := funext (fun j => hF124_ 30 0 j rfl)
                                                                                          have hv := zgs2 (f := f) hI c0 c2 k26 k27 k28 (hR124_0 a124_8.toInt.toNat (by omega)) hp24_0
                                                                                          obtain ⟨d4, d5, d6, d7⟩ := hR124_3
                                                                                          have hqs : zqs g124_ a124_2.toInt.toNat = a124_3.toInt.toNat := by unfold zqs; rw [← hR124_2]
                                                                                          have hgs : v24 = zGs f (zqs g124_ a124_2.toInt.toNat) a124_8.toInt.toNat := by
                                                                                            unfold zGs
                                                                                            rw [hqs, ← d4, ← d5, ← d6, ← d7]; exact hv
                                                                                          have x166 : (v30).toNatClampNeg = 8 * a124_8.toInt.toNat + 7 := by omega
                                                                                          have r166 := q31
                                                                                          rw [x166, k28] at r166
                                                                                          have x182 : (v33).toNatClampNeg = 8 * a124_8.toInt.toNat + 2 := by omega
                                                                                          have r182 := q34
                                                                                          rw [x182, k28] at r182
                                                                                          have e186 : v35 = f 28 0 (8 * a124_8.toInt.toNat + 7) &&& 1 := by rw [q35, r166]
                                                                                          have e190 : v36 = f 28 0 (8 * a124_8.toInt.toNat + 7) &&& 4 := by rw [q36, r166]
                                                                                          have e204 : v39 = f 28 0 (8 * a124_8.toInt.toNat + 7) &&& 2 := by rw [q39, r166]
                                                                                          have hs := hp46_0
                                                                                          have hG : zGp f (zqs g124_ a124_2.toInt.toNat) a124_8.toInt.toNat := ⟨by omega, fun z => absurd (hgs.trans z) (by assumption)⟩
                                                                                          have hN : (v46).toInt = (zNs f (zqs g124_ a124_2.toInt.toNat) a124_8.toInt.toNat : Nat) := by
                                                                                            unfold zNs
                                                                                            rw [hs, c2, r182, e186, if_pos (by omega)]
                                                                                            congr 1
                                                                                            first
                                                                                              | (rw [if_pos (show ¬ f 28 0 (8 * a124_8.toInt.toNat + 7) &&& 4 = 0 by rw [← e190]; assumption), hqs, ← d7])
                                                                                              | (rw [if_neg (show ¬ ¬ f 28 0 (8 * a124_8.toInt.toNat + 7) &&& 4 = 0 from fun z => z (by rw [← e190]; assumption))])
                                                                                            first
                                                                                              | (rw [if_pos (show ¬ f 28 0 (8 * a124_8.toInt.toNat + 7) &&& 2 = 0 by rw [← e204]; assumption), hgs, hqs]; done)
                                                                                              | (rw [if_pos (show ¬ f 28 0 (8 * a124_8.toInt.toNat + 7) &&& 2 = 0 by rw [← e204]; assumption), hgs]; done)
                                                                                              | (rw [if_neg (show ¬ ¬ f 28 0 (8 * a124_8.toInt.toNat + 7) &&& 2 = 0 from fun z => z (by rw [← e204]; assumption))]; done)
                                                                                          intro q hq
                                                                                          rcases hp47_0 with ⟨_, h⟩ | ⟨_, h⟩
                                                                                          · rw [h, zcom_x.1 31 0 q (by omega) (by omega) (by omega) (by omega)]; exact hR124_0 q hq
                                                                                          · rw [h]; exact hR124_0 q hq) (by
                                                                                          have hn8 : (v48).toInt.toNat = a124_8.toInt.toNat + 1 := by omega
                                                                                          have hi8 : a124_8 = nI a124_8.toInt.toNat := (nI_ofI (by omega)).1
                                                                                          have c0 : g124_ 25 0 0 = f 25 0 0 := hF124_ 25 0 0 rfl
                                                                                          have c2 : g124_ 25 0 2 = f 25 0 2 := hF124_ 25 0 2 rfl
                                                                                          have k26 : g124_ 26 0 = f 26 0 := funext (fun j => hF124_ 26 0 j rfl)
                                                                                          have k27 : g124_ 27 0 = f 27 0 := funext (fun j => hF124_ 27 0 j rfl)
                                                                                          have k28 : g124_ 28 0 = f 28 0 := funext (fun j => hF124_ 28 0 j rfl)
                                                                                          have k30 : g124_ 30 0 = f 30 0 := funext (fun j => hF124_ 30 0 j rfl)
                                                                                          have hv := zgs2 (f := f) hI c0 c2 k26 k27 k28 (hR124_0 a124_8.toInt.toNat (by omega)) hp24_0
                                                                                          obtain ⟨d4, d5, d6, d7⟩ := hR124_3
                                                                                          have hqs : zqs g124_ a124_2.toInt.toNat = a124_3.toInt.toNat := by unfold zqs; rw [← hR124_2]
                                                                                          have hgs : v24 = zGs f (zqs g124_ a124_2.toInt.toNat) a124_8.toInt.toNat := by
                                                                                            unfold zGs
                                                                                            rw [hqs, ← d4, ← d5, ← d6, ← d7]; exact hv
                                                                                          have x166 : (v30).toNatClampNeg = 8 * a124_8.toInt.toNat + 7 := by omega
                                                                                          have r166 := q31
                                                                                          rw [x166, k28] at r166
                                                                                          have x182 : (v33).toNatClampNeg = 8 * a124_8.toInt.toNat + 2 := by omega
                                                                                          have r182 := q34
                                                                                          rw [x182, k28] at r182
                                                                                          have e186 : v35 = f 28 0 (8 * a124_8.toInt.toNat + 7) &&& 1 := by rw [q35, r166]
                                                                                          have e190 : v36 = f 28 0 (8 * a124_8.toInt.toNat + 7) &&& 4 := by rw [q36, r166]
                                                                                          have e204 : v39 = f 28 0 (8 * a124_8.toInt.toNat + 7) &&& 2 := by rw [q39, r166]
                                                                                          have hs := hp46_0
                                                                                          have hG : zGp f (zqs g124_ a124_2.toInt.toNat) a124_8.toInt.toNat := ⟨by omega, fun z => absurd (hgs.trans z) (by assumption)⟩
                                                                                          have hN : (v46).toInt = (zNs f (zqs g124_ a124_2.toInt.toNat) a124_8.toInt.toNat : Nat) := by
                                                                                            unfold zNs
                                                                                            rw [hs, c2, r182, e186, if_pos (by omega)]
                                                                                            congr 1
                                                                                            first
                                                                                              | (rw [if_pos (show ¬ f 28 0 (8 * a124_8.toInt.toNat + 7) &&& 4 = 0 by rw [← e190]; assumption), hqs, ← d7])
                                                                                              | (rw [if_neg (show ¬ ¬ f 28 0 (8 * a124_8.toInt.toNat + 7) &&& 4 = 0 from fun z => z (by rw [← e190]; assumption))])
                                                                                            first
                                                                                              | (rw [if_pos (show ¬ f 28 0 (8 * a124_8.toInt.toNat + 7) &&& 2 = 0 by rw [← e204]; assumption), hgs, hqs]; done)
                                                                                              | (rw [if_pos (show ¬ f 28 0 (8 * a124_8.toInt.toNat + 7) &&& 2 = 0 by rw [← e204]; assumption), hgs]; done)
                                                                                              | (rw [if_neg (show ¬ ¬ f 28 0 (8 * a124_8.toInt.toNat + 7) &&& 2 = 0 from fun z => z (by rw [← e204]; assumption))]; done)
                                                                                          rw [hn8]
                                                                                          rcases hp47_0 with ⟨h4, h⟩ | ⟨h4, h⟩
                                                                                          · rw [h, hR124_2, hi8, nI_tt (by omega)]
                                                                                            exact zQm_add hI124_ hR124_1 (by unfold zqn; omega) (by omega) hG hN (by omega) h4
                                                                                          · rw [h]
                                                                                            refine zQm_skip hR124_1 (fun _ => ?_)
                                                                                            obtain ⟨k, k1, k2⟩ := (hR124_1.2.1 (v46).toInt.toNat (by omega)).mp h4
                                                                                            exact ⟨k, k1, by rw [k2]; omega⟩) (by
                                                                                          have hn8 : (v48).toInt.toNat = a124_8.toInt.toNat + 1 := by omega
                                                                                          have hi8 : a124_8 = nI a124_8.toInt.toNat := (nI_ofI (by omega)).1
                                                                                          have c0 : g124_ 25 0 0 = f 25 0 0 := hF124_ 25 0 0 rfl
                                                                                          have c2 : g124_ 25 0 2 = f 25 0 2 := hF124_ 25 0 2 rfl
                                                                                          have k26 : g124_ 26 0 = f 26 0 := funext (fun j => hF124_ 26 0 j rfl)
                                                                                          have k27 : g124_ 27 0 = f 27 0 := funext (fun j => hF124_ 27 0 j rfl)
                                                                                          have k28 : g124_ 28 0 = f 28 0 := funext (fun j => hF124_ 28 0 j rfl)
                                                                                          have k30 : g124_ 30 0 = f 30 0 := funext (fun j => hF124_ 30 0 j rfl)
                                                                                          have hv := zgs2 (f := f) hI c0 c2 k26 k27 k28 (hR124_0 a124_8.toInt.toNat (by omega)) hp24_0
                                                                                          obtain ⟨d4, d5, d6, d7⟩ := hR124_3
                                                                                          have hqs : zqs g124_ a124_2.toInt.toNat = a124_3.toInt.toNat := by unfold zqs; rw [← hR124_2]
                                                                                          have hgs : v24 = zGs f (zqs g124_ a124_2.toInt.toNat) a124_8.toInt.toNat := by
                                                                                            unfold zGs
                                                                                            rw [hqs, ← d4, ← d5, ← d6, ← d7]; exact hv
                                                                                          have x166 : (v30).toNatClampNeg = 8 * a124_8.toInt.toNat + 7 := by omega
                                                                                          have r166 := q31
                                                                                          rw [x166, k28] at r166
                                                                                          have x182 : (v33).toNatClampNeg = 8 * a124_8.toInt.toNat + 2 := by omega
                                                                                          have r182 := q34
                                                                                          rw [x182, k28] at r182
                                                                                          have e186 : v35 = f 28 0 (8 * a124_8.toInt.toNat + 7) &&& 1 := by rw [q35, r166]
                                                                                          have e190 : v36 = f 28 0 (8 * a124_8.toInt.toNat + 7) &&& 4 := by rw [q36, r166]
                                                                                          have e204 : v39 = f 28 0 (8 * a124_8.toInt.toNat + 7) &&& 2 := by rw [q39, r166]
                                                                                          have hs := hp46_0
                                                                                          have hG : zGp f (zqs g124_ a124_2.toInt.toNat) a124_8.toInt.toNat := ⟨by omega, fun z => absurd (hgs.trans z) (by assumption)⟩
                                                                                          have hN : (v46).toInt = (zNs f (zqs g124_ a124_2.toInt.toNat) a124_8.toInt.toNat : Nat) := by
                                                                                            unfold zNs
                                                                                            rw [hs, c2, r182, e186, if_pos (by omega)]
                                                                                            congr 1
                                                                                            first
                                                                                              | (rw [if_pos (show ¬ f 28 0 (8 * a124_8.toInt.toNat + 7) &&& 4 = 0 by rw [← e190]; assumption), hqs, ← d7])
                                                                                              | (rw [if_neg (show ¬ ¬ f 28 0 (8 * a124_8.toInt.toNat + 7) &&& 4 = 0 from fun z => z (by rw [← e190]; assumption))])
                                                                                            first
                                                                                              | (rw [if_pos (show ¬ f 28 0 (8 * a124_8.toInt.toNat + 7) &&& 2 = 0 by rw [← e204]; assumption), hgs, hqs]; done)
                                                                                              | (rw [if_pos (show ¬ f 28 0 (8 * a124_8.toInt.toNat + 7) &&& 2 = 0 by rw [← e204]; assumption), hgs]; done)
                                                                                              | (rw [if_neg (show ¬ ¬ f 28 0 (8 * a124_8.toInt.toNat + 7) &&& 2 = 0 from fun z => z (by rw [← e204]; assumption))]; done)
                                                                                          rcases hp47_0 with ⟨_, h⟩ | ⟨_, h⟩
                                                                                          · rw [h, zcom_x.1 34 0 _ (by omega) (by omega) (by omega) (by omega)]; exact hR124_2
                                                                                          · rw [h]; exact hR124_2) (by exact hR124_3) (by
                                                                                          have hn8 : (v48).toInt.toNat = a124_8.toInt.toNat + 1 := by omega
                                                                                          have hi8 : a124_8 = nI a124_8.toInt.toNat := (nI_ofI (by omega)).1
                                                                                          have c0 : g124_ 25 0 0 = f 25 0 0 := hF124_ 25 0 0 rfl
                                                                                          have c2 : g124_ 25 0 2 = f 25 0 2 := hF124_ 25 0 2 rfl
                                                                                          have k26 : g124_ 26 0 = f 26 0 := funext (fun j => hF124_ 26 0 j rfl)
                                                                                          have k27 : g124_ 27 0 = f 27 0 := funext (fun j => hF124_ 27 0 j rfl)
                                                                                          have k28 : g124_ 28 0 = f 28 0 := funext (fun j => hF124_ 28 0 j rfl)
                                                                                          have k30 : g124_ 30 0 = f 30 0 := funext (fun j => hF124_ 30 0 j rfl)
                                                                                          have hv := zgs2 (f := f) hI c0 c2 k26 k27 k28 (hR124_0 a124_8.toInt.toNat (by omega)) hp24_0
                                                                                          obtain ⟨d4, d5, d6, d7⟩ := hR124_3
                                                                                          have hqs : zqs g124_ a124_2.toInt.toNat = a124_3.toInt.toNat := by unfold zqs; rw [← hR124_2]
                                                                                          have hgs : v24 = zGs f (zqs g124_ a124_2.toInt.toNat) a124_8.toInt.toNat := by
                                                                                            unfold zGs
                                                                                            rw [hqs, ← d4, ← d5, ← d6, ← d7]; exact hv
                                                                                          have x166 : (v30).toNatClampNeg = 8 * a124_8.toInt.toNat + 7 := by omega
                                                                                          have r166 := q31
                                                                                          rw [x166, k28] at r166
                                                                                          have x182 : (v33).toNatClampNeg = 8 * a124_8.toInt.toNat + 2 := by omega
                                                                                          have r182 := q34
                                                                                          rw [x182, k28] at r182
                                                                                          have e186 : v35 = f 28 0 (8 * a124_8.toInt.toNat + 7) &&& 1 := by rw [q35, r166]
                                                                                          have e190 : v36 = f 28 0 (8 * a124_8.toInt.toNat + 7) &&& 4 := by rw [q36, r166]
                                                                                          have e204 : v39 = f 28 0 (8 * a124_8.toInt.toNat + 7) &&& 2 := by rw [q39, r166]
                                                                                          have hs := hp46_0
                                                                                          have hG : zGp f (zqs g124_ a124_2.toInt.toNat) a124_8.toInt.toNat := ⟨by omega, fun z => absurd (hgs.trans z) (by assumption)⟩
                                                                                          have hN : (v46).toInt = (zNs f (zqs g124_ a124_2.toInt.toNat) a124_8.toInt.toNat : Nat) := by
                                                                                            unfold zNs
                                                                                            rw [hs, c2, r182, e186, if_pos (by omega)]
                                                                                            congr 1
                                                                                            first
                                                                                              | (rw [if_pos (show ¬ f 28 0 (8 * a124_8.toInt.toNat + 7) &&& 4 = 0 by rw [← e190]; assumption), hqs, ← d7])
                                                                                              | (rw [if_neg (show ¬ ¬ f 28 0 (8 * a124_8.toInt.toNat + 7) &&& 4 = 0 from fun z => z (by rw [← e190]; assumption))])
                                                                                            first
                                                                                              | (rw [if_pos (show ¬ f 28 0 (8 * a124_8.toInt.toNat + 7) &&& 2 = 0 by rw [← e204]; assumption), hgs, hqs]; done)
                                                                                              | (rw [if_pos (show ¬ f 28 0 (8 * a124_8.toInt.toNat + 7) &&& 2 = 0 by rw [← e204]; assumption), hgs]; done)
                                                                                              | (rw [if_neg (show ¬ ¬ f 28 0 (8 * a124_8.toInt.toNat + 7) &&& 2 = 0 from fun z => z (by rw [← e204]; assumption))]; done)
                                                                                          have b13 : 0 ≤ (g124_ 25 0 13).toInt ∧ (g124_ 25 0 13).toInt ≤ 21504 := hI124_ 25 0 13
                                                                                          rcases hp47_0 with ⟨h4, h⟩ | ⟨_, h⟩
                                                                                          · have hl := zQm_lt hR124_1 (by omega) h4
                                                                                            have es : (g124_ 25 0 13 + 1 : Int32).toInt = (g124_ 25 0 13).toInt + 1 := zadd_eb (x := g124_ 25 0 13) (hI124_ 25 0 13) (zB.of (x := 1) 1 (by decide)) (by decide) (by decide)
                                                                                            rw [h, zcom_x.2.2.2.2, es]; omega
                                                                                          · rw [h]; omega) (by omega) (by omega) (by omega)
            · skip
              have b49x : zB v36 1 4 := by have q1 := b36x; have q2 := (zB.of (x := 0) 0 (by decide)); simp only [z32lt, z32le, z32eq, Int32.reduceToInt, Int32.toInt_zero] at h191_36; constructor <;> omega
              refine z_iload (pc := 194) C dX10_findStates_194 rfl ?_
              refine z_goto (pc := 196) 201 C dX10_findStates_196 (by decide) ?_
              refine z_iload (pc := 201) C dX10_findStates_201 rfl ?_
              refine z_iconst (pc := 203) (v := 2) C dX10_findStates_203 (by decide) ?_
              refine z_iand (pc := 204) C dX10_findStates_204 ?_
              refine w_gp (fun v => v = v31 &&& (2 : Int32)) rfl (fun v50 q50 => ?_)
              have b50x : zB v50 0 2 := by rw [q50]; exact (zand_b b31x (zB.of (x := 2) 2 (by decide)) (by decide))
              refine z_if_eq (pc := 205) 213 C dX10_findStates_205 (by decide) (fun h205_50 => ?_) (fun h205_50 => ?_)
              · skip
                have b52x : zB v50 0 0 := by have q1 := b50x; have q2 := (zB.of (x := 0) 0 (by decide)); simp only [z32lt, z32le, z32eq, Int32.reduceToInt, Int32.toInt_zero] at h205_50; constructor <;> omega
                refine z_sipush (pc := 213) (v := 255) C dX10_findStates_213 (by decide) ?_
                refine z_callV (pc := 216) C zk_X10_171 (x_X10_codeOf _ _ v34 b34x v35 b35x a124_7 (zB.wk (a' := (-4)) (b' := 5) b124_7 (by decide) (by decide)) 255 (zB.wk (a' := 0) (b' := 255) (zB.of (x := 255) 255 (by decide)) (by decide) (by decide)) hI124_) rfl rfl (by decide) rfl rfl (Nat.le_of_ble_eq_true rfl) dX10_findStates_216 (fun r53 g53 q53 => ?_)
                have qa53_255 : (255 : Int32).toInt = 255 := by decide
                obtain ⟨⟨v53, rfl, b53x⟩, hI53, hF53q, hp53_0⟩ := q53
                have hp53_0 := hp53_0 _ rfl
                obtain rfl := zFr_nil hF53q
                simp only [Option.toList, List.cons_append, List.nil_append]
                refine z_iload_n (pc := 219) C dX10_findStates_219 rfl ?_
                refine z_iload (pc := 220) C dX10_findStates_220 rfl ?_
                refine z_callV (pc := 222) C zk_X10_175 (x_X10_come _ _ v53 b53x a124_3 b124_3 a124_8 (zB.wk (a' := (-4)) (b' := 11) b21x (by decide) (by decide)) (by exact fun h => zQm_lt hR124_1 (by omega) h) hI124_) rfl rfl (by decide) rfl rfl (Nat.le_of_ble_eq_true rfl) dX10_findStates_222 (fun r54 g54 q54 => ?_)
                obtain ⟨rfl, hI54, hF54q, hp54_0⟩ := q54
                have hF54 := zFr.tr hF124_ hF54q (by decide)
                simp only [Option.toList, List.cons_append, List.nil_append]
                have cr54_25_0_13 : zB (g54 25 0 13) 0 21504 := hI54 25 0 13
                have ek54_25_0_4 : (g54 25 0 4).toInt = (g124_ 25 0 4).toInt := by rw [hF54q 25 0 4 rfl]
                have c54_25_0_4x : zB (g54 25 0 4) 1 12 := by rw [hF54q 25 0 4 rfl]; exact c23x
                refine z_iinc (pc := 225) (v := 1) C dX10_findStates_225 rfl (by decide) (by rw [hn]; decide) rfl ?_
                obtain ⟨v55, hv55, e55⟩ : ∃ v : Int32, v = a124_8 + 1 ∧ v.toInt = a124_8.toInt + 1 := ⟨_, rfl, zadd_eb b21x (zB.of (x := 1) 1 (by decide)) (by decide) (by decide)⟩
                rw [← hv55]
                have b55x : zB v55 1 12 := by have q9 := b21x; constructor <;> omega
                refine z_goto (pc := 228) 124 C dX10_findStates_228 (by decide) ?_
                refine w_mask [9, 10] ?_
                exact ih1 a124_1 b124_1 a124_2 b124_2 a124_3 b124_3 a124_4 b124_4 a124_5 b124_5 a124_6 b124_6 a124_7 b124_7 v55 (zB.wk (a' := 0) (b' := 12) b55x (by decide) (by decide)) g54 hI54 hF54 (zB.wk c54_25_0_4x (by decide) (by decide)) cr54_25_0_13 (by
                                                                                          have hn8 : (v55).toInt.toNat = a124_8.toInt.toNat + 1 := by omega
                                                                                          have hi8 : a124_8 = nI a124_8.toInt.toNat := (nI_ofI (by omega)).1
                                                                                          have c0 : g124_ 25 0 0 = f 25 0 0 := hF124_ 25 0 0 rfl
                                                                                          have c2 : g124_ 25 0 2 = f 25 0 2 := hF124_ 25 0 2 rfl
                                                                                          have k26 : g124_ 26 0 = f 26 0 := funext (fun j => hF124_ 26 0 j rfl)
                                                                                          have k27 : g124_ 27 0 = f 27 0 := funext (fun j => hF124_ 27 0 j rfl)
                                                                                          have k28 : g124_ 28 0 = f 28 0 := funext (fun j => hF124_ 28 0 j rfl)
                                                                                          have k30 : g124_ 30 0 = f 30 0 := funext (fun j => hF124_ 30 0 j rfl)
                                                                                          have hv := zgs2 (f := f) hI c0 c2 k26 k27 k28 (hR124_0 a124_8.toInt.toNat (by omega)) hp24_0
                                                                                          obtain ⟨d4, d5, d6, d7⟩ := hR124_3
                                                                                          have hqs : zqs g124_ a124_2.toInt.toNat = a124_3.toInt.toNat := by unfold zqs; rw [← hR124_2]
                                                                                          have hgs : v24 = zGs f (zqs g124_ a124_2.toInt.toNat) a124_8.toInt.toNat := by
                                                                                            unfold zGs
                                                                                            rw [hqs, ← d4, ← d5, ← d6, ← d7]; exact hv
                                                                                          have x166 : (v30).toNatClampNeg = 8 * a124_8.toInt.toNat + 7 := by omega
                                                                                          have r166 := q31
                                                                                          rw [x166, k28] at r166
                                                                                          have x182 : (v33).toNatClampNeg = 8 * a124_8.toInt.toNat + 2 := by omega
                                                                                          have r182 := q34
                                                                                          rw [x182, k28] at r182
                                                                                          have e186 : v35 = f 28 0 (8 * a124_8.toInt.toNat + 7) &&& 1 := by rw [q35, r166]
                                                                                          have e190 : v36 = f 28 0 (8 * a124_8.toInt.toNat + 7) &&& 4 := by rw [q36, r166]
                                                                                          have e204 : v50 = f 28 0 (8 * a124_8.toInt.toNat + 7) &&& 2 := by rw [q50, r166]
                                                                                          have hs := hp53_0
                                                                                          have hG : zGp f (zqs g124_ a124_2.toInt.toNat) a124_8.toInt.toNat := ⟨by omega, fun z => absurd (hgs.trans z) (by assumption)⟩
                                                                                          have hN : (v53).toInt = (zNs f (zqs g124_ a124_2.toInt.toNat) a124_8.toInt.toNat : Nat) := by
                                                                                            unfold zNs
                                                                                            rw [hs, c2, r182, e186, if_pos (by omega)]
                                                                                            congr 1
                                                                                            first
                                                                                              | (rw [if_pos (show ¬ f 28 0 (8 * a124_8.toInt.toNat + 7) &&& 4 = 0 by rw [← e190]; assumption), hqs, ← d7])
                                                                                              | (rw [if_neg (show ¬ ¬ f 28 0 (8 * a124_8.toInt.toNat + 7) &&& 4 = 0 from fun z => z (by rw [← e190]; assumption))])
                                                                                            first
                                                                                              | (rw [if_pos (show ¬ f 28 0 (8 * a124_8.toInt.toNat + 7) &&& 2 = 0 by rw [← e204]; assumption), hgs, hqs]; done)
                                                                                              | (rw [if_pos (show ¬ f 28 0 (8 * a124_8.toInt.toNat + 7) &&& 2 = 0 by rw [← e204]; assumption), hgs]; done)
                                                                                              | (rw [if_neg (show ¬ ¬ f 28 0 (8 * a124_8.toInt.toNat + 7) &&& 2 = 0 from fun z => z (by rw [← e204]; assumption))]; done)
                                                                                          intro q hq
                                                                                          rcases hp54_0 with ⟨_, h⟩ | ⟨_, h⟩
                                                                                          · rw [h, zcom_x.1 31 0 q (by omega) (by omega) (by omega) (by omega)]; exact hR124_0 q hq
                                                                                          · rw [h]; exact hR124_0 q hq) (by
                                                                                          have hn8 : (v55).toInt.toNat = a124_8.toInt.toNat + 1 := by omega
                                                                                          have hi8 : a124_8 = nI a124_8.toInt.toNat := (nI_ofI (by omega)).1
                                                                                          have c0 : g124_ 25 0 0 = f 25 0 0 := hF124_ 25 0 0 rfl
                                                                                          have c2 : g124_ 25 0 2 = f 25 0 2 := hF124_ 25 0 2 rfl
                                                                                          have k26 : g124_ 26 0 = f 26 0 := funext (fun j => hF124_ 26 0 j rfl)
                                                                                          have k27 : g124_ 27 0 = f 27 0 := funext (fun j => hF124_ 27 0 j rfl)
                                                                                          have k28 : g124_ 28 0 = f 28 0 := funext (fun j => hF124_ 28 0 j rfl)
                                                                                          have k30 : g124_ 30 0 = f 30 0 := funext (fun j => hF124_ 30 0 j rfl)
                                                                                          have hv := zgs2 (f := f) hI c0 c2 k26 k27 k28 (hR124_0 a124_8.toInt.toNat (by omega)) hp24_0
                                                                                          obtain ⟨d4, d5, d6, d7⟩ := hR124_3
                                                                                          have hqs : zqs g124_ a124_2.toInt.toNat = a124_3.toInt.toNat := by unfold zqs; rw [← hR124_2]
                                                                                          have hgs : v24 = zGs f (zqs g124_ a124_2.toInt.toNat) a124_8.toInt.toNat := by
                                                                                            unfold zGs
                                                                                            rw [hqs, ← d4, ← d5, ← d6, ← d7]; exact hv
                                                                                          have x166 : (v30).toNatClampNeg = 8 * a124_8.toInt.toNat + 7 := by omega
                                                                                          have r166 := q31
                                                                                          rw [x166, k28] at r166
                                                                                          have x182 : (v33).toNatClampNeg = 8 * a124_8.toInt.toNat + 2 := by omega
                                                                                          have r182 := q34
                                                                                          rw [x182, k28] at r182
                                                                                          have e186 : v35 = f 28 0 (8 * a124_8.toInt.toNat + 7) &&& 1 := by rw [q35, r166]
                                                                                          have e190 : v36 = f 28 0 (8 * a124_8.toInt.toNat + 7) &&& 4 := by rw [q36, r166]
                                                                                          have e204 : v50 = f 28 0 (8 * a124_8.toInt.toNat + 7) &&& 2 := by rw [q50, r166]
                                                                                          have hs := hp53_0
                                                                                          have hG : zGp f (zqs g124_ a124_2.toInt.toNat) a124_8.toInt.toNat := ⟨by omega, fun z => absurd (hgs.trans z) (by assumption)⟩
                                                                                          have hN : (v53).toInt = (zNs f (zqs g124_ a124_2.toInt.toNat) a124_8.toInt.toNat : Nat) := by
                                                                                            unfold zNs
                                                                                            rw [hs, c2, r182, e186, if_pos (by omega)]
                                                                                            congr 1
                                                                                            first
                                                                                              | (rw [if_pos (show ¬ f 28 0 (8 * a124_8.toInt.toNat + 7) &&& 4 = 0 by rw [← e190]; assumption), hqs, ← d7])
                                                                                              | (rw [if_neg (show ¬ ¬ f 28 0 (8 * a124_8.toInt.toNat + 7) &&& 4 = 0 from fun z => z (by rw [← e190]; assumption))])
                                                                                            first
                                                                                              | (rw [if_pos (show ¬ f 28 0 (8 * a124_8.toInt.toNat + 7) &&& 2 = 0 by rw [← e204]; assumption), hgs, hqs]; done)
                                                                                              | (rw [if_pos (show ¬ f 28 0 (8 * a124_8.toInt.toNat + 7) &&& 2 = 0 by rw [← e204]; assumption), hgs]; done)
                                                                                              | (rw [if_neg (show ¬ ¬ f 28 0 (8 * a124_8.toInt.toNat + 7) &&& 2 = 0 from fun z => z (by rw [← e204]; assumption))]; done)
                                                                                          rw [hn8]
                                                                                          rcases hp54_0 with ⟨h4, h⟩ | ⟨h4, h⟩
                                                                                          · rw [h, hR124_2, hi8, nI_tt (by omega)]
                                                                                            exact zQm_add hI124_ hR124_1 (by unfold zqn; omega) (by omega) hG hN (by omega) h4
                                                                                          · rw [h]
                                                                                            refine zQm_skip hR124_1 (fun _ => ?_)
                                                                                            obtain ⟨k, k1, k2⟩ := (hR124_1.2.1 (v53).toInt.toNat (by omega)).mp h4
                                                                                            exact ⟨k, k1, by rw [k2]; omega⟩) (by
                                                                                          have hn8 : (v55).toInt.toNat = a124_8.toInt.toNat + 1 := by omega
                                                                                          have hi8 : a124_8 = nI a124_8.toInt.toNat := (nI_ofI (by omega)).1
                                                                                          have c0 : g124_ 25 0 0 = f 25 0 0 := hF124_ 25 0 0 rfl
                                                                                          have c2 : g124_ 25 0 2 = f 25 0 2 := hF124_ 25 0 2 rfl
                                                                                          have k26 : g124_ 26 0 = f 26 0 := funext (fun j => hF124_ 26 0 j rfl)
                                                                                          have k27 : g124_ 27 0 = f 27 0 := funext (fun j => hF124_ 27 0 j rfl)
                                                                                          have k28 : g124_ 28 0 = f 28 0 := funext (fun j => hF124_ 28 0 j rfl)
                                                                                          have k30 : g124_ 30 0 = f 30 0 := funext (fun j => hF124_ 30 0 j rfl)
                                                                                          have hv := zgs2 (f := f) hI c0 c2 k26 k27 k28 (hR124_0 a124_8.toInt.toNat (by omega)) hp24_0
                                                                                          obtain ⟨d4, d5, d6, d7⟩ := hR124_3
                                                                                          have hqs : zqs g124_ a124_2.toInt.toNat = a124_3.toInt.toNat := by unfold zqs; rw [← hR124_2]
                                                                                          have hgs : v24 = zGs f (zqs g124_ a124_2.toInt.toNat) a124_8.toInt.toNat := by
                                                                                            unfold zGs
                                                                                            rw [hqs, ← d4, ← d5, ← d6, ← d7]; exact hv
                                                                                          have x166 : (v30).toNatClampNeg = 8 * a124_8.toInt.toNat + 7 := by omega
                                                                                          have r166 := q31
                                                                                          rw [x166, k28] at r166
                                                                                          have x182 : (v33).toNatClampNeg = 8 * a124_8.toInt.toNat + 2 := by omega
                                                                                          have r182 := q34
                                                                                          rw [x182, k28] at r182
                                                                                          have e186 : v35 = f 28 0 (8 * a124_8.toInt.toNat + 7) &&& 1 := by rw [q35, r166]
                                                                                          have e190 : v36 = f 28 0 (8 * a124_8.toInt.toNat + 7) &&& 4 := by rw [q36, r166]
                                                                                          have e204 : v50 = f 28 0 (8 * a124_8.toInt.toNat + 7) &&& 2 := by rw [q50, r166]
                                                                                          have hs := hp53_0
                                                                                          have hG : zGp f (zqs g124_ a124_2.toInt.toNat) a124_8.toInt.toNat := ⟨by omega, fun z => absurd (hgs.trans z) (by assumption)⟩
                                                                                          have hN : (v53).toInt = (zNs f (zqs g124_ a124_2.toInt.toNat) a124_8.toInt.toNat : Nat) := by
                                                                                            unfold zNs
                                                                                            rw [hs, c2, r182, e186, if_pos (by omega)]
                                                                                            congr 1
                                                                                            first
                                                                                              | (rw [if_pos (show ¬ f 28 0 (8 * a124_8.toInt.toNat + 7) &&& 4 = 0 by rw [← e190]; assumption), hqs, ← d7])
                                                                                              | (rw [if_neg (show ¬ ¬ f 28 0 (8 * a124_8.toInt.toNat + 7) &&& 4 = 0 from fun z => z (by rw [← e190]; assumption))])
                                                                                            first
                                                                                              | (rw [if_pos (show ¬ f 28 0 (8 * a124_8.toInt.toNat + 7) &&& 2 = 0 by rw [← e204]; assumption), hgs, hqs]; done)
                                                                                              | (rw [if_pos (show ¬ f 28 0 (8 * a124_8.toInt.toNat + 7) &&& 2 = 0 by rw [← e204]; assumption), hgs]; done)
                                                                                              | (rw [if_neg (show ¬ ¬ f 28 0 (8 * a124_8.toInt.toNat + 7) &&& 2 = 0 from fun z => z (by rw [← e204]; assumption))]; done)
                                                                                          rcases hp54_0 with ⟨_, h⟩ | ⟨_, h⟩
                                                                                          · rw [h, zcom_x.1 34 0 _ (by omega) (by omega) (by omega) (by omega)]; exact hR124_2
                                                                                          · rw [h]; exact hR124_2) (by exact hR124_3) (by
                                                                                          have hn8 : (v55).toInt.toNat = a124_8.toInt.toNat + 1 := by omega
                                                                                          have hi8 : a124_8 = nI a124_8.toInt.toNat := (nI_ofI (by omega)).1
                                                                                          have c0 : g124_ 25 0 0 = f 25 0 0 := hF124_ 25 0 0 rfl
                                                                                          have c2 : g124_ 25 0 2 = f 25 0 2 := hF124_ 25 0 2 rfl
                                                                                          have k26 : g124_ 26 0 = f 26 0 := funext (fun j => hF124_ 26 0 j rfl)
                                                                                          have k27 : g124_ 27 0 = f 27 0 := funext (fun j => hF124_ 27 0 j rfl)
                                                                                          have k28 : g124_ 28 0 = f 28 0 := funext (fun j => hF124_ 28 0 j rfl)
                                                                                          have k30 : g124_ 30 0 = f 30 0 := funext (fun j => hF124_ 30 0 j rfl)
                                                                                          have hv := zgs2 (f := f) hI c0 c2 k26 k27 k28 (hR124_0 a124_8.toInt.toNat (by omega)) hp24_0
                                                                                          obtain ⟨d4, d5, d6, d7⟩ := hR124_3
                                                                                          have hqs : zqs g124_ a124_2.toInt.toNat = a124_3.toInt.toNat := by unfold zqs; rw [← hR124_2]
                                                                                          have hgs : v24 = zGs f (zqs g124_ a124_2.toInt.toNat) a124_8.toInt.toNat := by
                                                                                            unfold zGs
                                                                                            rw [hqs, ← d4, ← d5, ← d6, ← d7]; exact hv
                                                                                          have x166 : (v30).toNatClampNeg = 8 * a124_8.toInt.toNat + 7 := by omega
                                                                                          have r166 := q31
                                                                                          rw [x166, k28] at r166
                                                                                          have x182 : (v33).toNatClampNeg = 8 * a124_8.toInt.toNat + 2 := by omega
                                                                                          have r182 := q34
                                                                                          rw [x182, k28] at r182
                                                                                          have e186 : v35 = f 28 0 (8 * a124_8.toInt.toNat + 7) &&& 1 := by rw [q35, r166]
                                                                                          have e190 : v36 = f 28 0 (8 * a124_8.toInt.toNat + 7) &&& 4 := by rw [q36, r166]
                                                                                          have e204 : v50 = f 28 0 (8 * a124_8.toInt.toNat + 7) &&& 2 := by rw [q50, r166]
                                                                                          have hs := hp53_0
                                                                                          have hG : zGp f (zqs g124_ a124_2.toInt.toNat) a124_8.toInt.toNat := ⟨by omega, fun z => absurd (hgs.trans z) (by assumption)⟩
                                                                                          have hN : (v53).toInt = (zNs f (zqs g124_ a124_2.toInt.toNat) a124_8.toInt.toNat : Nat) := by
                                                                                            unfold zNs
                                                                                            rw [hs, c2, r182, e186, if_pos (by omega)]
                                                                                            congr 1
                                                                                            first
                                                                                              | (rw [if_pos (show ¬ f 28 0 (8 * a124_8.toInt.toNat + 7) &&& 4 = 0 by rw [← e190]; assumption), hqs, ← d7])
                                                                                              | (rw [if_neg (show ¬ ¬ f 28 0 (8 * a124_8.toInt.toNat + 7) &&& 4 = 0 from fun z => z (by rw [← e190]; assumption))])
                                                                                            first
                                                                                              | (rw [if_pos (show ¬ f 28 0 (8 * a124_8.toInt.toNat + 7) &&& 2 = 0 by rw [← e204]; assumption), hgs, hqs]; done)
                                                                                              | (rw [if_pos (show ¬ f 28 0 (8 * a124_8.toInt.toNat + 7) &&& 2 = 0 by rw [← e204]; assumption), hgs]; done)
                                                                                              | (rw [if_neg (show ¬ ¬ f 28 0 (8 * a124_8.toInt.toNat + 7) &&& 2 = 0 from fun z => z (by rw [← e204]; assumption))]; done)
                                                                                          have b13 : 0 ≤ (g124_ 25 0 13).toInt ∧ (g124_ 25 0 13).toInt ≤ 21504 := hI124_ 25 0 13
                                                                                          rcases hp54_0 with ⟨h4, h⟩ | ⟨_, h⟩
                                                                                          · have hl := zQm_lt hR124_1 (by omega) h4
                                                                                            have es : (g124_ 25 0 13 + 1 : Int32).toInt = (g124_ 25 0 13).toInt + 1 := zadd_eb (x := g124_ 25 0 13) (hI124_ 25 0 13) (zB.of (x := 1) 1 (by decide)) (by decide) (by decide)
                                                                                            rw [h, zcom_x.2.2.2.2, es]; omega
                                                                                          · rw [h]; omega) (by omega) (by omega) (by omega)
              · skip
                have b56x : zB v50 1 2 := by have q1 := b50x; have q2 := (zB.of (x := 0) 0 (by decide)); simp only [z32lt, z32le, z32eq, Int32.reduceToInt, Int32.toInt_zero] at h205_50; constructor <;> omega
                refine z_iload (pc := 208) C dX10_findStates_208 rfl ?_
                refine z_goto (pc := 210) 216 C dX10_findStates_210 (by decide) ?_
                refine z_callV (pc := 216) C zk_X10_171 (x_X10_codeOf _ _ v34 b34x v35 b35x a124_7 (zB.wk (a' := (-4)) (b' := 5) b124_7 (by decide) (by decide)) v24 (zB.wk (a' := 0) (b' := 255) b28x (by decide) (by decide)) hI124_) rfl rfl (by decide) rfl rfl (Nat.le_of_ble_eq_true rfl) dX10_findStates_216 (fun r57 g57 q57 => ?_)
                obtain ⟨⟨v57, rfl, b57x⟩, hI57, hF57q, hp57_0⟩ := q57
                have hp57_0 := hp57_0 _ rfl
                obtain rfl := zFr_nil hF57q
                simp only [Option.toList, List.cons_append, List.nil_append]
                refine z_iload_n (pc := 219) C dX10_findStates_219 rfl ?_
                refine z_iload (pc := 220) C dX10_findStates_220 rfl ?_
                refine z_callV (pc := 222) C zk_X10_175 (x_X10_come _ _ v57 b57x a124_3 b124_3 a124_8 (zB.wk (a' := (-4)) (b' := 11) b21x (by decide) (by decide)) (by exact fun h => zQm_lt hR124_1 (by omega) h) hI124_) rfl rfl (by decide) rfl rfl (Nat.le_of_ble_eq_true rfl) dX10_findStates_222 (fun r58 g58 q58 => ?_)
                obtain ⟨rfl, hI58, hF58q, hp58_0⟩ := q58
                have hF58 := zFr.tr hF124_ hF58q (by decide)
                simp only [Option.toList, List.cons_append, List.nil_append]
                have cr58_25_0_13 : zB (g58 25 0 13) 0 21504 := hI58 25 0 13
                have ek58_25_0_4 : (g58 25 0 4).toInt = (g124_ 25 0 4).toInt := by rw [hF58q 25 0 4 rfl]
                have c58_25_0_4x : zB (g58 25 0 4) 1 12 := by rw [hF58q 25 0 4 rfl]; exact c23x
                refine z_iinc (pc := 225) (v := 1) C dX10_findStates_225 rfl (by decide) (by rw [hn]; decide) rfl ?_
                obtain ⟨v59, hv59, e59⟩ : ∃ v : Int32, v = a124_8 + 1 ∧ v.toInt = a124_8.toInt + 1 := ⟨_, rfl, zadd_eb b21x (zB.of (x := 1) 1 (by decide)) (by decide) (by decide)⟩
                rw [← hv59]
                have b59x : zB v59 1 12 := by have q9 := b21x; constructor <;> omega
                refine z_goto (pc := 228) 124 C dX10_findStates_228 (by decide) ?_
                refine w_mask [9, 10] ?_
                exact ih1 a124_1 b124_1 a124_2 b124_2 a124_3 b124_3 a124_4 b124_4 a124_5 b124_5 a124_6 b124_6 a124_7 b124_7 v59 (zB.wk (a' := 0) (b' := 12) b59x (by decide) (by decide)) g58 hI58 hF58 (zB.wk c58_25_0_4x (by decide) (by decide)) cr58_25_0_13 (by
                                                                                          have hn8 : (v59).toInt.toNat = a124_8.toInt.toNat + 1 := by omega
                                                                                          have hi8 : a124_8 = nI a124_8.toInt.toNat := (nI_ofI (by omega)).1
                                                                                          have c0 : g124_ 25 0 0 = f 25 0 0 := hF124_ 25 0 0 rfl
                                                                                          have c2 : g124_ 25 0 2 = f 25 0 2 := hF124_ 25 0 2 rfl
                                                                                          have k26 : g124_ 26 0 = f 26 0 := funext (fun j => hF124_ 26 0 j rfl)
                                                                                          have k27 : g124_ 27 0 = f 27 0 := funext (fun j => hF124_ 27 0 j rfl)
                                                                                          have k28 : g124_ 28 0 = f 28 0 := funext (fun j => hF124_ 28 0 j rfl)
                                                                                          have k30 : g124_ 30 0 = f 30 0 := funext (fun j => hF124_ 30 0 j rfl)
                                                                                          have hv := zgs2 (f := f) hI c0 c2 k26 k27 k28 (hR124_0 a124_8.toInt.toNat (by omega)) hp24_0
                                                                                          obtain ⟨d4, d5, d6, d7⟩ := hR124_3
                                                                                          have hqs : zqs g124_ a124_2.toInt.toNat = a124_3.toInt.toNat := by unfold zqs; rw [← hR124_2]
                                                                                          have hgs : v24 = zGs f (zqs g124_ a124_2.toInt.toNat) a124_8.toInt.toNat := by
                                                                                            unfold zGs
                                                                                            rw [hqs, ← d4, ← d5, ← d6, ← d7]; exact hv
                                                                                          have x166 : (v30).toNatClampNeg = 8 * a124_8.toInt.toNat + 7 := by omega
                                                                                          have r166 := q31
                                                                                          rw [x166, k28] at r166
                                                                                          have x182 : (v33).toNatClampNeg = 8 * a124_8.toInt.toNat + 2 := by omega
                                                                                          have r182 := q34
                                                                                          rw [x182, k28] at r182
                                                                                          have e186 : v35 = f 28 0 (8 * a124_8.toInt.toNat + 7) &&& 1 := by rw [q35, r166]
                                                                                          have e190 : v36 = f 28 0 (8 * a124_8.toInt.toNat + 7) &&& 4 := by rw [q36, r166]
                                                                                          have e204 : v50 = f 28 0 (8 * a124_8.toInt.toNat + 7) &&& 2 := by rw [q50, r166]
                                                                                          have hs := hp57_0
                                                                                          have hG : zGp f (zqs g124_ a124_2.toInt.toNat) a124_8.toInt.toNat := ⟨by omega, fun z => absurd (hgs.trans z) (by assumption)⟩
                                                                                          have hN : (v57).toInt = (zNs f (zqs g124_ a124_2.toInt.toNat) a124_8.toInt.toNat : Nat) := by
                                                                                            unfold zNs
                                                                                            rw [hs, c2, r182, e186, if_pos (by omega)]
                                                                                            congr 1
                                                                                            first
                                                                                              | (rw [if_pos (show ¬ f 28 0 (8 * a124_8.toInt.toNat + 7) &&& 4 = 0 by rw [← e190]; assumption), hqs, ← d7])
                                                                                              | (rw [if_neg (show ¬ ¬ f 28 0 (8 * a124_8.toInt.toNat + 7) &&& 4 = 0 from fun z => z (by rw [← e190]; assumption))])
                                                                                            first
                                                                                              | (rw [if_pos (show ¬ f 28 0 (8 * a124_8.toInt.toNat + 7) &&& 2 = 0 by rw [← e204]; assumption), hgs, hqs]; done)
                                                                                              | (rw [if_pos (show ¬ f 28 0 (8 * a124_8.toInt.toNat + 7) &&& 2 = 0 by rw [← e204]; assumption), hgs]; done)
                                                                                              | (rw [if_neg (show ¬ ¬ f 28 0 (8 * a124_8.toInt.toNat + 7) &&& 2 = 0 from fun z => z (by rw [← e204]; assumption))]; done)
                                                                                          intro q hq
                                                                                          rcases hp58_0 with ⟨_, h⟩ | ⟨_, h⟩
                                                                                          · rw [h, zcom_x.1 31 0 q (by omega) (by omega) (by omega) (by omega)]; exact hR124_0 q hq
                                                                                          · rw [h]; exact hR124_0 q hq) (by
                                                                                          have hn8 : (v59).toInt.toNat = a124_8.toInt.toNat + 1 := by omega
                                                                                          have hi8 : a124_8 = nI a124_8.toInt.toNat := (nI_ofI (by omega)).1
                                                                                          have c0 : g124_ 25 0 0 = f 25 0 0 := hF124_ 25 0 0 rfl
                                                                                          have c2 : g124_ 25 0 2 = f 25 0 2 := hF124_ 25 0 2 rfl
                                                                                          have k26 : g124_ 26 0 = f 26 0 := funext (fun j => hF124_ 26 0 j rfl)
                                                                                          have k27 : g124_ 27 0 = f 27 0 := funext (fun j => hF124_ 27 0 j rfl)
                                                                                          have k28 : g124_ 28 0 = f 28 0 := funext (fun j => hF124_ 28 0 j rfl)
                                                                                          have k30 : g124_ 30 0 = f 30 0 := funext (fun j => hF124_ 30 0 j rfl)
                                                                                          have hv := zgs2 (f := f) hI c0 c2 k26 k27 k28 (hR124_0 a124_8.toInt.toNat (by omega)) hp24_0
                                                                                          obtain ⟨d4, d5, d6, d7⟩ := hR124_3
                                                                                          have hqs : zqs g124_ a124_2.toInt.toNat = a124_3.toInt.toNat := by unfold zqs; rw [← hR124_2]
                                                                                          have hgs : v24 = zGs f (zqs g124_ a124_2.toInt.toNat) a124_8.toInt.toNat := by
                                                                                            unfold zGs
                                                                                            rw [hqs, ← d4, ← d5, ← d6, ← d7]; exact hv
                                                                                          have x166 : (v30).toNatClampNeg = 8 * a124_8.toInt.toNat + 7 := by omega
                                                                                          have r166 := q31
                                                                                          rw [x166, k28] at r166
                                                                                          have x182 : (v33).toNatClampNeg = 8 * a124_8.toInt.toNat + 2 := by omega
                                                                                          have r182 := q34
                                                                                          rw [x182, k28] at r182
                                                                                          have e186 : v35 = f 28 0 (8 * a124_8.toInt.toNat + 7) &&& 1 := by rw [q35, r166]
                                                                                          have e190 : v36 = f 28 0 (8 * a124_8.toInt.toNat + 7) &&& 4 := by rw [q36, r166]
                                                                                          have e204 : v50 = f 28 0 (8 * a124_8.toInt.toNat + 7) &&& 2 := by rw [q50, r166]
                                                                                          have hs := hp57_0
                                                                                          have hG : zGp f (zqs g124_ a124_2.toInt.toNat) a124_8.toInt.toNat := ⟨by omega, fun z => absurd (hgs.trans z) (by assumption)⟩
                                                                                          have hN : (v57).toInt = (zNs f (zqs g124_ a124_2.toInt.toNat) a124_8.toInt.toNat : Nat) := by
                                                                                            unfold zNs
                                                                                            rw [hs, c2, r182, e186, if_pos (by omega)]
                                                                                            congr 1
                                                                                            first
                                                                                              | (rw [if_pos (show ¬ f 28 0 (8 * a124_8.toInt.toNat + 7) &&& 4 = 0 by rw [← e190]; assumption), hqs, ← d7])
                                                                                              | (rw [if_neg (show ¬ ¬ f 28 0 (8 * a124_8.toInt.toNat + 7) &&& 4 = 0 from fun z => z (by rw [← e190]; assumption))])
                                                                                            first
                                                                                              | (rw [if_pos (show ¬ f 28 0 (8 * a124_8.toInt.toNat + 7) &&& 2 = 0 by rw [← e204]; assumption), hgs, hqs]; done)
                                                                                              | (rw [if_pos (show ¬ f 28 0 (8 * a124_8.toInt.toNat + 7) &&& 2 = 0 by rw [← e204]; assumption), hgs]; done)
                                                                                              | (rw [if_neg (show ¬ ¬ f 28 0 (8 * a124_8.toInt.toNat + 7) &&& 2 = 0 from fun z => z (by rw [← e204]; assumption))]; done)
                                                                                          rw [hn8]
                                                                                          rcases hp58_0 with ⟨h4, h⟩ | ⟨h4, h⟩
                                                                                          · rw [h, hR124_2, hi8, nI_tt (by omega)]
                                                                                            exact zQm_add hI124_ hR124_1 (by unfold zqn; omega) (by omega) hG hN (by omega) h4
                                                                                          · rw [h]
                                                                                            refine zQm_skip hR124_1 (fun _ => ?_)
                                                                                            obtain ⟨k, k1, k2⟩ := (hR124_1.2.1 (v57).toInt.toNat (by omega)).mp h4
                                                                                            exact ⟨k, k1, by rw [k2]; omega⟩) (by
                                                                                          have hn8 : (v59).toInt.toNat = a124_8.toInt.toNat + 1 := by omega
                                                                                          have hi8 : a124_8 = nI a124_8.toInt.toNat := (nI_ofI (by omega)).1
                                                                                          have c0 : g124_ 25 0 0 = f 25 0 0 := hF124_ 25 0 0 rfl
                                                                                          have c2 : g124_ 25 0 2 = f 25 0 2 := hF124_ 25 0 2 rfl
                                                                                          have k26 : g124_ 26 0 = f 26 0 := funext (fun j => hF124_ 26 0 j rfl)
                                                                                          have k27 : g124_ 27 0 = f 27 0 := funext (fun j => hF124_ 27 0 j rfl)
                                                                                          have k28 : g124_ 28 0 = f 28 0 := funext (fun j => hF124_ 28 0 j rfl)
                                                                                          have k30 : g124_ 30 0 = f 30 0 := funext (fun j => hF124_ 30 0 j rfl)
                                                                                          have hv := zgs2 (f := f) hI c0 c2 k26 k27 k28 (hR124_0 a124_8.toInt.toNat (by omega)) hp24_0
                                                                                          obtain ⟨d4, d5, d6, d7⟩ := hR124_3
                                                                                          have hqs : zqs g124_ a124_2.toInt.toNat = a124_3.toInt.toNat := by unfold zqs; rw [← hR124_2]
                                                                                          have hgs : v24 = zGs f (zqs g124_ a124_2.toInt.toNat) a124_8.toInt.toNat := by
                                                                                            unfold zGs
                                                                                            rw [hqs, ← d4, ← d5, ← d6, ← d7]; exact hv
                                                                                          have x166 : (v30).toNatClampNeg = 8 * a124_8.toInt.toNat + 7 := by omega
                                                                                          have r166 := q31
                                                                                          rw [x166, k28] at r166
                                                                                          have x182 : (v33).toNatClampNeg = 8 * a124_8.toInt.toNat + 2 := by omega
                                                                                          have r182 := q34
                                                                                          rw [x182, k28] at r182
                                                                                          have e186 : v35 = f 28 0 (8 * a124_8.toInt.toNat + 7) &&& 1 := by rw [q35, r166]
                                                                                          have e190 : v36 = f 28 0 (8 * a124_8.toInt.toNat + 7) &&& 4 := by rw [q36, r166]
                                                                                          have e204 : v50 = f 28 0 (8 * a124_8.toInt.toNat + 7) &&& 2 := by rw [q50, r166]
                                                                                          have hs := hp57_0
                                                                                          have hG : zGp f (zqs g124_ a124_2.toInt.toNat) a124_8.toInt.toNat := ⟨by omega, fun z => absurd (hgs.trans z) (by assumption)⟩
                                                                                          have hN : (v57).toInt = (zNs f (zqs g124_ a124_2.toInt.toNat) a124_8.toInt.toNat : Nat) := by
                                                                                            unfold zNs
                                                                                            rw [hs, c2, r182, e186, if_pos (by omega)]
                                                                                            congr 1
                                                                                            first
                                                                                              | (rw [if_pos (show ¬ f 28 0 (8 * a124_8.toInt.toNat + 7) &&& 4 = 0 by rw [← e190]; assumption), hqs, ← d7])
                                                                                              | (rw [if_neg (show ¬ ¬ f 28 0 (8 * a124_8.toInt.toNat + 7) &&& 4 = 0 from fun z => z (by rw [← e190]; assumption))])
                                                                                            first
                                                                                              | (rw [if_pos (show ¬ f 28 0 (8 * a124_8.toInt.toNat + 7) &&& 2 = 0 by rw [← e204]; assumption), hgs, hqs]; done)
                                                                                              | (rw [if_pos (show ¬ f 28 0 (8 * a124_8.toInt.toNat + 7) &&& 2 = 0 by rw [← e204]; assumption), hgs]; done)
                                                                                              | (rw [if_neg (show ¬ ¬ f 28 0 (8 * a124_8.toInt.toNat + 7) &&& 2 = 0 from fun z => z (by rw [← e204]; assumption))]; done)
                                                                                          rcases hp58_0 with ⟨_, h⟩ | ⟨_, h⟩
                                                                                          · rw [h, zcom_x.1 34 0 _ (by omega) (by omega) (by omega) (by omega)]; exact hR124_2
                                                                                          · rw [h]; exact hR124_2) (by exact hR124_3) (by
                                                                                          have hn8 : (v59).toInt.toNat = a124_8.toInt.toNat + 1 := by omega
                                                                                          have hi8 : a124_8 = nI a124_8.toInt.toNat := (nI_ofI (by omega)).1
                                                                                          have c0 : g124_ 25 0 0 = f 25 0 0 := hF124_ 25 0 0 rfl
                                                                                          have c2 : g124_ 25 0 2 = f 25 0 2 := hF124_ 25 0 2 rfl
                                                                                          have k26 : g124_ 26 0 = f 26 0 := funext (fun j => hF124_ 26 0 j rfl)
                                                                                          have k27 : g124_ 27 0 = f 27 0 := funext (fun j => hF124_ 27 0 j rfl)
                                                                                          have k28 : g124_ 28 0 = f 28 0 := funext (fun j => hF124_ 28 0 j rfl)
                                                                                          have k30 : g124_ 30 0 = f 30 0 := funext (fun j => hF124_ 30 0 j rfl)
                                                                                          have hv := zgs2 (f := f) hI c0 c2 k26 k27 k28 (hR124_0 a124_8.toInt.toNat (by omega)) hp24_0
                                                                                          obtain ⟨d4, d5, d6, d7⟩ := hR124_3
                                                                                          have hqs : zqs g124_ a124_2.toInt.toNat = a124_3.toInt.toNat := by unfold zqs; rw [← hR124_2]
                                                                                          have hgs : v24 = zGs f (zqs g124_ a124_2.toInt.toNat) a124_8.toInt.toNat := by
                                                                                            unfold zGs
                                                                                            rw [hqs, ← d4, ← d5, ← d6, ← d7]; exact hv
                                                                                          have x166 : (v30).toNatClampNeg = 8 * a124_8.toInt.toNat + 7 := by omega
                                                                                          have r166 := q31
                                                                                          rw [x166, k28] at r166
                                                                                          have x182 : (v33).toNatClampNeg = 8 * a124_8.toInt.toNat + 2 := by omega
                                                                                          have r182 := q34
                                                                                          rw [x182, k28] at r182
                                                                                          have e186 : v35 = f 28 0 (8 * a124_8.toInt.toNat + 7) &&& 1 := by rw [q35, r166]
                                                                                          have e190 : v36 = f 28 0 (8 * a124_8.toInt.toNat + 7) &&& 4 := by rw [q36, r166]
                                                                                          have e204 : v50 = f 28 0 (8 * a124_8.toInt.toNat + 7) &&& 2 := by rw [q50, r166]
                                                                                          have hs := hp57_0
                                                                                          have hG : zGp f (zqs g124_ a124_2.toInt.toNat) a124_8.toInt.toNat := ⟨by omega, fun z => absurd (hgs.trans z) (by assumption)⟩
                                                                                          have hN : (v57).toInt = (zNs f (zqs g124_ a124_2.toInt.toNat) a124_8.toInt.toNat : Nat) := by
                                                                                            unfold zNs
                                                                                            rw [hs, c2, r182, e186, if_pos (by omega)]
                                                                                            congr 1
                                                                                            first
                                                                                              | (rw [if_pos (show ¬ f 28 0 (8 * a124_8.toInt.toNat + 7) &&& 4 = 0 by rw [← e190]; assumption), hqs, ← d7])
                                                                                              | (rw [if_neg (show ¬ ¬ f 28 0 (8 * a124_8.toInt.toNat + 7) &&& 4 = 0 from fun z => z (by rw [← e190]; assumption))])
                                                                                            first
                                                                                              | (rw [if_pos (show ¬ f 28 0 (8 * a124_8.toInt.toNat + 7) &&& 2 = 0 by rw [← e204]; assumption), hgs, hqs]; done)
                                                                                              | (rw [if_pos (show ¬ f 28 0 (8 * a124_8.toInt.toNat + 7) &&& 2 = 0 by rw [← e204]; assumption), hgs]; done)
                                                                                              | (rw [if_neg (show ¬ ¬ f 28 0 (8 * a124_8.toInt.toNat + 7) &&& 2 = 0 from fun z => z (by rw [← e204]; assumption))]; done)
                                                                                          have b13 : 0 ≤ (g124_ 25 0 13).toInt ∧ (g124_ 25 0 13).toInt ≤ 21504 := hI124_ 25 0 13
                                                                                          rcases hp58_0 with ⟨h4, h⟩ | ⟨_, h⟩
                                                                                          · have hl := zQm_lt hR124_1 (by omega) h4
                                                                                            have es : (g124_ 25 0 13 + 1 : Int32).toInt = (g124_ 25 0 13).toInt + 1 := zadd_eb (x := g124_ 25 0 13) (hI124_ 25 0 13) (zB.of (x := 1) 1 (by decide)) (by decide) (by decide)
                                                                                            rw [h, zcom_x.2.2.2.2, es]; omega
                                                                                          · rw [h]; omega) (by omega) (by omega) (by omega)
  obtain ⟨J0, J1⟩ := J 1204345
  show Z X 0 [some (zr 25 0), none, none, none, none, none, none, none, none, none, none] [] f
  refine z_aload_n (pc := 0) C dX10_findStates_0 rfl ?_
  refine z_callV (pc := 1) C zk_X10_151 (x_X10_findOpen _ _  hI) rfl rfl (by decide) rfl rfl (Nat.le_of_ble_eq_true rfl) dX10_findStates_1 (fun r60 g60 q60 => ?_)
  obtain ⟨rfl, hI60, hF60q, hp60_0⟩ := q60
  have hF60 := zFr.tr hF hF60q (by decide)
  simp only [Option.toList, List.cons_append, List.nil_append]
  have ek60_25_0_13 : (g60 25 0 13).toInt = (f 25 0 13).toInt := by rw [hF60q 25 0 13 rfl]
  have c60_25_0_13x : zB (g60 25 0 13) 0 21504 := by rw [hF60q 25 0 13 rfl]; exact ct25_0_13
  have ek60_25_0_4 : (g60 25 0 4).toInt = (f 25 0 4).toInt := by rw [hF60q 25 0 4 rfl]
  have c60_25_0_4x : zB (g60 25 0 4) 0 12 := by rw [hF60q 25 0 4 rfl]; exact ct25_0_4
  refine z_iconst (pc := 4) (v := 0) C dX10_findStates_4 (by decide) ?_
  refine z_istore_n (pc := 5) C dX10_findStates_5 (by rw [hn]; decide) rfl ?_
  rw [← zfill_0 g60 32 0 (-4)]
  refine fs_fill C hn ?_ 21504 0 rfl
  refine w_mask [1] ?_
  refine w_fillx hI60 hF60 (fun j => (show (-4 : Int) ≤ (-4 : Int32).toInt ∧ (-4 : Int32).toInt ≤ 21503 by decide)) (fun j => rfl) (fun g61 qm61 hI61 hF61 => ?_)
  have ek61_25_0_13 : (g61 25 0 13).toInt = (g60 25 0 13).toInt := by rw [(show g61 25 0 13 = g60 25 0 13 by rw [qm61]; exact zfill_ne (by omega))]
  have c61_25_0_13x : zB (g61 25 0 13) 0 21504 := by rw [(show g61 25 0 13 = g60 25 0 13 by rw [qm61]; exact zfill_ne (by omega))]; exact c60_25_0_13x
  have ek61_25_0_4 : (g61 25 0 4).toInt = (g60 25 0 4).toInt := by rw [(show g61 25 0 4 = g60 25 0 4 by rw [qm61]; exact zfill_ne (by omega))]
  have c61_25_0_4x : zB (g61 25 0 4) 0 12 := by rw [(show g61 25 0 4 = g60 25 0 4 by rw [qm61]; exact zfill_ne (by omega))]; exact c60_25_0_4x
  refine z_aload_n (pc := 27) C dX10_findStates_27 rfl ?_
  refine z_iconst (pc := 28) (v := 0) C dX10_findStates_28 (by decide) ?_
  refine z_putI (pc := 29) C zf_X10_168 zp_10_13 rfl rfl (by decide) dX10_findStates_29 ?_
  refine w_memx hI61 hF61 (zB.wk (a' := 0) (b' := 21504) (zB.of (x := 0) 0 (by decide)) (by decide) (by decide)) rfl (fun g62 qm62 hI62 hF62 hq62 hx62 => ?_)
  have ec62 : (g62 25 0 13).toInt = (0 : Int32).toInt := by rw [hx62]
  have c62x : zB (g62 25 0 13) 0 0 := by have q9 := (zB.of (x := 0) 0 (by decide)); constructor <;> omega
  have ek62_25_0_4 : (g62 25 0 4).toInt = (g61 25 0 4).toInt := by rw [hq62 25 0 4 (by omega)]
  have c62_25_0_4x : zB (g62 25 0 4) 0 12 := by rw [hq62 25 0 4 (by omega)]; exact c61_25_0_4x
  refine z_aload_n (pc := 32) C dX10_findStates_32 rfl ?_
  refine z_aload_n (pc := 33) C dX10_findStates_33 rfl ?_
  refine z_getR (pc := 34) C zf_X10_22 rfl rfl (by decide) dX10_findStates_34 ?_
  refine z_iconst (pc := 37) (v := 1) C dX10_findStates_37 (by decide) ?_
  refine z_iald (pc := 38) C rfl (by decide) (zIx (zB.of (x := 1) 1 (by decide)) (by decide) (by decide)) dX10_findStates_38 ?_
  have kq38_62 : (1 : Int32).toNatClampNeg = (1 : Int32).toInt.toNat := rfl
  refine w_gp (fun v => v = g62 30 0 (1 : Int32).toNatClampNeg) rfl (fun v63 q63 => ?_)
  have b63x : zB v63 0 5 := by rw [q63]; exact (hI62 30 0 (1 : Int32).toNatClampNeg)
  refine z_aload_n (pc := 39) C dX10_findStates_39 rfl ?_
  refine z_getR (pc := 40) C zf_X10_22 rfl rfl (by decide) dX10_findStates_40 ?_
  refine z_iconst (pc := 43) (v := 3) C dX10_findStates_43 (by decide) ?_
  refine z_iald (pc := 44) C rfl (by decide) (zIx (zB.of (x := 3) 3 (by decide)) (by decide) (by decide)) dX10_findStates_44 ?_
  have kq44_63 : (3 : Int32).toNatClampNeg = (3 : Int32).toInt.toNat := rfl
  refine w_gp (fun v => v = g62 30 0 (3 : Int32).toNatClampNeg) rfl (fun v64 q64 => ?_)
  have b64x : zB v64 0 1 := by rw [q64]; exact (hI62 30 0 (3 : Int32).toNatClampNeg)
  refine z_aload_n (pc := 45) C dX10_findStates_45 rfl ?_
  refine z_getR (pc := 46) C zf_X10_22 rfl rfl (by decide) dX10_findStates_46 ?_
  refine z_iconst (pc := 49) (v := 4) C dX10_findStates_49 (by decide) ?_
  refine z_iald (pc := 50) C rfl (by decide) (zIx (zB.of (x := 4) 4 (by decide)) (by decide) (by decide)) dX10_findStates_50 ?_
  have kq50_64 : (4 : Int32).toNatClampNeg = (4 : Int32).toInt.toNat := rfl
  refine w_gp (fun v => v = g62 30 0 (4 : Int32).toNatClampNeg) rfl (fun v65 q65 => ?_)
  have b65x : zB v65 (-4) 5 := by rw [q65]; exact (hI62 30 0 (4 : Int32).toNatClampNeg)
  refine z_aload_n (pc := 51) C dX10_findStates_51 rfl ?_
  refine z_getR (pc := 52) C zf_X10_22 rfl rfl (by decide) dX10_findStates_52 ?_
  refine z_iconst (pc := 55) (v := 5) C dX10_findStates_55 (by decide) ?_
  refine z_iald (pc := 56) C rfl (by decide) (zIx (zB.of (x := 5) 5 (by decide)) (by decide) (by decide)) dX10_findStates_56 ?_
  have kq56_65 : (5 : Int32).toNatClampNeg = (5 : Int32).toInt.toNat := rfl
  refine w_gp (fun v => v = g62 30 0 (5 : Int32).toNatClampNeg) rfl (fun v66 q66 => ?_)
  have b66x : zB v66 0 255 := by rw [q66]; exact (hI62 30 0 (5 : Int32).toNatClampNeg)
  refine z_callV (pc := 57) C zk_X10_171 (x_X10_codeOf _ _ v63 b63x v64 b64x v65 b65x v66 b66x hI62) rfl rfl (by decide) rfl rfl (Nat.le_of_ble_eq_true rfl) dX10_findStates_57 (fun r67 g67 q67 => ?_)
  obtain ⟨⟨v67, rfl, b67x⟩, hI67, hF67q, hp67_0⟩ := q67
  have hp67_0 := hp67_0 _ rfl
  obtain rfl := zFr_nil hF67q
  simp only [Option.toList, List.cons_append, List.nil_append]
  refine z_istore_n (pc := 60) C dX10_findStates_60 (by rw [hn]; decide) rfl ?_
  refine z_aload_n (pc := 61) C dX10_findStates_61 rfl ?_
  refine z_iload_n (pc := 62) C dX10_findStates_62 rfl ?_
  refine z_iload_n (pc := 63) C dX10_findStates_63 rfl ?_
  refine z_bipush (pc := 64) (v := -4) C dX10_findStates_64 (by decide) ?_
  refine z_callV (pc := 66) C zk_X10_175 (x_X10_come _ _ v67 b67x v67 b67x (-4) (zB.wk (a' := (-4)) (b' := 11) (zB.of (x := (-4)) (-4) (by decide)) (by decide) (by decide)) (by intro _; omega) hI62) rfl rfl (by decide) rfl rfl (Nat.le_of_ble_eq_true rfl) dX10_findStates_66 (fun r68 g68 q68 => ?_)
  have qa68_m4 : ((-4) : Int32).toInt = (-4) := by decide
  obtain ⟨rfl, hI68, hF68q, hp68_0⟩ := q68
  have hF68 := zFr.tr hF62 hF68q (by decide)
  simp only [Option.toList, List.cons_append, List.nil_append]
  have cr68_25_0_13 : zB (g68 25 0 13) 0 21504 := hI68 25 0 13
  have ek68_25_0_4 : (g68 25 0 4).toInt = (g62 25 0 4).toInt := by rw [hF68q 25 0 4 rfl]
  have c68_25_0_4x : zB (g68 25 0 4) 0 12 := by rw [hF68q 25 0 4 rfl]; exact c62_25_0_4x
  refine z_iconst (pc := 69) (v := 0) C dX10_findStates_69 (by decide) ?_
  refine z_istore_n (pc := 70) C dX10_findStates_70 (by rw [hn]; decide) rfl ?_
  exact J0 v67 b67x 0 (zB.wk (a' := 0) (b' := 21504) (zB.of (x := 0) 0 (by decide)) (by decide) (by decide)) g68 hI68 hF68 c68_25_0_4x cr68_25_0_13 (by
                                                                                          have e3 : ∀ a b c, a ≠ 31 → a ≠ 32 → ¬ (a = 25 ∧ c = 13) → g62 a b c = f a b c := fun a b c h1 h2 h3 => by
                                                                                            rw [qm62, zup_ne _ _ (by omega), qm61, zfill_ne (by omega)]
                                                                                            exact hF60q a b c (by simp [zS]; omega)
                                                                                          have hA : ∀ i, i < 21504 → g62 32 0 i = -4 := fun i hi => by
                                                                                            rw [qm62, zup_ne _ _ (by omega), qm61]
                                                                                            unfold zfill
                                                                                            exact if_pos ⟨rfl, rfl, hi⟩
                                                                                          have h13 : g62 25 0 13 = 0 := by rw [qm62, zup_same]
                                                                                          have r38 : v63 = f 30 0 1 := (q63 : v63 = g62 30 0 1).trans (e3 _ _ _ (by decide) (by decide) (by omega))
                                                                                          have r44 : v64 = f 30 0 3 := (q64 : v64 = g62 30 0 3).trans (e3 _ _ _ (by decide) (by decide) (by omega))
                                                                                          have r50 : v65 = f 30 0 4 := (q65 : v65 = g62 30 0 4).trans (e3 _ _ _ (by decide) (by decide) (by omega))
                                                                                          have r56 : v66 = f 30 0 5 := (q66 : v66 = g62 30 0 5).trans (e3 _ _ _ (by decide) (by decide) (by omega))
                                                                                          have hs := hp67_0
                                                                                          rw [e3 25 0 2 (by decide) (by decide) (by omega), r38, r44, r50, r56] at hs
                                                                                          have hc : g68 = zcom g62 v67 v67 (-4) := by
                                                                                            rcases hp68_0 with ⟨_, h⟩ | ⟨h, _⟩
                                                                                            · exact h
                                                                                            · exact absurd (hA _ (by omega)) h
                                                                                          intro q hq
                                                                                          rw [hc, zcom_x.1 31 0 q (by omega) (by omega) (by omega) (by omega), qm62, zup_ne _ _ (by omega), qm61, zfill_ne (by omega)]
                                                                                          exact hp60_0 q hq) (by
                                                                                          have e3 : ∀ a b c, a ≠ 31 → a ≠ 32 → ¬ (a = 25 ∧ c = 13) → g62 a b c = f a b c := fun a b c h1 h2 h3 => by
                                                                                            rw [qm62, zup_ne _ _ (by omega), qm61, zfill_ne (by omega)]
                                                                                            exact hF60q a b c (by simp [zS]; omega)
                                                                                          have hA : ∀ i, i < 21504 → g62 32 0 i = -4 := fun i hi => by
                                                                                            rw [qm62, zup_ne _ _ (by omega), qm61]
                                                                                            unfold zfill
                                                                                            exact if_pos ⟨rfl, rfl, hi⟩
                                                                                          have h13 : g62 25 0 13 = 0 := by rw [qm62, zup_same]
                                                                                          have r38 : v63 = f 30 0 1 := (q63 : v63 = g62 30 0 1).trans (e3 _ _ _ (by decide) (by decide) (by omega))
                                                                                          have r44 : v64 = f 30 0 3 := (q64 : v64 = g62 30 0 3).trans (e3 _ _ _ (by decide) (by decide) (by omega))
                                                                                          have r50 : v65 = f 30 0 4 := (q65 : v65 = g62 30 0 4).trans (e3 _ _ _ (by decide) (by decide) (by omega))
                                                                                          have r56 : v66 = f 30 0 5 := (q66 : v66 = g62 30 0 5).trans (e3 _ _ _ (by decide) (by decide) (by omega))
                                                                                          have hs := hp67_0
                                                                                          rw [e3 25 0 2 (by decide) (by decide) (by omega), r38, r44, r50, r56] at hs
                                                                                          have hc : g68 = zcom g62 v67 v67 (-4) := by
                                                                                            rcases hp68_0 with ⟨_, h⟩ | ⟨h, _⟩
                                                                                            · exact h
                                                                                            · exact absurd (hA _ (by omega)) h
                                                                                          rw [hc]
                                                                                          exact zQm_0 hA h13 hs (by omega)) (by
                                                                                          have e3 : ∀ a b c, a ≠ 31 → a ≠ 32 → ¬ (a = 25 ∧ c = 13) → g62 a b c = f a b c := fun a b c h1 h2 h3 => by
                                                                                            rw [qm62, zup_ne _ _ (by omega), qm61, zfill_ne (by omega)]
                                                                                            exact hF60q a b c (by simp [zS]; omega)
                                                                                          have hA : ∀ i, i < 21504 → g62 32 0 i = -4 := fun i hi => by
                                                                                            rw [qm62, zup_ne _ _ (by omega), qm61]
                                                                                            unfold zfill
                                                                                            exact if_pos ⟨rfl, rfl, hi⟩
                                                                                          have h13 : g62 25 0 13 = 0 := by rw [qm62, zup_same]
                                                                                          have r38 : v63 = f 30 0 1 := (q63 : v63 = g62 30 0 1).trans (e3 _ _ _ (by decide) (by decide) (by omega))
                                                                                          have r44 : v64 = f 30 0 3 := (q64 : v64 = g62 30 0 3).trans (e3 _ _ _ (by decide) (by decide) (by omega))
                                                                                          have r50 : v65 = f 30 0 4 := (q65 : v65 = g62 30 0 4).trans (e3 _ _ _ (by decide) (by decide) (by omega))
                                                                                          have r56 : v66 = f 30 0 5 := (q66 : v66 = g62 30 0 5).trans (e3 _ _ _ (by decide) (by decide) (by omega))
                                                                                          have hs := hp67_0
                                                                                          rw [e3 25 0 2 (by decide) (by decide) (by omega), r38, r44, r50, r56] at hs
                                                                                          have hc : g68 = zcom g62 v67 v67 (-4) := by
                                                                                            rcases hp68_0 with ⟨_, h⟩ | ⟨h, _⟩
                                                                                            · exact h
                                                                                            · exact absurd (hA _ (by omega)) h
                                                                                          rw [hc, zcom_x.2.2.2.2, h13]
                                                                                          decide) (by have qc0 : (0 : Int32).toInt = 0 := (by decide); omega) (by have qc0 : (0 : Int32).toInt = 0 := (by decide); omega)

theorem zone6 {d : Nat} (hd : d < 6) : (1 : Int32) <<< (nI d &&& 31) = zbf (fun i => i = d) 6 :=
  zbf_ext (by decide) (fun i hi => by
    rw [b_one d (by omega) i hi, decide_eq_true_iff]
    constructor
    · intro q; subst q; exact ⟨hd, rfl⟩
    · intro q; exact q.2)
theorem zbk_s (w : Nat) : ∀ c, zbk (c + 1) w = zbk c w / 12 := by
  intro c
  induction c generalizing w with
  | zero => rfl
  | succ c ih => show zbk (c + 1) (w / 12) = zbk c (w / 12) / 12; exact ih (w / 12)
theorem zbk_0 {w c : Nat} (h : zbk c w ≤ 1) : ∀ j, zbk (c + j + 1) w = 0 := by
  intro j
  induction j with
  | zero => rw [Nat.add_zero, zbk_s]; omega
  | succ j ih => rw [show c + (j + 1) + 1 = (c + j + 1) + 1 from rfl, zbk_s, ih]
theorem zbk_u {w c d : Nat} (h : zbk c w = 1) (h2 : zbk d w = 1) : c = d := by
  rcases Nat.lt_trichotomy c d with q | q | q
  · have := zbk_0 (w := w) (c := c) (by omega) (d - c - 1)
    rw [show c + (d - c - 1) + 1 = d by omega] at this; omega
  · exact q
  · have := zbk_0 (w := w) (c := d) (by omega) (c - d - 1)
    rw [show d + (c - d - 1) + 1 = c by omega] at this; omega
/-- what is asked of a road that is a number -/
def zAns (w : Nat) (i : Int) (v : Int32) : Prop := ∃ c, zbk c w = 1 ∧ ((i = -1 ∧ v.toInt = c) ∨ (0 ≤ i ∧ (c : Int) ≤ i ∧ v = -4) ∨ (0 ≤ i ∧ i < c ∧ v.toInt = (zbk (c - 1 - i.toNat) w % 12 : Nat)))
theorem zAns_u {w : Nat} {i : Int} {v v2 : Int32} (h : zAns w i v) (h2 : zAns w i v2) : v2 = v := by
  obtain ⟨c, c1, c2⟩ := h
  obtain ⟨d, d1, d2⟩ := h2
  have := zbk_u c1 d1
  subst this
  rcases c2 with ⟨a1, a2⟩ | ⟨a1, a2, a3⟩ | ⟨a1, a2, a3⟩ <;> rcases d2 with ⟨b1, b2⟩ | ⟨b1, b2, b3⟩ | ⟨b1, b2, b3⟩
  · rw [z32eq]; omega
  · omega
  · omega
  · omega
  · rw [a3, b3]
  · omega
  · omega
  · omega
  · rw [z32eq]; omega
/-- a state in which he may be tried there for it -/
def zQr (f : zM) (a : Int32) (d s : Nat) : Prop := zAt_ s = a ∧ (¬ zcw (fun k j => f 26 0 (6 * k + j)) (f 27 0 (5 * d + 0)) (a) (f 25 0 0).toInt.toNat = 0 ∧ f 27 0 (5 * d + 4) = 0 ∧ bt ((zDe_ s)) d = true)
/-- walking back over the queue: from entry k to entry t by c steps -/
def zRdm (f m : zM) (Q : Nat → Prop) (l4 l6 : Int32) (c : Nat) (L : Option Nat) : Prop := ∃ (pr pa : Nat → Nat) (k t : Nat), zBF (zGp f) (zNs f) (f 25 0 4).toInt.toNat (zS0 f) (zqs m) pr pa (zqn m) (zqn m) 0 ∧ (∀ k, 0 < k → k < zqn m → m 32 0 (zqs m k) = m 34 0 (pr k) ∧ m 33 0 (zqs m k) = nI (pa k)) ∧ k < zqn m ∧ t < zqn m ∧ l4 = m 34 0 k ∧ Q (zqs m k) ∧ (∀ j, j < k → ¬ Q (zqs m j)) ∧ l6 = m 34 0 t ∧ zbk c (zpd pr pa k) = zpd pr pa t ∧ c + t ≤ k ∧ (∀ n, L = some n → zbk n (zpd pr pa k) = 1)
theorem zRdm_i {f m : zM} {Q : Nat → Prop} {l4 : Int32} {k : Nat} (h : zQm f m (zqn m) 0) (hk : k < zqn m) (h4 : l4 = m 34 0 k) (hQ : Q (zqs m k)) (hn : ∀ j, j < k → ¬ Q (zqs m j)) : zRdm f m Q l4 l4 0 none := by
  obtain ⟨h1, h2, h3, h0, pr, pa, h5, h6⟩ := h
  exact ⟨pr, pa, k, k, h5, h6, hk, hk, h4, hQ, hn, h4, rfl, by omega, fun n hn => by cases hn⟩
theorem zRdm_s {f m : zM} {Q : Nat → Prop} {l4 l6 : Int32} {c : Nat} {L : Option Nat} (h12 : (f 25 0 4).toInt.toNat ≤ 12) (hm : zInv m) (hq : zQm f m (zqn m) 0) (h : zRdm f m Q l4 l6 c L) (hne : ¬ m 32 0 l6.toInt.toNat = l6 ∨ ∃ n, L = some n ∧ c < n) : zRdm f m Q l4 (m 32 0 l6.toInt.toNat) (c + 1) L ∧ zB (m 32 0 l6.toInt.toNat) 0 21503 ∧ c + 1 ≤ 21503 ∧ ∃ p, p < (f 25 0 4).toInt.toNat ∧ m 33 0 l6.toInt.toNat = nI p := by
  have h13 : 0 ≤ (m 25 0 13).toInt ∧ (m 25 0 13).toInt ≤ 21504 := hm 25 0 13
  have hq0 := hq.2.2.2.1
  obtain ⟨pr, pa, k, t, h5, h6, k1, t1, k2, k3, k4, t2, t3, t4, t5⟩ := h
  have hl : l6.toInt.toNat = zqs m t := by rw [t2]; rfl
  have t0 : 0 < t := by
    rcases Nat.eq_zero_or_pos t with z | z
    · subst z
      exfalso
      rcases hne with q | ⟨n, n1, n2⟩
      · rw [hl, hq0] at q; exact q t2.symm
      · have a := t5 n n1
        have b := zbk_0 (w := zpd pr pa k) (c := c) (by rw [t3, zpd_0]; exact Nat.le_refl 1) (n - c - 1)
        rw [show c + (n - c - 1) + 1 = n by omega] at b
        omega
    · exact z
  obtain ⟨e1, e2⟩ := h6 t t0 t1
  have hp := (h5.2.1 t t0 t1).1
  have hpa := (h5.2.1 t t0 t1).2.1
  rw [hl, e1, e2]
  refine ⟨⟨pr, pa, k, pr t, h5, h6, k1, by omega, k2, k3, k4, rfl, ?_, by omega, t5⟩, hm 34 0 _, ?_, pa t, hpa, rfl⟩
  · rw [zbk_s, t3, zpd_s (fun k a b => (h5.2.1 k a b).1) t0 t1]
    omega
  · unfold zqn at k1; omega
theorem zRdm_e {f m : zM} {Q : Nat → Prop} {l4 l6 : Int32} {c : Nat} {L : Option Nat} (hq : zQm f m (zqn m) 0) (h : zRdm f m Q l4 l6 c L) (he : m 32 0 l6.toInt.toNat = l6) : zRdm f m Q l4 l4 0 (some c) := by
  have hj := hq.2.2.1
  obtain ⟨pr, pa, k, t, h5, h6, k1, t1, k2, k3, k4, t2, t3, t4, t5⟩ := h
  have hl : l6.toInt.toNat = zqs m t := by rw [t2]; rfl
  have t0 : t = 0 := by
    rcases Nat.eq_zero_or_pos t with z | z
    · exact z
    · exfalso
      have hp := (h5.2.1 t z t1).1
      rw [hl, (h6 t z t1).1, t2] at he
      exact hj (pr t) t hp t1 (by unfold zqs; rw [he])
  subst t0
  exact ⟨pr, pa, k, k, h5, h6, k1, k1, k2, k3, k4, k2, rfl, by omega, fun n hn => by injection hn with hn; subst hn; exact t3⟩
theorem zRdm_f {f m : zM} {Q : Nat → Prop} {l4 l6 : Int32} {c n : Nat} (h12 : (f 25 0 4).toInt.toNat ≤ 12) (h : zRdm f m Q l4 l6 c (some n)) : ∃ w, zFnd Q (zGp f) (zNs f) (f 25 0 4).toInt.toNat (zS0 f) (some w) ∧ zbk n w = 1 ∧ (c < n → (m 33 0 l6.toInt.toNat).toInt = (zbk c w % 12 : Nat)) := by
  obtain ⟨pr, pa, k, t, h5, h6, k1, t1, k2, k3, k4, t2, t3, t4, t5⟩ := h
  refine ⟨zpd pr pa k, ⟨zqs m, pr, pa, zqn m, zqn m, h5, Or.inr ⟨k, k1, Or.inl rfl, rfl, k3, k4⟩⟩, t5 n rfl, fun hc => ?_⟩
  have hl : l6.toInt.toNat = zqs m t := by rw [t2]; rfl
  have t0 : 0 < t := by
    rcases Nat.eq_zero_or_pos t with z | z
    · subst z
      exfalso
      have a := t5 n rfl
      have b := zbk_0 (w := zpd pr pa k) (c := c) (by rw [t3, zpd_0]; exact Nat.le_refl 1) (n - c - 1)
      rw [show c + (n - c - 1) + 1 = n by omega] at b
      omega
    · exact z
  have hpa := (h5.2.1 t t0 t1).2.1
  rw [hl, (h6 t t0 t1).2, t3, zpd_s (fun k a b => (h5.2.1 k a b).1) t0 t1, nI_toInt (by omega)]
  omega

set_option maxRecDepth 100000 in
set_option maxHeartbeats 4000000 in
theorem y_X10_lands (d : Nat) (f : zM)  (hI : zInv f) : ZM (d + 6) yX10_lands cX10_lands 3 (some .int) [zr 25 0] f (fun r g => (∃ v, r = some (zi v) ∧ zB v 0 63) ∧ zInv g ∧ zFr [(25, some 13), (31, none), (32, none), (33, none), (34, none)] f g ∧ (∀ v : Int32, r = some (zi v) → ∃ L : Nat → Prop, v = zbf L 6 ∧ zRh_ (zGp f) (zNs f) (f 25 0 4).toInt.toNat (zS0 f) L (fun s => s / 3584))) := by
  refine ZM.intro (by decide +kernel) (Nat.le_of_ble_eq_true rfl) ?_
  intro X C hr hn
  have hF : zFr [(25, some 13), (31, none), (32, none), (33, none), (34, none)] f f := zFr.rf _ _
  have ct25_0_13 : zB (f 25 0 13) 0 21504 := hI 25 0 13
  have J : ∀ t : Nat, (∀ a8_1 : Int32, zB a8_1 0 63 → ∀ a8_2 : Int32, zB a8_2 0 21504 → ∀ g : zM, zInv g → zFr [(25, some 13), (31, none), (32, none), (33, none), (34, none)] f g → zB (g 25 0 13) 0 21504 → (zQm f g (zqn g) 0) → (a8_1 = zbf (fun l => ∃ k, k < a8_2.toInt.toNat ∧ zqs g k / 3584 = l) 6) → (a8_2.toInt ≤ (g 25 0 13).toInt) → (0 + 3 * (21504 - a8_2.toInt) : Int) < t → Z X 8 [some (zr 25 0), some (zi a8_1), some (zi a8_2)] [] g) := by
    intro t
    induction t with
    | zero =>
      intros; exfalso; omega
    | succ t ih =>
      have ih0 := ih
      intro a8_1 b8_1 a8_2 b8_2 g8_ hI8_ hF8_ f8_25_0_13 hR8_0 hR8_1 hR8_2 hM8_
      refine z_iload_n (pc := 8) C dX10_lands_8 rfl ?_
      refine z_aload_n (pc := 9) C dX10_lands_9 rfl ?_
      refine z_getI (pc := 10) C zf_X10_168 rfl rfl (by decide) dX10_lands_10 ?_
      refine w_gp (fun v => v = g8_ 25 0 13) rfl (fun v1 q1 => ?_)
      have e1 : v1.toInt = (g8_ 25 0 13).toInt := by rw [q1]
      have b1x : zB v1 0 21504 := by first | exact zB.eqv e1 f8_25_0_13 | (have q9 := f8_25_0_13; constructor <;> omega)
      refine z_icmp_ge (pc := 13) 37 C dX10_lands_13 (by decide) (fun h13_1 => ?_) (fun h13_1 => ?_)
      · skip
        have rr3 : a8_2.toInt ≥ v1.toInt := by simp only [z32lt, z32le, z32eq] at h13_1; omega
        refine z_iload_n (pc := 37) C dX10_lands_37 rfl ?_
        exact z_iret (pc := 38) C hr dX10_lands_38 ⟨⟨_, rfl, b8_1⟩, hI8_, hF8_, (by
                                                                                          intro v hv; cases hv
                                                                                          obtain ⟨_, _, _, _, pr, pa, h5, _⟩ := hR8_0
                                                                                          have hn : zqn g8_ = a8_2.toInt.toNat := by unfold zqn; omega
                                                                                          refine ⟨_, hR8_1, zqs g8_, pr, pa, zqn g8_, h5, fun l => ?_⟩
                                                                                          rw [hn])⟩
      · skip
        have rr4 : a8_2.toInt < v1.toInt := by simp only [z32lt, z32le, z32eq] at h13_1; omega
        have b5x : zB a8_2 0 21503 := by have q1 := b8_2; have q2 := b1x; simp only [z32lt, z32le, z32eq, Int32.reduceToInt, Int32.toInt_zero] at h13_1; constructor <;> omega
        have b6x : zB v1 1 21504 := by have q1 := b8_2; have q2 := b1x; simp only [z32lt, z32le, z32eq, Int32.reduceToInt, Int32.toInt_zero] at h13_1; constructor <;> omega
        have c7x : zB (g8_ 25 0 13) 1 21504 := by first | assumption | (constructor <;> omega)
        refine z_iload_n (pc := 16) C dX10_lands_16 rfl ?_
        refine z_iconst (pc := 17) (v := 1) C dX10_lands_17 (by decide) ?_
        refine z_aload_n (pc := 18) C dX10_lands_18 rfl ?_
        refine z_getR (pc := 19) C zf_X10_34 rfl rfl (by decide) dX10_lands_19 ?_
        refine z_iload_n (pc := 22) C dX10_lands_22 rfl ?_
        refine z_iald (pc := 23) C rfl (by decide) (zIx b5x (by decide) (by decide)) dX10_lands_23 ?_
        have kq23_7 : a8_2.toNatClampNeg = a8_2.toInt.toNat := rfl
        refine w_gp (fun v => v = g8_ 34 0 a8_2.toNatClampNeg) rfl (fun v8 q8 => ?_)
        have b8x : zB v8 0 21503 := by rw [q8]; exact (hI8_ 34 0 a8_2.toNatClampNeg)
        refine z_sipush (pc := 24) (v := 3584) C dX10_lands_24 (by decide) ?_
        refine z_idiv (pc := 27) C dX10_lands_27 (by decide) ?_
        refine w_gp (fun v => v = v8 / (3584 : Int32)) rfl (fun v9 q9 => ?_)
        have b9x : zB v9 0 5 := by rw [q9]; exact (zdiv_b 3584 b8x (by decide) (by decide) (by decide))
        refine z_ishl (pc := 28) C dX10_lands_28 ?_
        refine w_gp (fun v => v = (1 : Int32) <<< (v9 &&& 31)) rfl (fun v10 q10 => ?_)
        have b10x : zB v10 0 32 := by rw [q10]; exact (zshl_b b9x 5 (by decide) (by decide))
        refine z_ior (pc := 29) C dX10_lands_29 ?_
        refine w_gp (fun v => v = a8_1 ||| v10) rfl (fun v11 q11 => ?_)
        have b11x : zB v11 0 63 := by rw [q11]; exact (zor_b 6 b8_1 b10x (by decide) (by decide) (by decide) (by decide) (by decide))
        refine z_istore_n (pc := 30) C dX10_lands_30 (by rw [hn]; decide) rfl ?_
        refine z_iinc (pc := 31) (v := 1) C dX10_lands_31 rfl (by decide) (by rw [hn]; decide) rfl ?_
        obtain ⟨v12, hv12, e12⟩ : ∃ v : Int32, v = a8_2 + 1 ∧ v.toInt = a8_2.toInt + 1 := ⟨_, rfl, zadd_eb b5x (zB.of (x := 1) 1 (by decide)) (by decide) (by decide)⟩
        rw [← hv12]
        have b12x : zB v12 1 21504 := by have q9 := b5x; constructor <;> omega
        refine z_goto (pc := 34) 8 C dX10_lands_34 (by decide) ?_
        exact ih0 v11 b11x v12 (zB.wk (a' := 0) (b' := 21504) b12x (by decide) (by decide)) g8_ hI8_ hF8_ (zB.wk c7x (by decide) (by decide)) (by exact hR8_0) (by
                                                                                          have hn : (v12).toInt.toNat = a8_2.toInt.toNat + 1 := by omega
                                                                                          have r23 : v8 = g8_ 34 0 a8_2.toInt.toNat := q8
                                                                                          have hz := (zdec (x := v8) (by omega)).2.2.2
                                                                                          have hq : (v8).toInt.toNat = zqs g8_ a8_2.toInt.toNat := by rw [r23]; rfl
                                                                                          have b23 : (v8).toInt ≤ 21503 := by omega
                                                                                          have e28 : v10 = zbf (fun i => i = zqs g8_ a8_2.toInt.toNat / 3584) 6 := by
                                                                                            rw [q10, q9, hz]
                                                                                            unfold zAt_
                                                                                            rw [hq]
                                                                                            exact zone6 (by rw [← hq]; omega)
                                                                                          rw [hn, q11, hR8_1, e28, zbf_or (by decide)]
                                                                                          refine zbf_congr _ (fun l _ => ?_)
                                                                                          constructor
                                                                                          · rintro (⟨k, k1, k2⟩ | q)
                                                                                            · exact ⟨k, by omega, k2⟩
                                                                                            · exact ⟨a8_2.toInt.toNat, by omega, q.symm⟩
                                                                                          · rintro ⟨k, k1, k2⟩
                                                                                            by_cases e : k = a8_2.toInt.toNat
                                                                                            · subst e; exact Or.inr k2.symm
                                                                                            · exact Or.inl ⟨k, by omega, k2⟩) (by omega) (by omega)
  have J0 := J 64527
  show Z X 0 [some (zr 25 0), none, none] [] f
  refine z_aload_n (pc := 0) C dX10_lands_0 rfl ?_
  refine z_callV (pc := 1) C zk_X10_179 (y_X10_findStates _ _  hI) rfl rfl (by decide) rfl rfl (Nat.le_of_ble_eq_true rfl) dX10_lands_1 (fun r13 g13 q13 => ?_)
  obtain ⟨rfl, hI13, hF13q, hp13_0⟩ := q13
  have hF13 := zFr.tr hF hF13q (by decide)
  simp only [Option.toList, List.cons_append, List.nil_append]
  have cr13_25_0_13 : zB (g13 25 0 13) 0 21504 := hI13 25 0 13
  refine z_iconst (pc := 4) (v := 0) C dX10_lands_4 (by decide) ?_
  refine z_istore_n (pc := 5) C dX10_lands_5 (by rw [hn]; decide) rfl ?_
  refine z_iconst (pc := 6) (v := 0) C dX10_lands_6 (by decide) ?_
  refine z_istore_n (pc := 7) C dX10_lands_7 (by rw [hn]; decide) rfl ?_
  exact J0 0 (zB.wk (a' := 0) (b' := 63) (zB.of (x := 0) 0 (by decide)) (by decide) (by decide)) 0 (zB.wk (a' := 0) (b' := 21504) (zB.of (x := 0) 0 (by decide)) (by decide) (by decide)) g13 hI13 hF13 cr13_25_0_13 (by exact hp13_0) (by exact (zbf_0 _ (fun k _ ⟨j, h, _⟩ => absurd h (Nat.not_lt_zero j))).symm) (by have qc0 : (0 : Int32).toInt = 0 := (by decide); omega) (by have qc0 : (0 : Int32).toInt = 0 := (by decide); omega)

/-- the first of the queue's entries behind a place that is so, or none -/
def zFnr (m : zM) (Q : Nat → Prop) (l4 : Int32) (l5 : Int) : Prop := (l4 = -4 ∧ ∀ j : Nat, l5 < j → j < zqn m → ¬ Q (zqs m j)) ∨ (∃ k : Nat, l5 < k ∧ k < zqn m ∧ l4 = m 34 0 k ∧ Q (zqs m k) ∧ ∀ j : Nat, l5 < j → j < k → ¬ Q (zqs m j))

set_option maxRecDepth 100000 in
set_option maxHeartbeats 4000000 in
theorem y_X10_road (d : Nat) (f : zM) (a1 : Int32) (b1 : zB a1 (-2147483648) 2147483647) (a2 : Int32) (b2 : zB a2 (-2147483648) 2147483647) (a3 : Int32) (b3 : zB a3 (-2147483648) 2147483647) (hI : zInv f) : ZM (d + 6) yX10_road cX10_road 8 (some .int) [zr 25 0, zi a1, zi a2, zi a3] f (fun r g => (∃ v, r = some (zi v) ∧ zB v (-4) 21503) ∧ zInv g ∧ zFr [(25, some 13), (31, none), (32, none), (33, none), (34, none)] f g ∧ (∀ v : Int32, r = some (zi v) → (¬ ((0 ≤ a1.toInt ∧ a1.toInt ≤ 5) ∧ (0 ≤ a2.toInt ∧ a2.toInt < (f 25 0 2).toInt) ∧ -1 ≤ a3.toInt) ∧ v = -1) ∨ (((0 ≤ a1.toInt ∧ a1.toInt ≤ 5) ∧ (0 ≤ a2.toInt ∧ a2.toInt < (f 25 0 2).toInt) ∧ -1 ≤ a3.toInt) ∧ ∃ o, zFnd (zQr f a1 a2.toInt.toNat) (zGp f) (zNs f) (f 25 0 4).toInt.toNat (zS0 f) o ∧ ((o = none ∧ v = -4) ∨ ∃ w, o = some w ∧ zAns w a3.toInt v)))) := by
  refine ZM.intro (by decide +kernel) (Nat.le_of_ble_eq_true rfl) ?_
  intro X C hr hn
  have hF : zFr [(25, some 13), (31, none), (32, none), (33, none), (34, none)] f f := zFr.rf _ _
  have ct25_0_13 : zB (f 25 0 13) 0 21504 := hI 25 0 13
  have J : ∀ t : Nat, (zB a1 0 5 → zB a2 0 7 → zB a3 (-1) 2147483647 → ∀ a38_4 : Int32, zB a38_4 (-4) 21503 → ∀ a38_5 : Int32, zB a38_5 (-1) 21503 → ∀ g : zM, zInv g → zFr [(25, some 13), (31, none), (32, none), (33, none), (34, none)] f g → zB (g 25 0 13) 0 21504 → (zQm f g (zqn g) 0) → (zFnr g (zQr f a1 a2.toInt.toNat) a38_4 a38_5.toInt) → (((0 ≤ a1.toInt ∧ a1.toInt ≤ 5) ∧ (0 ≤ a2.toInt ∧ a2.toInt < (f 25 0 2).toInt) ∧ -1 ≤ a3.toInt)) → (a38_5.toInt < (g 25 0 13).toInt) → (-1 ≤ a38_5.toInt) → (2312217597 + 2312217600 * (a38_5.toInt - (-1)) : Int) < t → Z X 38 [some (zr 25 0), some (zi a1), some (zi a2), some (zi a3), some (zi a38_4), some (zi a38_5), none, none] [] g) ∧ (zB a1 0 5 → zB a2 0 7 → zB a3 (-1) 2147483647 → ∀ a113_4 : Int32, zB a113_4 0 21503 → ∀ a113_5 : Int32, zB a113_5 0 21503 → ∀ a113_6 : Int32, zB a113_6 0 21503 → ∀ g : zM, zInv g → zFr [(25, some 13), (31, none), (32, none), (33, none), (34, none)] f g → zB (g 25 0 13) 0 21504 → (zQm f g (zqn g) 0) → (zRdm f g (zQr f a1 a2.toInt.toNat) a113_4 a113_6 a113_5.toInt.toNat none) → (((0 ≤ a1.toInt ∧ a1.toInt ≤ 5) ∧ (0 ≤ a2.toInt ∧ a2.toInt < (f 25 0 2).toInt) ∧ -1 ≤ a3.toInt)) → (107516 + 107520 * (21503 - a113_5.toInt) : Int) < t → Z X 113 [some (zr 25 0), some (zi a1), some (zi a2), some (zi a3), some (zi a113_4), some (zi a113_5), some (zi a113_6), none] [] g) ∧ (zB a1 0 5 → zB a2 0 7 → zB a3 0 21502 → ∀ a166_4 : Int32, zB a166_4 0 21503 → ∀ a166_5 : Int32, zB a166_5 1 21503 → ∀ a166_6 : Int32, zB a166_6 0 21503 → ∀ a166_7 : Int32, zB a166_7 0 21502 → ∀ g : zM, zInv g → zFr [(25, some 13), (31, none), (32, none), (33, none), (34, none)] f g → zB (g 25 0 13) 0 21504 → (zQm f g (zqn g) 0) → (zRdm f g (zQr f a1 a2.toInt.toNat) a166_4 a166_6 (a166_5.toInt - 1 - a166_7.toInt).toNat (some a166_5.toInt.toNat)) → (((0 ≤ a1.toInt ∧ a1.toInt ≤ 5) ∧ (0 ≤ a2.toInt ∧ a2.toInt < (f 25 0 2).toInt) ∧ -1 ≤ a3.toInt)) → (a3.toInt ≤ a166_7.toInt) → (a166_7.toInt < a166_5.toInt) → (0 ≤ a3.toInt) → (0 + 5 * (a166_7.toInt - 0) : Int) < t → Z X 166 [some (zr 25 0), some (zi a1), some (zi a2), some (zi a3), some (zi a166_4), some (zi a166_5), some (zi a166_6), some (zi a166_7)] [] g) := by
    intro t
    induction t with
    | zero =>
      refine ⟨?_, ?_, ?_⟩ <;> (intros; exfalso; omega)
    | succ t ih =>
      obtain ⟨ih0, ih1, ih2⟩ := ih
      refine ⟨?_, ?_, ?_⟩
      · skip
        intro b38_1 b38_2 b38_3 a38_4 b38_4 a38_5 b38_5 g38_ hI38_ hF38_ f38_25_0_13 hR38_0 hR38_1 hR38_2 hR38_3 hR38_4 hM38_
        refine z_iload (pc := 38) C dX10_road_38 rfl ?_
        refine z_if_lt (pc := 40) 98 C dX10_road_40 (by decide) (fun h40_0 => ?_) (fun h40_0 => ?_)
        · skip
          have b2x : zB a38_5 (-1) (-1) := by have q1 := b38_5; have q2 := (zB.of (x := 0) 0 (by decide)); simp only [z32lt, z32le, z32eq, Int32.reduceToInt, Int32.toInt_zero] at h40_0; constructor <;> omega
          refine z_iload (pc := 98) C dX10_road_98 rfl ?_
          refine z_if_ge (pc := 100) 106 C dX10_road_100 (by decide) (fun h100_2 => ?_) (fun h100_2 => ?_)
          · skip
            have b4x : zB a38_4 0 21503 := by have q1 := b38_4; have q2 := (zB.of (x := 0) 0 (by decide)); simp only [z32lt, z32le, z32eq, Int32.reduceToInt, Int32.toInt_zero] at h100_2; constructor <;> omega
            refine z_iconst (pc := 106) (v := 0) C dX10_road_106 (by decide) ?_
            refine z_istore (pc := 107) C dX10_road_107 (by rw [hn]; decide) rfl ?_
            refine z_iload (pc := 109) C dX10_road_109 rfl ?_
            refine z_istore (pc := 111) C dX10_road_111 (by rw [hn]; decide) rfl ?_
            exact ih1 b38_1 b38_2 b38_3 a38_4 b4x 0 (zB.wk (a' := 0) (b' := 21503) (zB.of (x := 0) 0 (by decide)) (by decide) (by decide)) a38_4 b4x g38_ hI38_ hF38_ f38_25_0_13 (by exact hR38_0) (by
                                                                                          rcases hR38_1 with ⟨y1, _⟩ | ⟨k, k1, k2, k3, k4, k5⟩
                                                                                          · exfalso
                                                                                            rw [z32eq] at y1
                                                                                            have c4 : (-4 : Int32).toInt = -4 := by decide
                                                                                            omega
                                                                                          · exact zRdm_i hR38_0 k2 k3 k4 (fun j hj => k5 j (by omega) hj)) (by exact hR38_2) (by have qc0 : (0 : Int32).toInt = 0 := (by decide); omega)
          · skip
            have b5x : zB a38_4 (-4) (-1) := by have q1 := b38_4; have q2 := (zB.of (x := 0) 0 (by decide)); simp only [z32lt, z32le, z32eq, Int32.reduceToInt, Int32.toInt_zero] at h100_2; constructor <;> omega
            refine z_bipush (pc := 103) (v := -4) C dX10_road_103 (by decide) ?_
            exact z_iret (pc := 105) C hr dX10_road_105 ⟨⟨_, rfl, (zB.wk (a' := (-4)) (b' := 21503) (zB.of (x := (-4)) (-4) (by decide)) (by decide) (by decide))⟩, hI38_, hF38_, (by
                                                                                          intro v hv; cases hv
                                                                                          refine Or.inr ⟨hR38_2, ?_⟩
                                                                                          rcases hR38_1 with ⟨y1, y2⟩ | ⟨k, k1, k2, k3, k4, k5⟩
                                                                                          · obtain ⟨_, _, _, _, pr, pa, h5, _⟩ := hR38_0
                                                                                            exact ⟨none, ⟨zqs g38_, pr, pa, zqn g38_, zqn g38_, h5, Or.inl ⟨rfl, rfl, fun j hj => y2 j (by omega) hj⟩⟩, Or.inl ⟨rfl, rfl⟩⟩
                                                                                          · exfalso
                                                                                            have hb := (hI38_ 34 0 k).1
                                                                                            have hb2 : 0 ≤ (g38_ 34 0 k).toInt := hb
                                                                                            rw [← k3] at hb2
                                                                                            omega)⟩
        · skip
          have b6x : zB a38_5 0 21503 := by have q1 := b38_5; have q2 := (zB.of (x := 0) 0 (by decide)); simp only [z32lt, z32le, z32eq, Int32.reduceToInt, Int32.toInt_zero] at h40_0; constructor <;> omega
          refine z_aload_n (pc := 43) C dX10_road_43 rfl ?_
          refine z_getR (pc := 44) C zf_X10_34 rfl rfl (by decide) dX10_road_44 ?_
          refine z_iload (pc := 47) C dX10_road_47 rfl ?_
          refine z_iald (pc := 49) C rfl (by decide) (zIx b6x (by decide) (by decide)) dX10_road_49 ?_
          have kq49_6 : a38_5.toNatClampNeg = a38_5.toInt.toNat := rfl
          refine w_gp (fun v => v = g38_ 34 0 a38_5.toNatClampNeg) rfl (fun v7 q7 => ?_)
          have b7x : zB v7 0 21503 := by rw [q7]; exact (hI38_ 34 0 a38_5.toNatClampNeg)
          refine z_sipush (pc := 50) (v := 3584) C dX10_road_50 (by decide) ?_
          refine z_idiv (pc := 53) C dX10_road_53 (by decide) ?_
          refine w_gp (fun v => v = v7 / (3584 : Int32)) rfl (fun v8 q8 => ?_)
          have b8x : zB v8 0 5 := by rw [q8]; exact (zdiv_b 3584 b7x (by decide) (by decide) (by decide))
          refine z_iload_n (pc := 54) C dX10_road_54 rfl ?_
          refine z_icmp_ne (pc := 55) 88 C dX10_road_55 (by decide) (fun h55_8 => ?_) (fun h55_8 => ?_)
          · skip
            refine z_iload (pc := 88) C dX10_road_88 rfl ?_
            refine z_istore (pc := 90) C dX10_road_90 (by rw [hn]; decide) rfl ?_
            refine z_iinc (pc := 92) (v := -1) C dX10_road_92 rfl (by decide) (by rw [hn]; decide) rfl ?_
            obtain ⟨v10, hv10, e10⟩ : ∃ v : Int32, v = a38_5 + (-1) ∧ v.toInt = a38_5.toInt + (-1) := ⟨_, rfl, zadd_eb b6x (zB.of (x := (-1)) (-1) (by decide)) (by decide) (by decide)⟩
            rw [← hv10]
            have b10x : zB v10 (-1) 21502 := by have q9 := b6x; constructor <;> omega
            refine z_goto (pc := 95) 38 C dX10_road_95 (by decide) ?_
            exact ih0 b38_1 b38_2 b38_3 a38_4 b38_4 v10 (zB.wk (a' := (-1)) (b' := 21503) b10x (by decide) (by decide)) g38_ hI38_ hF38_ f38_25_0_13 (by exact hR38_0) (by
                                                                                          have hq5 : a38_5.toNatClampNeg = a38_5.toInt.toNat := rfl
                                                                                          have hl5 : (v10).toInt = a38_5.toInt - 1 := by omega
                                                                                          have r49 : v7 = g38_ 34 0 a38_5.toInt.toNat := q7
                                                                                          have hz := (zdec (x := v7) (by omega)).2.2.2
                                                                                          have e53 : v8 = zAt_ (zqs g38_ a38_5.toInt.toNat) := by
                                                                                            rw [q8, hz, r49]; rfl
                                                                                          have c0 : g38_ 25 0 0 = f 25 0 0 := hF38_ 25 0 0 rfl
                                                                                          have c2 : g38_ 25 0 2 = f 25 0 2 := hF38_ 25 0 2 rfl
                                                                                          have k26 : g38_ 26 0 = f 26 0 := funext (fun j => hF38_ 26 0 j rfl)
                                                                                          have k27 : g38_ 27 0 = f 27 0 := funext (fun j => hF38_ 27 0 j rfl)
                                                                                          have k28 : g38_ 28 0 = f 28 0 := funext (fun j => hF38_ 28 0 j rfl)
                                                                                          have k30 : g38_ 30 0 = f 30 0 := funext (fun j => hF38_ 30 0 j rfl)
                                                                                          have hno : ¬ zQr f a1 a2.toInt.toNat (zqs g38_ a38_5.toInt.toNat) := fun h => absurd (e53.trans h.1) (by assumption)
                                                                                          rcases hR38_1 with ⟨y1, y2⟩ | ⟨k, k1, k2, k3, k4, k5⟩
                                                                                          · refine Or.inl ⟨y1, fun j j1 j2 => ?_⟩
                                                                                            by_cases e : j = a38_5.toInt.toNat
                                                                                            · subst e; exact hno
                                                                                            · exact y2 j (by omega) j2
                                                                                          · refine Or.inr ⟨k, by omega, k2, k3, k4, fun j j1 j2 => ?_⟩
                                                                                            by_cases e : j = a38_5.toInt.toNat
                                                                                            · subst e; exact hno
                                                                                            · exact k5 j (by omega) j2) (by exact hR38_2) (by omega) (by omega) (by omega)
          · skip
            have rr11 : v8.toInt = a1.toInt := by simp only [z32lt, z32le, z32eq] at h55_8; omega
            refine z_aload_n (pc := 58) C dX10_road_58 rfl ?_
            refine z_iload_n (pc := 59) C dX10_road_59 rfl ?_
            refine z_iload_n (pc := 60) C dX10_road_60 rfl ?_
            refine z_aload_n (pc := 61) C dX10_road_61 rfl ?_
            refine z_getR (pc := 62) C zf_X10_34 rfl rfl (by decide) dX10_road_62 ?_
            refine z_iload (pc := 65) C dX10_road_65 rfl ?_
            refine z_iald (pc := 67) C rfl (by decide) (zIx b6x (by decide) (by decide)) dX10_road_67 ?_
            have kq67_11 : a38_5.toNatClampNeg = a38_5.toInt.toNat := rfl
            refine w_gp (fun v => v = g38_ 34 0 a38_5.toNatClampNeg) rfl (fun v12 q12 => ?_)
            have b12x : zB v12 0 21503 := by rw [q12]; exact (hI38_ 34 0 a38_5.toNatClampNeg)
            refine z_sipush (pc := 68) (v := 256) C dX10_road_68 (by decide) ?_
            refine z_irem (pc := 71) C dX10_road_71 (by decide) ?_
            refine w_gp (fun v => v = v12 - v12 / (256 : Int32) * (256 : Int32)) rfl (fun v13 q13 => ?_)
            have b13x : zB v13 0 255 := by rw [q13]; exact (zrem_b 256 b12x (by decide) (by decide) (by decide))
            refine z_callV (pc := 72) C zk_X10_161 (x_X10_isTried _ _ a2 b38_2 a1 b38_1 v13 b13x hI38_) rfl rfl (by decide) rfl rfl (Nat.le_of_ble_eq_true rfl) dX10_road_72 (fun r14 g14 q14 => ?_)
            obtain ⟨⟨v14, rfl, b14x⟩, hI14, hF14q, hp14_0⟩ := q14
            have hp14_0 := hp14_0 _ rfl
            obtain rfl := zFr_nil hF14q
            simp only [Option.toList, List.cons_append, List.nil_append]
            refine z_if_eq (pc := 75) 88 C dX10_road_75 (by decide) (fun h75_14 => ?_) (fun h75_14 => ?_)
            · skip
              have b16x : zB v14 0 0 := by have q1 := b14x; have q2 := (zB.of (x := 0) 0 (by decide)); simp only [z32lt, z32le, z32eq, Int32.reduceToInt, Int32.toInt_zero] at h75_14; constructor <;> omega
              refine z_iload (pc := 88) C dX10_road_88 rfl ?_
              refine z_istore (pc := 90) C dX10_road_90 (by rw [hn]; decide) rfl ?_
              refine z_iinc (pc := 92) (v := -1) C dX10_road_92 rfl (by decide) (by rw [hn]; decide) rfl ?_
              obtain ⟨v17, hv17, e17⟩ : ∃ v : Int32, v = a38_5 + (-1) ∧ v.toInt = a38_5.toInt + (-1) := ⟨_, rfl, zadd_eb b6x (zB.of (x := (-1)) (-1) (by decide)) (by decide) (by decide)⟩
              rw [← hv17]
              have b17x : zB v17 (-1) 21502 := by first | exact zB.eqv e17 b6x | (have q9 := b6x; constructor <;> omega)
              refine z_goto (pc := 95) 38 C dX10_road_95 (by decide) ?_
              exact ih0 b38_1 b38_2 b38_3 a38_4 b38_4 v17 (zB.wk (a' := (-1)) (b' := 21503) b17x (by decide) (by decide)) g38_ hI38_ hF38_ f38_25_0_13 (by exact hR38_0) (by
                                                                                          have hq5 : a38_5.toNatClampNeg = a38_5.toInt.toNat := rfl
                                                                                          have hl5 : (v17).toInt = a38_5.toInt - 1 := by omega
                                                                                          have r49 : v7 = g38_ 34 0 a38_5.toInt.toNat := q7
                                                                                          have hz := (zdec (x := v7) (by omega)).2.2.2
                                                                                          have e53 : v8 = zAt_ (zqs g38_ a38_5.toInt.toNat) := by
                                                                                            rw [q8, hz, r49]; rfl
                                                                                          have c0 : g38_ 25 0 0 = f 25 0 0 := hF38_ 25 0 0 rfl
                                                                                          have c2 : g38_ 25 0 2 = f 25 0 2 := hF38_ 25 0 2 rfl
                                                                                          have k26 : g38_ 26 0 = f 26 0 := funext (fun j => hF38_ 26 0 j rfl)
                                                                                          have k27 : g38_ 27 0 = f 27 0 := funext (fun j => hF38_ 27 0 j rfl)
                                                                                          have k28 : g38_ 28 0 = f 28 0 := funext (fun j => hF38_ 28 0 j rfl)
                                                                                          have k30 : g38_ 30 0 = f 30 0 := funext (fun j => hF38_ 30 0 j rfl)
                                                                                          have r67 : v12 = g38_ 34 0 a38_5.toInt.toNat := q12
                                                                                          have hz2 := (zdec (x := v12) (by omega)).1
                                                                                          have e71 : v13 = zDe_ (zqs g38_ a38_5.toInt.toNat) := by
                                                                                            rw [q13, hz2, r67]; rfl
                                                                                          have ht := hp14_0
                                                                                          rw [c0, k26, k27, e71] at ht
                                                                                          have hno : ¬ zQr f a1 a2.toInt.toNat (zqs g38_ a38_5.toInt.toNat) := fun h => zbo_n ht (by omega) h.2
                                                                                          rcases hR38_1 with ⟨y1, y2⟩ | ⟨k, k1, k2, k3, k4, k5⟩
                                                                                          · refine Or.inl ⟨y1, fun j j1 j2 => ?_⟩
                                                                                            by_cases e : j = a38_5.toInt.toNat
                                                                                            · subst e; exact hno
                                                                                            · exact y2 j (by omega) j2
                                                                                          · refine Or.inr ⟨k, by omega, k2, k3, k4, fun j j1 j2 => ?_⟩
                                                                                            by_cases e : j = a38_5.toInt.toNat
                                                                                            · subst e; exact hno
                                                                                            · exact k5 j (by omega) j2) (by exact hR38_2) (by omega) (by omega) (by omega)
            · skip
              have b18x : zB v14 1 1 := by have q1 := b14x; have q2 := (zB.of (x := 0) 0 (by decide)); simp only [z32lt, z32le, z32eq, Int32.reduceToInt, Int32.toInt_zero] at h75_14; constructor <;> omega
              refine z_aload_n (pc := 78) C dX10_road_78 rfl ?_
              refine z_getR (pc := 79) C zf_X10_34 rfl rfl (by decide) dX10_road_79 ?_
              refine z_iload (pc := 82) C dX10_road_82 rfl ?_
              refine z_iald (pc := 84) C rfl (by decide) (zIx b6x (by decide) (by decide)) dX10_road_84 ?_
              have kq84_18 : a38_5.toNatClampNeg = a38_5.toInt.toNat := rfl
              refine w_gp (fun v => v = g38_ 34 0 a38_5.toNatClampNeg) rfl (fun v19 q19 => ?_)
              have b19x : zB v19 0 21503 := by rw [q19]; exact (hI38_ 34 0 a38_5.toNatClampNeg)
              refine z_goto (pc := 85) 90 C dX10_road_85 (by decide) ?_
              refine z_istore (pc := 90) C dX10_road_90 (by rw [hn]; decide) rfl ?_
              refine z_iinc (pc := 92) (v := -1) C dX10_road_92 rfl (by decide) (by rw [hn]; decide) rfl ?_
              obtain ⟨v20, hv20, e20⟩ : ∃ v : Int32, v = a38_5 + (-1) ∧ v.toInt = a38_5.toInt + (-1) := ⟨_, rfl, zadd_eb b6x (zB.of (x := (-1)) (-1) (by decide)) (by decide) (by decide)⟩
              rw [← hv20]
              have b20x : zB v20 (-1) 21502 := by have q9 := b6x; constructor <;> omega
              refine z_goto (pc := 95) 38 C dX10_road_95 (by decide) ?_
              exact ih0 b38_1 b38_2 b38_3 v19 (zB.wk (a' := (-4)) (b' := 21503) b19x (by decide) (by decide)) v20 (zB.wk (a' := (-1)) (b' := 21503) b20x (by decide) (by decide)) g38_ hI38_ hF38_ f38_25_0_13 (by exact hR38_0) (by
                                                                                          have hq5 : a38_5.toNatClampNeg = a38_5.toInt.toNat := rfl
                                                                                          have hl5 : (v20).toInt = a38_5.toInt - 1 := by omega
                                                                                          have r49 : v7 = g38_ 34 0 a38_5.toInt.toNat := q7
                                                                                          have hz := (zdec (x := v7) (by omega)).2.2.2
                                                                                          have e53 : v8 = zAt_ (zqs g38_ a38_5.toInt.toNat) := by
                                                                                            rw [q8, hz, r49]; rfl
                                                                                          have c0 : g38_ 25 0 0 = f 25 0 0 := hF38_ 25 0 0 rfl
                                                                                          have c2 : g38_ 25 0 2 = f 25 0 2 := hF38_ 25 0 2 rfl
                                                                                          have k26 : g38_ 26 0 = f 26 0 := funext (fun j => hF38_ 26 0 j rfl)
                                                                                          have k27 : g38_ 27 0 = f 27 0 := funext (fun j => hF38_ 27 0 j rfl)
                                                                                          have k28 : g38_ 28 0 = f 28 0 := funext (fun j => hF38_ 28 0 j rfl)
                                                                                          have k30 : g38_ 30 0 = f 30 0 := funext (fun j => hF38_ 30 0 j rfl)
                                                                                          have r67 : v12 = g38_ 34 0 a38_5.toInt.toNat := q12
                                                                                          have hz2 := (zdec (x := v12) (by omega)).1
                                                                                          have e71 : v13 = zDe_ (zqs g38_ a38_5.toInt.toNat) := by
                                                                                            rw [q13, hz2, r67]; rfl
                                                                                          have ht := hp14_0
                                                                                          rw [c0, k26, k27, e71] at ht
                                                                                          have r84 : v19 = g38_ 34 0 a38_5.toInt.toNat := q19
                                                                                          refine Or.inr ⟨a38_5.toInt.toNat, by omega, by unfold zqn; omega, r84, ⟨e53.symm.trans (by assumption), zbo_y ht (by omega)⟩, fun j j1 j2 => ?_⟩
                                                                                          omega) (by exact hR38_2) (by omega) (by omega) (by omega)
      · skip
        intro b113_1 b113_2 b113_3 a113_4 b113_4 a113_5 b113_5 a113_6 b113_6 g113_ hI113_ hF113_ f113_25_0_13 hR113_0 hR113_1 hR113_2 hM113_
        refine z_aload_n (pc := 113) C dX10_road_113 rfl ?_
        refine z_getR (pc := 114) C zf_X10_28 rfl rfl (by decide) dX10_road_114 ?_
        refine z_iload (pc := 117) C dX10_road_117 rfl ?_
        refine z_iald (pc := 119) C rfl (by decide) (zIx b113_6 (by decide) (by decide)) dX10_road_119 ?_
        have kq119_20 : a113_6.toNatClampNeg = a113_6.toInt.toNat := rfl
        refine w_gp (fun v => v = g113_ 32 0 a113_6.toNatClampNeg) rfl (fun v21 q21 => ?_)
        have b21x : zB v21 (-4) 21503 := by rw [q21]; exact (hI113_ 32 0 a113_6.toNatClampNeg)
        refine z_iload (pc := 120) C dX10_road_120 rfl ?_
        refine z_icmp_eq (pc := 122) 140 C dX10_road_122 (by decide) (fun h122_21 => ?_) (fun h122_21 => ?_)
        · skip
          have rr23 : v21.toInt = a113_6.toInt := by simp only [z32lt, z32le, z32eq] at h122_21; omega
          have b24x : zB v21 0 21503 := by have q1 := b21x; have q2 := b113_6; simp only [z32lt, z32le, z32eq, Int32.reduceToInt, Int32.toInt_zero] at h122_21; constructor <;> omega
          refine z_iload_n (pc := 140) C dX10_road_140 rfl ?_
          refine z_if_ge (pc := 141) 147 C dX10_road_141 (by decide) (fun h141_24 => ?_) (fun h141_24 => ?_)
          · skip
            have b26x : zB a3 0 2147483647 := by have q1 := b113_3; have q2 := (zB.of (x := 0) 0 (by decide)); simp only [z32lt, z32le, z32eq, Int32.reduceToInt, Int32.toInt_zero] at h141_24; constructor <;> omega
            refine z_iload_n (pc := 147) C dX10_road_147 rfl ?_
            refine z_iload (pc := 148) C dX10_road_148 rfl ?_
            refine z_icmp_lt (pc := 150) 156 C dX10_road_150 (by decide) (fun h150_26 => ?_) (fun h150_26 => ?_)
            · skip
              have rr28 : a3.toInt < a113_5.toInt := by simp only [z32lt, z32le, z32eq] at h150_26; omega
              have b29x : zB a3 0 21502 := by have q1 := b26x; have q2 := b113_5; simp only [z32lt, z32le, z32eq, Int32.reduceToInt, Int32.toInt_zero] at h150_26; constructor <;> omega
              have b30x : zB a113_5 1 21503 := by have q1 := b26x; have q2 := b113_5; simp only [z32lt, z32le, z32eq, Int32.reduceToInt, Int32.toInt_zero] at h150_26; constructor <;> omega
              refine z_iload (pc := 156) C dX10_road_156 rfl ?_
              refine z_istore (pc := 158) C dX10_road_158 (by rw [hn]; decide) rfl ?_
              refine z_iload (pc := 160) C dX10_road_160 rfl ?_
              refine z_iconst (pc := 162) (v := 1) C dX10_road_162 (by decide) ?_
              refine z_isub (pc := 163) C dX10_road_163 ?_
              refine w_gp (fun v => v = a113_5 - (1 : Int32)) rfl (fun v31 q31 => ?_)
              have e31 : v31.toInt = a113_5.toInt - 1 := by rw [q31]; exact (zsub_eb b30x (zB.of (x := 1) 1 (by decide)) (by decide) (by decide))
              have b31x : zB v31 0 21502 := by have q1 := b30x; have q2 := (zB.of (x := 1) 1 (by decide)); constructor <;> omega
              refine z_istore (pc := 164) C dX10_road_164 (by rw [hn]; decide) rfl ?_
              exact ih2 b113_1 b113_2 b29x a113_4 b113_4 a113_5 b30x a113_4 b113_4 v31 b31x g113_ hI113_ hF113_ f113_25_0_13 (by exact hR113_0) (by
                                                                                          have he : g113_ 32 0 a113_6.toInt.toNat = a113_6 := (q21 : v21 = g113_ 32 0 a113_6.toInt.toNat).symm.trans (by assumption)
                                                                                          have hz := zRdm_e hR113_0 hR113_1 he
                                                                                          rw [show (a113_5.toInt - 1 - (v31).toInt).toNat = 0 by omega]
                                                                                          exact hz) (by exact hR113_2) (by omega) (by omega) (by omega) (by omega)
            · skip
              have rr32 : a3.toInt ≥ a113_5.toInt := by simp only [z32lt, z32le, z32eq] at h150_26; omega
              refine z_bipush (pc := 153) (v := -4) C dX10_road_153 (by decide) ?_
              exact z_iret (pc := 155) C hr dX10_road_155 ⟨⟨_, rfl, (zB.wk (a' := (-4)) (b' := 21503) (zB.of (x := (-4)) (-4) (by decide)) (by decide) (by decide))⟩, hI113_, hF113_, (by
                                                                                          intro v hv; cases hv
                                                                                          have he : g113_ 32 0 a113_6.toInt.toNat = a113_6 := (q21 : v21 = g113_ 32 0 a113_6.toInt.toNat).symm.trans (by assumption)
                                                                                          obtain ⟨w, w1, w2, _⟩ := zRdm_f (by have h := (hI 25 0 4).2; have h2 : (f 25 0 4).toInt ≤ 12 := h; omega) (zRdm_e hR113_0 hR113_1 he)
                                                                                          refine Or.inr ⟨hR113_2, some w, w1, Or.inr ⟨w, rfl, a113_5.toInt.toNat, w2, ?_⟩⟩
                                                                                          exact Or.inr (Or.inl ⟨by omega, by omega, rfl⟩))⟩
          · skip
            have b33x : zB a3 (-1) (-1) := by have q1 := b113_3; have q2 := (zB.of (x := 0) 0 (by decide)); simp only [z32lt, z32le, z32eq, Int32.reduceToInt, Int32.toInt_zero] at h141_24; constructor <;> omega
            refine z_iload (pc := 144) C dX10_road_144 rfl ?_
            exact z_iret (pc := 146) C hr dX10_road_146 ⟨⟨_, rfl, (zB.wk (a' := (-4)) (b' := 21503) b113_5 (by decide) (by decide))⟩, hI113_, hF113_, (by
                                                                                          intro v hv; cases hv
                                                                                          have he : g113_ 32 0 a113_6.toInt.toNat = a113_6 := (q21 : v21 = g113_ 32 0 a113_6.toInt.toNat).symm.trans (by assumption)
                                                                                          obtain ⟨w, w1, w2, _⟩ := zRdm_f (by have h := (hI 25 0 4).2; have h2 : (f 25 0 4).toInt ≤ 12 := h; omega) (zRdm_e hR113_0 hR113_1 he)
                                                                                          refine Or.inr ⟨hR113_2, some w, w1, Or.inr ⟨w, rfl, a113_5.toInt.toNat, w2, ?_⟩⟩
                                                                                          exact Or.inl ⟨by omega, by omega⟩)⟩
        · skip
          refine z_iinc (pc := 125) (v := 1) C dX10_road_125 rfl (by decide) (by rw [hn]; decide) rfl ?_
          obtain ⟨v34, hv34, e34⟩ : ∃ v : Int32, v = a113_5 + 1 ∧ v.toInt = a113_5.toInt + 1 := ⟨_, rfl, zadd_eb b113_5 (zB.of (x := 1) 1 (by decide)) (by decide) (by decide)⟩
          rw [← hv34]
          have b34x : zB v34 1 21504 := by have q9 := b113_5; constructor <;> omega
          refine z_aload_n (pc := 128) C dX10_road_128 rfl ?_
          refine z_getR (pc := 129) C zf_X10_28 rfl rfl (by decide) dX10_road_129 ?_
          refine z_iload (pc := 132) C dX10_road_132 rfl ?_
          refine z_iald (pc := 134) C rfl (by decide) (zIx b113_6 (by decide) (by decide)) dX10_road_134 ?_
          have kq134_34 : a113_6.toNatClampNeg = a113_6.toInt.toNat := rfl
          refine w_gp (fun v => v = g113_ 32 0 a113_6.toNatClampNeg) rfl (fun v35 q35 => ?_)
          have b35x : zB v35 (-4) 21503 := by rw [q35]; exact (hI113_ 32 0 a113_6.toNatClampNeg)
          have hs135 := zRdm_s (by have h := (hI 25 0 4).2; have h2 : (f 25 0 4).toInt ≤ 12 := h; omega) hI113_ hR113_0 hR113_1 (Or.inl (fun z => absurd ((show v21 = g113_ 32 0 a113_6.toInt.toNat from q21).trans z) (by assumption)))
          have e135 : v35 = g113_ 32 0 a113_6.toInt.toNat := q35
          have b135 : zB v35 0 21503 := by rw [e135]; exact hs135.2.1
          have k135 := hs135.2.2.1
          refine z_istore (pc := 135) C dX10_road_135 (by rw [hn]; decide) rfl ?_
          refine z_goto (pc := 137) 113 C dX10_road_137 (by decide) ?_
          exact ih1 b113_1 b113_2 b113_3 a113_4 b113_4 v34 (by constructor <;> omega) v35 b135 g113_ hI113_ hF113_ f113_25_0_13 (by exact hR113_0) (by
                                                                                          have hn : (v34).toInt.toNat = a113_5.toInt.toNat + 1 := by omega
                                                                                          rw [hn, e135]
                                                                                          exact hs135.1) (by exact hR113_2) (by omega)
      · skip
        intro b166_1 b166_2 b166_3 a166_4 b166_4 a166_5 b166_5 a166_6 b166_6 a166_7 b166_7 g166_ hI166_ hF166_ f166_25_0_13 hR166_0 hR166_1 hR166_2 hR166_3 hR166_4 hR166_5 hM166_
        refine z_iload (pc := 166) C dX10_road_166 rfl ?_
        refine z_iload_n (pc := 168) C dX10_road_168 rfl ?_
        refine z_icmp_le (pc := 169) 187 C dX10_road_169 (by decide) (fun h169_35 => ?_) (fun h169_35 => ?_)
        · skip
          have rr37 : a166_7.toInt ≤ a3.toInt := by simp only [z32lt, z32le, z32eq] at h169_35; omega
          refine z_aload_n (pc := 187) C dX10_road_187 rfl ?_
          refine z_getR (pc := 188) C zf_X10_31 rfl rfl (by decide) dX10_road_188 ?_
          refine z_iload (pc := 191) C dX10_road_191 rfl ?_
          refine z_iald (pc := 193) C rfl (by decide) (zIx b166_6 (by decide) (by decide)) dX10_road_193 ?_
          have kq193_37 : a166_6.toNatClampNeg = a166_6.toInt.toNat := rfl
          refine w_gp (fun v => v = g166_ 33 0 a166_6.toNatClampNeg) rfl (fun v38 q38 => ?_)
          have b38x : zB v38 (-4) 11 := by rw [q38]; exact (hI166_ 33 0 a166_6.toNatClampNeg)
          exact z_iret (pc := 194) C hr dX10_road_194 ⟨⟨_, rfl, (zB.wk (a' := (-4)) (b' := 21503) b38x (by decide) (by decide))⟩, hI166_, hF166_, (by
                                                                                          intro v hv; cases hv
                                                                                          obtain ⟨w, w1, w2, w3⟩ := zRdm_f (by have h := (hI 25 0 4).2; have h2 : (f 25 0 4).toInt ≤ 12 := h; omega) hR166_1
                                                                                          have e193 : v38 = g166_ 33 0 a166_6.toInt.toNat := q38
                                                                                          refine Or.inr ⟨hR166_2, some w, w1, Or.inr ⟨w, rfl, a166_5.toInt.toNat, w2, Or.inr (Or.inr ⟨by omega, by omega, ?_⟩)⟩⟩
                                                                                          have h3 := w3 (by omega)
                                                                                          rw [e193, h3, show (a166_5.toInt - 1 - a166_7.toInt).toNat = a166_5.toInt.toNat - 1 - a3.toInt.toNat by omega])⟩
        · skip
          have rr39 : a166_7.toInt > a3.toInt := by simp only [z32lt, z32le, z32eq] at h169_35; omega
          have b40x : zB a166_7 1 21502 := by have q1 := b166_7; have q2 := b166_3; simp only [z32lt, z32le, z32eq, Int32.reduceToInt, Int32.toInt_zero] at h169_35; constructor <;> omega
          have b41x : zB a3 0 21501 := by have q1 := b166_7; have q2 := b166_3; simp only [z32lt, z32le, z32eq, Int32.reduceToInt, Int32.toInt_zero] at h169_35; constructor <;> omega
          refine z_aload_n (pc := 172) C dX10_road_172 rfl ?_
          refine z_getR (pc := 173) C zf_X10_28 rfl rfl (by decide) dX10_road_173 ?_
          refine z_iload (pc := 176) C dX10_road_176 rfl ?_
          refine z_iald (pc := 178) C rfl (by decide) (zIx b166_6 (by decide) (by decide)) dX10_road_178 ?_
          have kq178_41 : a166_6.toNatClampNeg = a166_6.toInt.toNat := rfl
          refine w_gp (fun v => v = g166_ 32 0 a166_6.toNatClampNeg) rfl (fun v42 q42 => ?_)
          have b42x : zB v42 (-4) 21503 := by rw [q42]; exact (hI166_ 32 0 a166_6.toNatClampNeg)
          have hs179 := zRdm_s (by have h := (hI 25 0 4).2; have h2 : (f 25 0 4).toInt ≤ 12 := h; omega) hI166_ hR166_0 hR166_1 (Or.inr ⟨_, rfl, by omega⟩)
          have e179 : v42 = g166_ 32 0 a166_6.toInt.toNat := q42
          have b179 : zB v42 0 21503 := by rw [e179]; exact hs179.2.1
          refine z_istore (pc := 179) C dX10_road_179 (by rw [hn]; decide) rfl ?_
          refine z_iinc (pc := 181) (v := -1) C dX10_road_181 rfl (by decide) (by rw [hn]; decide) rfl ?_
          obtain ⟨v43, hv43, e43⟩ : ∃ v : Int32, v = a166_7 + (-1) ∧ v.toInt = a166_7.toInt + (-1) := ⟨_, rfl, zadd_eb b40x (zB.of (x := (-1)) (-1) (by decide)) (by decide) (by decide)⟩
          rw [← hv43]
          have b43x : zB v43 0 21501 := by have q9 := b40x; constructor <;> omega
          refine z_goto (pc := 184) 166 C dX10_road_184 (by decide) ?_
          exact ih2 b166_1 b166_2 (zB.wk (a' := 0) (b' := 21502) b41x (by decide) (by decide)) a166_4 b166_4 a166_5 b166_5 v42 b179 v43 (zB.wk (a' := 0) (b' := 21502) b43x (by decide) (by decide)) g166_ hI166_ hF166_ f166_25_0_13 (by exact hR166_0) (by
                                                                                          rw [show (a166_5.toInt - 1 - (v43).toInt).toNat = (a166_5.toInt - 1 - a166_7.toInt).toNat + 1 by omega, e179]
                                                                                          exact hs179.1) (by exact hR166_2) (by omega) (by omega) (by omega) (by omega)
  obtain ⟨J0, J1, J2⟩ := J 49726551705609
  show Z X 0 [some (zr 25 0), some (zi a1), some (zi a2), some (zi a3), none, none, none, none] [] f
  refine z_iload_n (pc := 0) C dX10_road_0 rfl ?_
  refine z_callSb (pc := 1) C zk_X10_83 (m_X10_isLand _ _ _) rfl rfl (Nat.le_of_ble_eq_true rfl) dX10_road_1 (fun h1_43 => ?_) (fun h1_43 => ?_)
  · skip
    have b45x : zB a1 0 5 := h1_43
    refine z_if_eq (pc := 4) 20 C dX10_road_4 (by decide) (fun h => absurd h (by decide)) (fun _ => ?_)
    refine z_aload_n (pc := 7) C dX10_road_7 rfl ?_
    refine z_iload_n (pc := 8) C dX10_road_8 rfl ?_
    refine z_callVb (pc := 9) C zk_X10_120 (m_X10_isDeed _ _ _ hI) rfl rfl (by decide) rfl rfl (Nat.le_of_ble_eq_true rfl) dX10_road_9 (fun h9_45 => ?_) (fun h9_45 => ?_)
    · skip
      have b47x : zB a2 0 7 := (zltc h9_45 (hI 25 0 2).2)
      refine z_if_eq (pc := 12) 20 C dX10_road_12 (by decide) (fun h => absurd h (by decide)) (fun _ => ?_)
      refine z_iload_n (pc := 15) C dX10_road_15 rfl ?_
      refine z_iconst (pc := 16) (v := -1) C dX10_road_16 (by decide) ?_
      refine z_icmp_ge (pc := 17) 22 C dX10_road_17 (by decide) (fun h17_47 => ?_) (fun h17_47 => ?_)
      · skip
        have b49x : zB a3 (-1) 2147483647 := by have q1 := b3; have q2 := (zB.of (x := (-1)) (-1) (by decide)); simp only [z32lt, z32le, z32eq, Int32.reduceToInt, Int32.toInt_zero] at h17_47; constructor <;> omega
        refine z_aload_n (pc := 22) C dX10_road_22 rfl ?_
        refine z_callV (pc := 23) C zk_X10_179 (y_X10_findStates _ _  hI) rfl rfl (by decide) rfl rfl (Nat.le_of_ble_eq_true rfl) dX10_road_23 (fun r50 g50 q50 => ?_)
        obtain ⟨rfl, hI50, hF50q, hp50_0⟩ := q50
        have hF50 := zFr.tr hF hF50q (by decide)
        simp only [Option.toList, List.cons_append, List.nil_append]
        have cr50_25_0_13 : zB (g50 25 0 13) 0 21504 := hI50 25 0 13
        refine z_bipush (pc := 26) (v := -4) C dX10_road_26 (by decide) ?_
        refine z_istore (pc := 28) C dX10_road_28 (by rw [hn]; decide) rfl ?_
        refine z_aload_n (pc := 30) C dX10_road_30 rfl ?_
        refine z_getI (pc := 31) C zf_X10_168 rfl rfl (by decide) dX10_road_31 ?_
        refine w_gp (fun v => v = g50 25 0 13) rfl (fun v51 q51 => ?_)
        have e51 : v51.toInt = (g50 25 0 13).toInt := by rw [q51]
        have b51x : zB v51 0 21504 := by first | exact zB.eqv e51 cr50_25_0_13 | (have q9 := cr50_25_0_13; constructor <;> omega)
        refine z_iconst (pc := 34) (v := 1) C dX10_road_34 (by decide) ?_
        refine z_isub (pc := 35) C dX10_road_35 ?_
        refine w_gp (fun v => v = v51 - (1 : Int32)) rfl (fun v52 q52 => ?_)
        have e52 : v52.toInt = v51.toInt - 1 := by rw [q52]; exact (zsub_eb b51x (zB.of (x := 1) 1 (by decide)) (by decide) (by decide))
        have b52x : zB v52 (-1) 21503 := by have q1 := b51x; have q2 := (zB.of (x := 1) 1 (by decide)); constructor <;> omega
        refine z_istore (pc := 36) C dX10_road_36 (by rw [hn]; decide) rfl ?_
        exact J0 b45x b47x b49x (-4) (zB.wk (a' := (-4)) (b' := 21503) (zB.of (x := (-4)) (-4) (by decide)) (by decide) (by decide)) v52 b52x g50 hI50 hF50 cr50_25_0_13 (by exact hp50_0) (by exact Or.inl ⟨rfl, fun j h1 h2 => by unfold zqn at h2; omega⟩) (by omega) (by have qc0 : ((-4) : Int32).toInt = (-4) := (by decide); omega) (by have qc0 : ((-4) : Int32).toInt = (-4) := (by decide); omega) (by have qc0 : ((-4) : Int32).toInt = (-4) := (by decide); omega)
      · skip
        have b53x : zB a3 (-2147483648) (-2) := by have q1 := b3; have q2 := (zB.of (x := (-1)) (-1) (by decide)); simp only [z32lt, z32le, z32eq, Int32.reduceToInt, Int32.toInt_zero] at h17_47; constructor <;> omega
        refine z_iconst (pc := 20) (v := -1) C dX10_road_20 (by decide) ?_
        exact z_iret (pc := 21) C hr dX10_road_21 ⟨⟨_, rfl, (zB.wk (a' := (-4)) (b' := 21503) (zB.of (x := (-1)) (-1) (by decide)) (by decide) (by decide))⟩, hI, hF, (by intro v hv; cases hv; exact Or.inl ⟨by omega, rfl⟩)⟩
    · skip
      refine z_if_eq (pc := 12) 20 C dX10_road_12 (by decide) (fun _ => ?_) (fun h => absurd (by decide) h)
      refine z_iconst (pc := 20) (v := -1) C dX10_road_20 (by decide) ?_
      exact z_iret (pc := 21) C hr dX10_road_21 ⟨⟨_, rfl, (zB.wk (a' := (-4)) (b' := 21503) (zB.of (x := (-1)) (-1) (by decide)) (by decide) (by decide))⟩, hI, hF, (by intro v hv; cases hv; exact Or.inl ⟨by omega, rfl⟩)⟩
  · skip
    refine z_if_eq (pc := 4) 20 C dX10_road_4 (by decide) (fun _ => ?_) (fun h => absurd (by decide) h)
    refine z_iconst (pc := 20) (v := -1) C dX10_road_20 (by decide) ?_
    exact z_iret (pc := 21) C hr dX10_road_21 ⟨⟨_, rfl, (zB.wk (a' := (-4)) (b' := 21503) (zB.of (x := (-1)) (-1) (by decide)) (by decide) (by decide))⟩, hI, hF, (by intro v hv; cases hv; exact Or.inl ⟨by omega, rfl⟩)⟩
