/-- a list of states that comes breadth first: entries 0 .. n-1 with state, the entry and the paper that it came by; spread: all papers from entries below e, from e those below q -/
def zBF (G : Nat → Nat → Prop) (N : Nat → Nat → Nat) (np s0 : Nat) (st pr pa : Nat → Nat) (n e q : Nat) : Prop :=
  (1 ≤ n ∧ st 0 = s0) ∧
  (∀ k, 0 < k → k < n → pr k < k ∧ pa k < np ∧ G (st (pr k)) (pa k) ∧ st k = N (st (pr k)) (pa k)) ∧
  (∀ k, 0 < k → k < n → pr k < e ∨ (pr k = e ∧ pa k < q)) ∧
  (∀ j k, 0 < j → j < k → k < n → pr j < pr k ∨ (pr j = pr k ∧ pa j < pa k)) ∧
  (∀ k p, (k < e ∨ (k = e ∧ p < q)) → k < n → p < np → G (st k) p → ∃ j, j < n ∧ st j = N (st k) p ∧ (j = 0 ∨ pr j < k ∨ (pr j = k ∧ pa j ≤ p)))
theorem zBF_0 {G : Nat → Nat → Prop} {N : Nat → Nat → Nat} {np s0 : Nat} {st pr pa : Nat → Nat} (h : st 0 = s0) : zBF G N np s0 st pr pa 1 0 0 :=
  ⟨⟨Nat.le_refl 1, h⟩, fun k h1 h2 => absurd h2 (by omega), fun k h1 h2 => absurd h2 (by omega), fun j k h1 h2 h3 => absurd h3 (by omega), fun k p h1 _ _ _ => absurd h1 (by omega)⟩
theorem zBF_skip {G : Nat → Nat → Prop} {N : Nat → Nat → Nat} {np s0 : Nat} {st pr pa : Nat → Nat} {n e q : Nat} (h : zBF G N np s0 st pr pa n e q) (hs : G (st e) q → ∃ j, j < n ∧ st j = N (st e) q) : zBF G N np s0 st pr pa n e (q + 1) := by
  obtain ⟨h1, h2, h3, h4, h5⟩ := h
  refine ⟨h1, h2, fun k a b => ?_, h4, fun k p a b c d => ?_⟩
  · rcases h3 k a b with z | z
    · exact Or.inl z
    · exact Or.inr ⟨z.1, by omega⟩
  · by_cases z : k < e ∨ (k = e ∧ p < q)
    · exact h5 k p z b c d
    · have e1 : k = e := by omega
      have e2 : p = q := by omega
      subst e1; subst e2
      obtain ⟨j, j1, j2⟩ := hs d
      refine ⟨j, j1, j2, ?_⟩
      by_cases j0 : j = 0
      · exact Or.inl j0
      · rcases h3 j (by omega) j1 with y | y
        · exact Or.inr (Or.inl y)
        · exact Or.inr (Or.inr ⟨y.1, by omega⟩)
theorem zBF_add {G : Nat → Nat → Prop} {N : Nat → Nat → Nat} {np s0 : Nat} {st pr pa st' pr' pa' : Nat → Nat} {n e q : Nat} (h : zBF G N np s0 st pr pa n e q) (he : e < n) (hq : q < np) (hG : G (st e) q) (k1 : ∀ k, k < n → st' k = st k ∧ pr' k = pr k ∧ pa' k = pa k) (k2 : st' n = N (st e) q ∧ pr' n = e ∧ pa' n = q) : zBF G N np s0 st' pr' pa' (n + 1) e (q + 1) := by
  obtain ⟨h1, h2, h3, h4, h5⟩ := h
  obtain ⟨a1, a2, a3⟩ := k2
  refine ⟨⟨by omega, by rw [(k1 0 (by omega)).1]; exact h1.2⟩, fun k a b => ?_, fun k a b => ?_, fun j k a b c => ?_, fun k p a b c d => ?_⟩
  · by_cases z : k = n
    · subst z
      rw [a1, a2, a3, (k1 e he).1]
      exact ⟨he, hq, hG, rfl⟩
    · obtain ⟨y1, y2, y3, y4⟩ := h2 k a (by omega)
      obtain ⟨x1, x2, x3⟩ := k1 k (by omega)
      rw [x1, x2, x3, (k1 (pr k) (by omega)).1]
      exact ⟨y1, y2, y3, y4⟩
  · by_cases z : k = n
    · subst z; rw [a2, a3]; exact Or.inr ⟨rfl, by omega⟩
    · obtain ⟨x1, x2, x3⟩ := k1 k (by omega)
      rw [x2, x3]
      rcases h3 k a (by omega) with y | y
      · exact Or.inl y
      · exact Or.inr ⟨y.1, by omega⟩
  · obtain ⟨x1, x2, x3⟩ := k1 j (by omega)
    by_cases z : k = n
    · subst z
      rw [x2, x3, a2, a3]
      exact h3 j a b
    · obtain ⟨y1, y2, y3⟩ := k1 k (by omega)
      rw [x2, x3, y2, y3]; exact h4 j k a b (by omega)
  · by_cases z : (k < e ∨ (k = e ∧ p < q))
    · rw [(k1 k (by omega)).1] at d ⊢
      obtain ⟨j, j1, j2, j3⟩ := h5 k p z (by omega) c d
      obtain ⟨x1, x2, x3⟩ := k1 j j1
      exact ⟨j, by omega, by rw [x1]; exact j2, by rw [x2, x3]; exact j3⟩
    · have e1 : k = e := by omega
      have e2 : p = q := by omega
      subst e1; subst e2
      refine ⟨n, by omega, ?_, ?_⟩
      · rw [a1, (k1 k he).1]
      · rw [a2, a3]; exact Or.inr (Or.inr ⟨rfl, Nat.le_refl _⟩)
theorem zBF_row {G : Nat → Nat → Prop} {N : Nat → Nat → Nat} {np s0 : Nat} {st pr pa : Nat → Nat} {n e q : Nat} (h : zBF G N np s0 st pr pa n e q) (hq : np ≤ q) : zBF G N np s0 st pr pa n (e + 1) 0 := by
  obtain ⟨h1, h2, h3, h4, h5⟩ := h
  refine ⟨h1, h2, fun k a b => ?_, h4, fun k p a b c d => ?_⟩
  · rcases h3 k a b with z | z
    · exact Or.inl (by omega)
    · exact Or.inl (by omega)
  · exact h5 k p (by omega) b c d
/-- the road to an entry, as a number -/
def zrpc (pr pa : Nat → Nat) : Nat → Nat → Nat
  | 0, _ => 1
  | m + 1, k => if k = 0 then 1 else 12 * zrpc pr pa m (pr k) + pa k
theorem zrpc_m {pr pa : Nat → Nat} {n : Nat} (h : ∀ k, 0 < k → k < n → pr k < k) : ∀ m k, k ≤ m → k < n → zrpc pr pa m k = zrpc pr pa k k := by
  intro m
  induction m using Nat.strongRecOn with
  | _ m ih =>
    intro k hm hk
    by_cases k0 : k = 0
    · subst k0
      cases m with
      | zero => rfl
      | succ m => rfl
    · obtain ⟨m', rfl⟩ : ∃ m', m = m' + 1 := ⟨m - 1, by omega⟩
      obtain ⟨k', rfl⟩ : ∃ k', k = k' + 1 := ⟨k - 1, by omega⟩
      have hp := h (k' + 1) (by omega) hk
      show (if k' + 1 = 0 then 1 else 12 * zrpc pr pa m' (pr (k' + 1)) + pa (k' + 1)) = (if k' + 1 = 0 then 1 else 12 * zrpc pr pa k' (pr (k' + 1)) + pa (k' + 1))
      rw [if_neg (by omega), if_neg (by omega), ih m' (by omega) (pr (k' + 1)) (by omega) (by omega)]
      by_cases e : k' = m'
      · subst e; rw [ih k' (by omega) (pr (k' + 1)) (by omega) (by omega)]
      · rw [ih k' (by omega) (pr (k' + 1)) (by omega) (by omega)]
def zpd (pr pa : Nat → Nat) (k : Nat) : Nat := zrpc pr pa k k
theorem zpd_0 {pr pa : Nat → Nat} : zpd pr pa 0 = 1 := rfl
theorem zpd_s {pr pa : Nat → Nat} {n : Nat} (h : ∀ k, 0 < k → k < n → pr k < k) {k : Nat} (h0 : 0 < k) (hk : k < n) : zpd pr pa k = 12 * zpd pr pa (pr k) + pa k := by
  obtain ⟨k', rfl⟩ : ∃ k', k = k' + 1 := ⟨k - 1, by omega⟩
  have hp := h (k' + 1) h0 hk
  show (if k' + 1 = 0 then 1 else 12 * zrpc pr pa k' (pr (k' + 1)) + pa (k' + 1)) = _
  rw [if_neg (by omega), zrpc_m h k' (pr (k' + 1)) (by omega) (by omega)]
  rfl
/-- where a road ends -/
noncomputable def zen (G : Nat → Nat → Prop) (N : Nat → Nat → Nat) (np s0 : Nat) : Nat → Nat → Option Nat
  | 0, _ => none
  | m + 1, w => if w = 1 then some s0 else if w = 0 then none else (zen G N np s0 m (w / 12)).bind (fun s => @ite (Option Nat) (w % 12 < np ∧ G s (w % 12)) (Classical.propDecidable _) (some (N s (w % 12))) none)
def zrv (G : Nat → Nat → Prop) (N : Nat → Nat → Nat) (np s0 w s : Nat) : Prop := ∃ m, zen G N np s0 m w = some s
theorem zrv_1 {G : Nat → Nat → Prop} {N : Nat → Nat → Nat} {np s0 : Nat} : zrv G N np s0 1 s0 := ⟨1, rfl⟩
theorem zrv_s {G : Nat → Nat → Prop} {N : Nat → Nat → Nat} {np s0 w s p : Nat} (h : zrv G N np s0 w s) (hw : 1 ≤ w) (hp : p < np) (h12 : p < 12) (hG : G s p) : zrv G N np s0 (12 * w + p) (N s p) := by
  obtain ⟨m, h⟩ := h
  refine ⟨m + 1, ?_⟩
  have e1 : (12 * w + p) / 12 = w := by omega
  have e2 : (12 * w + p) % 12 = p := by omega
  rw [zen, if_neg (by omega), if_neg (by omega), e1, e2, h]
  exact if_pos ⟨hp, hG⟩
/-- every road ends in a state of some entry that is not behind it, or is not ahead of the first entry that was not spread -/
theorem zBF_all {G : Nat → Nat → Prop} {N : Nat → Nat → Nat} {np s0 : Nat} {st pr pa : Nat → Nat} {n e : Nat} (hn : np ≤ 12) (h : zBF G N np s0 st pr pa n e 0) (hm : ∀ j k, j < k → k < n → zpd pr pa j < zpd pr pa k) : ∀ m w s, zen G N np s0 m w = some s → (∃ j, j < n ∧ st j = s ∧ zpd pr pa j ≤ w) ∨ (e < n ∧ zpd pr pa e ≤ w) := by
  obtain ⟨h1, h2, h3, h4, h5⟩ := h
  intro m
  induction m with
  | zero => intro w s hz; cases hz
  | succ m ih =>
    intro w s hz
    rw [zen] at hz
    by_cases w1 : w = 1
    · rw [if_pos w1] at hz
      injection hz with hz
      subst hz; subst w1
      exact Or.inl ⟨0, by omega, h1.2, Nat.le_refl 1⟩
    · rw [if_neg w1] at hz
      by_cases w0 : w = 0
      · rw [if_pos w0] at hz; cases hz
      · rw [if_neg w0] at hz
        rcases hy : zen G N np s0 m (w / 12) with _ | s'
        · rw [hy] at hz; exact absurd hz (by simp)
        · rw [hy] at hz
          change (@ite (Option Nat) (w % 12 < np ∧ G s' (w % 12)) (Classical.propDecidable _) (some (N s' (w % 12))) none) = some s at hz
          by_cases hg : w % 12 < np ∧ G s' (w % 12)
          · rw [if_pos hg] at hz
            injection hz with hz
            subst hz
            rcases ih (w / 12) s' hy with ⟨j, j1, j2, j3⟩ | ⟨j1, j2⟩
            · by_cases je : j < e
              · subst j2
                obtain ⟨i, i1, i2, i3⟩ := h5 j (w % 12) (Or.inl je) j1 hg.1 hg.2
                refine Or.inl ⟨i, i1, i2, ?_⟩
                by_cases i0 : i = 0
                · subst i0; rw [zpd_0]; omega
                · rw [zpd_s (fun k a b => (h2 k a b).1) (by omega) i1]
                  have hpa := (h2 i (by omega) i1).2.1
                  have hpr := (h2 i (by omega) i1).1
                  rcases i3 with y | y | y
                  · exact absurd y i0
                  · have := hm (pr i) j y j1
                    omega
                  · rw [y.1]; omega
              · refine Or.inr ⟨by omega, ?_⟩
                by_cases ej : e = j
                · subst ej; omega
                · have := hm e j (by omega) j1
                  omega
            · exact Or.inr ⟨j1, by omega⟩
          · rw [if_neg hg] at hz; cases hz
theorem zBF_mono {G : Nat → Nat → Prop} {N : Nat → Nat → Nat} {np s0 : Nat} {st pr pa : Nat → Nat} {n e q : Nat} (hn : np ≤ 12) (h : zBF G N np s0 st pr pa n e q) : ∀ j k, j < k → k < n → zpd pr pa j < zpd pr pa k := by
  obtain ⟨h1, h2, h3, h4, h5⟩ := h
  have hp : ∀ k, 0 < k → k < n → pr k < k := fun k a b => (h2 k a b).1
  have h1' : ∀ k, k < n → 1 ≤ zpd pr pa k := by
    intro k
    induction k using Nat.strongRecOn with
    | _ k ih =>
      intro hk
      by_cases k0 : k = 0
      · subst k0; exact Nat.le_refl 1
      · have := ih (pr k) (hp k (by omega) hk) (by have := hp k (by omega) hk; omega)
        rw [zpd_s hp (by omega) hk]; omega
  intro j k
  induction k using Nat.strongRecOn generalizing j with
  | _ k ih =>
    intro hjk hk
    have hpk := hp k (by omega) hk
    have h1k := h1' (pr k) (by omega)
    rw [zpd_s hp (by omega) hk]
    by_cases j0 : j = 0
    · subst j0; rw [zpd_0]; omega
    · have hpj := hp j (by omega) (by omega)
      rw [zpd_s hp (by omega) (show j < n by omega)]
      have hj12 := (h2 j (by omega) (by omega)).2.1
      rcases h4 j k (by omega) hjk hk with y | y
      · have := ih (pr k) hpk (pr j) y (by omega)
        omega
      · rw [y.1]; omega
theorem zBF_val {G : Nat → Nat → Prop} {N : Nat → Nat → Nat} {np s0 : Nat} {st pr pa : Nat → Nat} {n e q : Nat} (hn : np ≤ 12) (h : zBF G N np s0 st pr pa n e q) : ∀ k, k < n → 1 ≤ zpd pr pa k ∧ zrv G N np s0 (zpd pr pa k) (st k) := by
  obtain ⟨h1, h2, h3, h4, h5⟩ := h
  have hp : ∀ k, 0 < k → k < n → pr k < k := fun k a b => (h2 k a b).1
  intro k
  induction k using Nat.strongRecOn with
  | _ k ih =>
    intro hk
    by_cases k0 : k = 0
    · subst k0; rw [h1.2]; exact ⟨Nat.le_refl 1, zrv_1⟩
    · obtain ⟨a1, a2, a3, a4⟩ := h2 k (by omega) hk
      obtain ⟨b1, b2⟩ := ih (pr k) a1 (by omega)
      rw [zpd_s hp (by omega) hk, a4]
      exact ⟨by omega, zrv_s b2 b1 a2 (by omega) a3⟩
/-- the first entry that ends a road: its number is the least of all roads that do -/
def zFnd (Q : Nat → Prop) (G : Nat → Nat → Prop) (N : Nat → Nat → Nat) (np s0 : Nat) (o : Option Nat) : Prop := ∃ st pr pa n e, zBF G N np s0 st pr pa n e 0 ∧ ((o = none ∧ e = n ∧ ∀ j, j < n → ¬ Q (st j)) ∨ (∃ k, k < n ∧ (e = n ∨ e = k) ∧ o = some (zpd pr pa k) ∧ Q (st k) ∧ ∀ j, j < k → ¬ Q (st j)))
theorem zFnd_u {Q R : Nat → Prop} {G H : Nat → Nat → Prop} {N : Nat → Nat → Nat} {np s0 : Nat} {o o2 : Option Nat} (hn : np ≤ 12) (hGH : G = H) (hQ : ∀ s, Q s ↔ R s) (h : zFnd Q G N np s0 o) (h2 : zFnd R H N np s0 o2) : o2 = o := by
  subst hGH
  -- of a road that ends well the other list knows one that is not behind it
  have key : ∀ {P : Nat → Prop} {st pr pa : Nat → Nat} {n e : Nat} {w s : Nat}, zBF G N np s0 st pr pa n e 0 → zrv G N np s0 w s → P s → ((e = n ∧ ∀ j, j < n → ¬ P (st j)) → False) ∧ (∀ k, k < n → (e = n ∨ e = k) → (∀ j, j < k → ¬ P (st j)) → zpd pr pa k ≤ w) := by
    intro P st pr pa n e w s hb hv hs
    obtain ⟨m, hv⟩ := hv
    have hm := zBF_mono hn hb
    have ha := zBF_all hn hb hm m w s hv
    constructor
    · rintro ⟨e1, e2⟩
      rcases ha with ⟨j, j1, j2, _⟩ | ⟨j1, _⟩
      · exact e2 j j1 (by rw [j2]; exact hs)
      · omega
    · intro k k1 k2 k3
      rcases ha with ⟨j, j1, j2, j3⟩ | ⟨j1, j2⟩
      · by_cases jk : j < k
        · exact absurd (by rw [j2]; exact hs) (k3 j jk)
        · by_cases e1 : j = k
          · subst e1; exact j3
          · have := hm k j (by omega) j1
            omega
      · rcases k2 with z | z
        · omega
        · subst z; exact j2
  obtain ⟨st, pr, pa, n, e, hb, hx⟩ := h
  obtain ⟨st2, pr2, pa2, n2, e2, hb2, hy⟩ := h2
  rcases hx with ⟨x1, x2, x3⟩ | ⟨k, k1, k2, k3, k4, k5⟩ <;> rcases hy with ⟨y1, y2, y3⟩ | ⟨l, l1, l2, l3, l4, l5⟩
  · rw [x1, y1]
  · have hv := (zBF_val hn hb2 l l1).2
    exact absurd ⟨x2, x3⟩ (key (P := Q) hb hv ((hQ _).mpr l4)).1
  · have hv := (zBF_val hn hb k k1).2
    exact absurd ⟨y2, y3⟩ (key (P := R) hb2 hv ((hQ _).mp k4)).1
  · have v1 := (zBF_val hn hb k k1).2
    have v2 := (zBF_val hn hb2 l l1).2
    have a1 := (key (P := R) hb2 v1 ((hQ _).mp k4)).2 l l1 l2 l5
    have a2 := (key (P := Q) hb v2 ((hQ _).mpr l4)).2 k k1 k2 k5
    rw [l3, k3]
    congr 1
    omega
/-- the states that come at all -/
def zRh_ (G : Nat → Nat → Prop) (N : Nat → Nat → Nat) (np s0 : Nat) (L : Nat → Prop) (T : Nat → Nat) : Prop := ∃ st pr pa n, zBF G N np s0 st pr pa n n 0 ∧ ∀ l, L l ↔ ∃ k, k < n ∧ T (st k) = l
theorem zRh_u {G : Nat → Nat → Prop} {N : Nat → Nat → Nat} {np s0 : Nat} {L M : Nat → Prop} {T : Nat → Nat} (hn : np ≤ 12) (h : zRh_ G N np s0 L T) (h2 : zRh_ G N np s0 M T) (l : Nat) (hl : L l) : M l := by
  obtain ⟨st, pr, pa, n, hb, hx⟩ := h
  obtain ⟨st2, pr2, pa2, n2, hb2, hy⟩ := h2
  obtain ⟨k, k1, k2⟩ := (hx l).mp hl
  obtain ⟨m, hv⟩ := (zBF_val hn hb k k1).2
  rcases zBF_all hn hb2 (zBF_mono hn hb2) m _ _ hv with ⟨j, j1, j2, _⟩ | ⟨j1, _⟩
  · exact (hy l).mpr ⟨j, j1, by rw [j2]; exact k2⟩
  · omega
def zbk : Nat → Nat → Nat
  | 0, w => w
  | m + 1, w => zbk m (w / 12)
