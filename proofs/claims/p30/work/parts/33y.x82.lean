def zRo (f : zM) : Prop := (∀ i : Nat, (i : Int) < (f 1 0 5).toInt → 1 ≤ (f 7 i 4).toInt) ∧ (∀ i : Nat, (i : Int) < (f 1 1 5).toInt → 1 ≤ (f 7 (24 + i) 4).toInt)
theorem zRo_k {f g : zM} (hI : zInv f) (h : zRo f) (a0 : g 1 0 5 = f 1 0 5) (a1 : g 1 1 5 = f 1 1 5) (b : ∀ x, x < 48 → g 7 x 4 = f 7 x 4) : zRo g := by
  have u0 : (f 1 0 5).toInt ≤ 24 := (hI 1 0 5).2
  have u1 : (f 1 1 5).toInt ≤ 24 := (hI 1 1 5).2
  refine ⟨fun i hi => ?_, fun i hi => ?_⟩
  · rw [a0] at hi; rw [b _ (by omega)]; exact h.1 i hi
  · rw [a1] at hi; rw [b _ (by omega)]; exact h.2 i hi
theorem zRo_0 : zRo z0 := by
  refine ⟨fun i hi => ?_, fun i hi => ?_⟩
  · rw [show z0 1 0 5 = 0 from rfl] at hi; exact absurd hi (by have : (0 : Int32).toInt = 0 := by decide
                                                               omega)
  · rw [show z0 1 1 5 = 0 from rfl] at hi; exact absurd hi (by have : (0 : Int32).toInt = 0 := by decide
                                                               omega)
theorem znu_lo {T : Nat → Int32} {n p q : Nat} {lo hi : Int} {v : Int32} (h : znu T n lo hi p = .inr (v, q)) (h0 : 0 ≤ lo) (h1 : hi ≤ 1000) : lo ≤ v.toInt := by
  unfold znu at h
  split at h
  · cases h
  · rename_i hc
    injection h with h; injection h with h2 h3; subst h2
    have hl : lo ≤ zdv T n (n - zsp T n p) (zsp T n p) 0 := by omega
    have hh : zdv T n (n - zsp T n p) (zsp T n p) 0 ≤ hi := by omega
    generalize zdv T n (n - zsp T n p) (zsp T n p) 0 = x at hl hh
    rw [Int32.toInt_ofInt_of_le (by omega) (by omega)]
    exact hl
theorem zCr_4 {mk : Int32 → Nat → zR Int32} {T : Nat → Int32} {n p q : Nat} {land : Int32} {c : Nat → Int32} (h : zCr mk T n land p = .inr (c, q)) : 1 ≤ (c 4).toInt := by
  unfold zCr at h
  obtain ⟨must, p1, _, h⟩ := zbd_r h
  obtain ⟨but, p2, _, h⟩ := zbd_r h
  obtain ⟨least, p3, _, h⟩ := zbd_r h
  obtain ⟨_, p4, _, h⟩ := zbd_r h
  obtain ⟨_, p5, _, h⟩ := zbd_r h
  obtain ⟨most, p6, hm, h⟩ := zbd_r h
  have hl := znu_lo hm (by omega) (by decide)
  have h1 : 1 ≤ most.toInt := by omega
  split at h
  · injection h with h; injection h with h2 h3; subst h2; exact h1
  · injection h with h; injection h with h2 h3; subst h2; exact h1
theorem zclR_c4 (T : Nat → Int32) (n : Nat) : ∀ p c q, zclR T n p = .inr ((false, c), q) → 1 ≤ (c 4).toInt := by
  intro p c q h
  unfold zclR zCl at h
  obtain ⟨land, p1, _, h⟩ := zbd_r h
  by_cases h1 : zch T n (zsp T n p1) = 58
  · rw [if_pos h1] at h
    obtain ⟨x, y, hx, h⟩ := zbd_r h
    injection h with h; injection h with h1 h2; injection h1 with h3 h4; subst h4
    exact zCr_4 hx
  · rw [if_neg h1] at h
    by_cases h2 : zch T n (zsp T n (zsp T n p1)) = 62
    · rw [if_pos h2] at h
      obtain ⟨x, y, _, h⟩ := zbd_r h
      injection h with h; injection h with h1 h2; injection h1 with h3 h4; cases h3
    · rw [if_neg h2] at h; cases h
theorem zwd_c4 {cl : Nat → zR (Bool × (Nat → Int32))} {T : Nat → Int32} {n : Nat} (hc : ∀ p c q, cl p = .inr ((false, c), q) → 1 ≤ (c 4).toInt) : ∀ k p cs ps, zwd cl T n k p = .inr (cs, ps) → ∀ x, x ∈ cs → 1 ≤ (x 4).toInt
  | 0, p, cs, ps, h => by unfold zwd at h; cases h
  | k + 1, p, cs, ps, h => by
    unfold zwd at h
    rcases hx : cl p with e | ⟨⟨b, c⟩, q⟩
    · rw [hx] at h; simp only [zfin, zbd] at h; cases h
    · rw [hx] at h
      by_cases hf : zch T n (zsp T n q) = 59 ∨ zch T n (zsp T n q) = -1
      · rw [zfin_ok hf] at h
        simp only at h
        by_cases h1 : zch T n (zsp T n q) = -1
        · rw [if_pos h1] at h
          cases b
          · rw [if_neg (by decide)] at h
            injection h with h; injection h with h2 h3; subst h2
            intro x hq
            rw [List.mem_singleton] at hq
            subst hq
            exact hc p x q hx
          · rw [if_pos rfl] at h
            injection h with h; injection h with h2 h3; subst h2
            intro x hx; cases hx
        · rw [if_neg h1] at h
          by_cases hk : k = 0
          · rw [if_pos hk] at h; cases h
          · rw [if_neg hk] at h
            rcases hy : zwd cl T n k (zsp T n q + 1) with e | ⟨cs2, ps2⟩
            · rw [hy] at h; cases h
            · rw [hy] at h
              have ih := zwd_c4 hc k _ cs2 ps2 hy
              simp only at h
              cases b
              · rw [if_neg (by decide)] at h
                injection h with h; injection h with h2 h3; subst h2
                intro x hq
                rcases List.mem_cons.mp hq with hq | hq
                · subst hq; exact hc p x q hx
                · exact ih x hq
              · rw [if_pos rfl] at h
                injection h with h; injection h with h2 h3; subst h2
                exact ih
      · rw [zfin_bad _ (fun q => hf (Or.inl q)) (fun q => hf (Or.inr q))] at h; cases h
theorem qo_world {f g : zM} {v : Int32} {W : Nat ⊕ (List (Nat → Int32) × List (Nat → Int32))} (hI : zInv f) (Ro : zRo f) (hP : zWx f g v W) (h4 : ∀ cs ps, W = .inr (cs, ps) → ∀ x, x ∈ cs → 1 ≤ (x 4).toInt) : zRo g := by
  have hk : zKw f g → zRo g := fun k => zRo_k hI Ro k.1 k.2.1 (fun x hx => k.2.2.2.2.1 x 4 hx (by decide))
  have b0 : 0 ≤ (f 1 0 5).toInt := (hI 1 0 5).1
  have u1 : (f 1 1 5).toInt ≤ 24 := (hI 1 1 5).2
  rcases W with e | ⟨cs, ps⟩
  · exact hk hP.2
  · have hps := h4 cs ps rfl
    simp only [zWx] at hP
    rcases hP with ⟨p1, p2, p3⟩ | ⟨p1, p2, p3, p4, p5, p6, p7, p8⟩
    · exact hk p3
    · refine ⟨fun i hi => ?_, fun i hi => ?_⟩
      · by_cases q : i < (f 1 0 5).toInt.toNat
        · rw [p7.2 i 4 (by omega) (Or.inl q) (by decide)]; exact Ro.1 i (by omega)
        · have e := p7.1 (i - (f 1 0 5).toInt.toNat) 4 (by omega) (by decide)
          rw [show (f 1 0 5).toInt.toNat + (i - (f 1 0 5).toInt.toNat) = i by omega] at e
          rw [e]
          exact hps _ (getD_mem (by omega))
      · rw [p5] at hi
        rw [p7.2 _ 4 (by omega) (Or.inr (by omega)) (by decide)]; exact Ro.2 i hi
theorem qo_image {f g : zM} (hI : zInv f) (Ro : zRo f) (h0 : g 1 1 5 = f 1 0 5) (h1 : g 1 1 6 = f 1 0 6) (h2 : g 1 1 7 = f 1 0 7) (h3 : g 1 1 8 = f 1 0 8) (h4 : g 1 0 5 = f 1 0 5) (h5 : g 1 0 6 = f 1 0 6) (h6 : g 1 0 7 = f 1 0 7) (h7 : g 1 0 8 = f 1 0 8) (h8 : zcpd f g 7 24 0 (f 1 0 5).toInt.toNat 6 24) (h9 : zcpd f g 8 8 0 (f 1 0 6).toInt.toNat 5 8) (h10 : zcpd f g 11 12 0 (f 1 0 7).toInt.toNat 8 12) (h11 : zcpd f g 12 8 0 (f 1 0 8).toInt.toNat 3 8) (h12 : ∀ j, j < 7 → g 6 1 j = f 6 0 j) (h13 : ∀ j, j < 7 → g 6 0 j = f 6 0 j) (h14 : g 0 0 5 = 1) (h15 : zRl f → zRl g) : zRo g := by
  have u0 : (f 1 0 5).toInt ≤ 24 := (hI 1 0 5).2
  refine ⟨fun i hi => ?_, fun i hi => ?_⟩
  · rw [h4] at hi
    have e := h8.2 i 4 (by omega) (by decide)
    rw [Nat.zero_add] at e
    rw [e]; exact Ro.1 i hi
  · rw [h0] at hi
    have e := h8.1 i 4 (by omega) (by decide)
    rw [Nat.zero_add] at e
    rw [e]; exact Ro.1 i hi
theorem qo_restore {f g : zM} (hI : zInv f) (Ro : zRo f) (h0 : g 1 0 5 = f 1 1 5) (h1 : g 1 0 6 = f 1 1 6) (h2 : g 1 0 7 = f 1 1 7) (h3 : g 1 0 8 = f 1 1 8) (h4 : g 1 1 5 = f 1 1 5) (h5 : g 1 1 6 = f 1 1 6) (h6 : g 1 1 7 = f 1 1 7) (h7 : g 1 1 8 = f 1 1 8) (h8 : zcpd f g 7 0 24 (f 1 1 5).toInt.toNat 6 24) (h9 : zcpd f g 8 0 8 (f 1 1 6).toInt.toNat 5 8) (h10 : zcpd f g 11 0 12 (f 1 1 7).toInt.toNat 8 12) (h11 : zcpd f g 12 0 8 (f 1 1 8).toInt.toNat 3 8) (h12 : ∀ j, j < 7 → g 6 0 j = f 6 1 j) (h13 : ∀ j, j < 7 → g 6 1 j = f 6 1 j) (h14 : ∀ i, i < (f 1 1 6).toInt.toNat → zLk g i (fun k j => g 7 k j) (g 1 0 5).toInt.toNat) : zRo g := by
  have u0 : (f 1 1 5).toInt ≤ 24 := (hI 1 1 5).2
  refine ⟨fun i hi => ?_, fun i hi => ?_⟩
  · rw [h0] at hi
    have e := h8.1 i 4 (by omega) (by decide)
    rw [Nat.zero_add] at e
    rw [e]; exact Ro.2 i hi
  · rw [h4] at hi
    rw [h8.2 i 4 (by omega) (by decide)]; exact Ro.2 i hi

theorem qo_crime {f g : zM} {v a1 a2 a3 a4 a5 a6 : Int32} (hI : zInv f) (Ro : zRo f) (hP : (¬ ((0 ≤ a1.toInt ∧ a1.toInt ≤ 5) ∧ (1 ≤ a2.toInt ∧ a2.toInt ≤ 63) ∧ (0 ≤ a3.toInt ∧ a3.toInt ≤ 63) ∧ a2 &&& a3 = 0 ∧ (1 ≤ a5.toInt ∧ a5.toInt ≤ 40) ∧ (0 ≤ a4.toInt ∧ a4.toInt ≤ a5.toInt)) ∧ v = -1 ∧ g = f) ∨ (((0 ≤ a1.toInt ∧ a1.toInt ≤ 5) ∧ (1 ≤ a2.toInt ∧ a2.toInt ≤ 63) ∧ (0 ≤ a3.toInt ∧ a3.toInt ≤ 63) ∧ a2 &&& a3 = 0 ∧ (1 ≤ a5.toInt ∧ a5.toInt ≤ 40) ∧ (0 ≤ a4.toInt ∧ a4.toInt ≤ a5.toInt)) ∧ 24 ≤ (f 1 0 5).toInt ∧ v = -3 ∧ g = f) ∨ (((0 ≤ a1.toInt ∧ a1.toInt ≤ 5) ∧ (1 ≤ a2.toInt ∧ a2.toInt ≤ 63) ∧ (0 ≤ a3.toInt ∧ a3.toInt ≤ 63) ∧ a2 &&& a3 = 0 ∧ (1 ≤ a5.toInt ∧ a5.toInt ≤ 40) ∧ (0 ≤ a4.toInt ∧ a4.toInt ≤ a5.toInt)) ∧ (f 1 0 5).toInt < 24 ∧ v = f 1 0 5 ∧ g 1 0 5 = f 1 0 5 + 1 ∧ (∀ j, j < 6 → g 7 (f 1 0 5).toInt.toNat j = zc6 a1 a2 a3 a4 a5 a6 j) ∧ (∀ i j, i ≠ (f 1 0 5).toInt.toNat → j < 6 → g 7 i j = f 7 i j) ∧ g 1 1 5 = f 1 1 5)) : zRo g := by
  have n0 : 0 ≤ (f 1 0 5).toInt := (hI 1 0 5).1
  rcases hP with ⟨p1, p2, rfl⟩ | ⟨p1, p2, p3, rfl⟩ | ⟨p1, p2, p3, p4, p5, p6, p7⟩
  · exact Ro
  · exact Ro
  · have es : (f 1 0 5 + 1 : Int32).toInt = (f 1 0 5).toInt + 1 := zadd_eb (x := f 1 0 5) (hI 1 0 5) (zB.of (x := 1) 1 (by decide)) (by decide) (by decide)
    refine ⟨fun i hi => ?_, fun i hi => ?_⟩
    · rw [p4, es] at hi
      by_cases q : i = (f 1 0 5).toInt.toNat
      · rw [q, p5 4 (by decide)]; exact p1.2.2.2.2.1.1
      · rw [p6 i 4 q (by decide)]; exact Ro.1 i (by omega)
    · rw [p7] at hi
      rw [p6 (24 + i) 4 (by omega) (by decide)]; exact Ro.2 i hi
theorem zbf_bit {P : Nat → Prop} {i : Nat} (hi : i < 32) : ∀ n : Nat, n ≤ 32 → (bt (zbf P n) i = true ↔ i < n ∧ P i)
  | 0, _ => by rw [zbf, b_0]; constructor
               · intro h; cases h
               · intro h; exact absurd h.1 (Nat.not_lt_zero i)
  | n + 1, hn => by
    rw [zbf, b_or, Bool.or_eq_true, zbf_bit hi n (by omega)]
    by_cases h : P n
    · rw [if_pos h, b_one n (by omega) i hi, decide_eq_true_iff]
      constructor
      · rintro (q | q)
        · exact ⟨by omega, q.2⟩
        · subst q; exact ⟨by omega, h⟩
      · intro q
        by_cases e : i = n
        · exact Or.inr e
        · exact Or.inl ⟨by omega, q.2⟩
    · rw [if_neg h, b_0]
      constructor
      · rintro (q | q)
        · exact ⟨by omega, q.2⟩
        · cases q
      · intro q
        refine Or.inl ⟨?_, q.2⟩
        by_cases e : i = n
        · subst e; exact absurd q.2 h
        · omega
theorem zbf_ext {P : Nat → Prop} {n : Nat} {x : Int32} (hn : n ≤ 32) (h : ∀ i, i < 32 → (bt x i = true ↔ i < n ∧ P i)) : x = zbf P n := by
  apply b_ext
  intro i hi
  have h1 := h i hi
  have h2 := zbf_bit (P := P) hi n hn
  cases a : bt x i <;> cases b : bt (zbf P n) i
  · rfl
  · rw [h1.mpr (h2.mp b)] at a; cases a
  · rw [h2.mpr (h1.mp a)] at b; cases b
  · rfl
theorem zbf_and {P : Nat → Prop} {n : Nat} {m : Int32} (hn : n ≤ 32) : zbf P n &&& m = zbf (fun i => P i ∧ bt m i = true) n :=
  zbf_ext hn (fun i hi => by
    rw [b_and, Bool.and_eq_true, zbf_bit hi n hn]
    exact and_assoc)
/-- there are YEARS just where it is a CRIME -/
theorem zly_pos {C : Nat → Nat → Int32} {m : Int32} {l : Nat} : ∀ n : Nat, (∀ k, k < n → 1 ≤ (C k 4).toInt) → (0 < (zly C m l n).toInt ↔ ∃ k, k < n ∧ C k 0 = nI l ∧ zmt (C k) m)
  | 0, _ => by
    constructor
    · intro h; exact absurd h (by rw [zly]; decide)
    · rintro ⟨k, h, _⟩; exact absurd h (Nat.not_lt_zero k)
  | n + 1, hC => by
    have ih := zly_pos (m := m) (l := l) n (fun k hk => hC k (by omega))
    rw [zly]
    by_cases h : zmt (C n) m ∧ C n 0 = nI l
    · rw [if_pos h, imax_e]
      constructor
      · intro _; exact ⟨n, by omega, h.2, h.1⟩
      · intro _; have := hC n (by omega); omega
    · rw [if_neg h, ih]
      constructor
      · rintro ⟨k, h1, h2⟩; exact ⟨k, by omega, h2⟩
      · rintro ⟨k, h1, h2, h3⟩
        by_cases e : k = n
        · subst e; exact absurd ⟨h3, h2⟩ h
        · exact ⟨k, by omega, h2, h3⟩

set_option maxRecDepth 100000 in
set_option maxHeartbeats 4000000 in
theorem x_X1_isCrime (d : Nat) (f : zM) (m0 : Nat) (h0 : m0 < zcnt 8) (a1 : Int32) (b1 : zB a1 0 5) (hI : zInv f) : ZM d yX1_isCrime cX1_isCrime 2 (some .boolean) [zr 8 m0, zi a1] f (fun r g => (∃ v, r = some (zi v) ∧ zB v 0 1) ∧ zInv g ∧ zFr [] f g ∧ (∀ v : Int32, r = some (zi v) → zbo v (0 < (f 9 m0 a1.toInt.toNat).toInt))) := by
  refine ZM.intro (by decide +kernel) (Nat.le_of_ble_eq_true rfl) ?_
  intro X C hr hn
  have hF : zFr [] f f := zFr.rf _ _
  show Z X 0 [some (zr 8 m0), some (zi a1)] [] f
  refine z_aload_n (pc := 0) C dX1_isCrime_0 rfl ?_
  refine z_getR (pc := 1) C zf_X1_9 rfl rfl h0 dX1_isCrime_1 ?_
  refine z_iload_n (pc := 4) C dX1_isCrime_4 rfl ?_
  refine z_iald (pc := 5) C rfl h0 (zIx b1 (by decide) (by decide)) dX1_isCrime_5 ?_
  have kq5_0 : a1.toNatClampNeg = a1.toInt.toNat := rfl
  refine w_gp (fun v => v = f 9 m0 a1.toNatClampNeg) rfl (fun v1 q1 => ?_)
  have b1x : zB v1 0 40 := by rw [q1]; exact (hI 9 m0 a1.toNatClampNeg)
  refine z_if_le (pc := 6) 13 C dX1_isCrime_6 (by decide) (fun h6_1 => ?_) (fun h6_1 => ?_)
  · skip
    have b3x : zB v1 0 0 := by have q1 := b1x; have q2 := (zB.of (x := 0) 0 (by decide)); simp only [z32lt, z32le, z32eq, Int32.reduceToInt, Int32.toInt_zero] at h6_1; constructor <;> omega
    refine z_iconst (pc := 13) (v := 0) C dX1_isCrime_13 (by decide) ?_
    exact z_zret (pc := 14) C hr (z01 (zB.wk (a' := 0) (b' := 1) (zB.of (x := 0) 0 (by decide)) (by decide) (by decide))) dX1_isCrime_14 ⟨⟨_, rfl, (zB.wk (a' := 0) (b' := 1) (zB.of (x := 0) 0 (by decide)) (by decide) (by decide))⟩, hI, hF, (by
                                                                                          intro v hv; cases hv
                                                                                          have e5 : v1 = f 9 m0 a1.toInt.toNat := by rw [q1]; rfl
                                                                                          first
                                                                                            | exact Or.inl ⟨rfl, by rw [← e5]; omega⟩
                                                                                            | exact Or.inr ⟨rfl, by rw [← e5]; omega⟩)⟩
  · skip
    have b4x : zB v1 1 40 := by have q1 := b1x; have q2 := (zB.of (x := 0) 0 (by decide)); simp only [z32lt, z32le, z32eq, Int32.reduceToInt, Int32.toInt_zero] at h6_1; constructor <;> omega
    refine z_iconst (pc := 9) (v := 1) C dX1_isCrime_9 (by decide) ?_
    refine z_goto (pc := 10) 14 C dX1_isCrime_10 (by decide) ?_
    exact z_zret (pc := 14) C hr (z01 (zB.wk (a' := 0) (b' := 1) (zB.of (x := 1) 1 (by decide)) (by decide) (by decide))) dX1_isCrime_14 ⟨⟨_, rfl, (zB.wk (a' := 0) (b' := 1) (zB.of (x := 1) 1 (by decide)) (by decide) (by decide))⟩, hI, hF, (by
                                                                                          intro v hv; cases hv
                                                                                          have e5 : v1 = f 9 m0 a1.toInt.toNat := by rw [q1]; rfl
                                                                                          first
                                                                                            | exact Or.inl ⟨rfl, by rw [← e5]; omega⟩
                                                                                            | exact Or.inr ⟨rfl, by rw [← e5]; omega⟩)⟩

set_option maxRecDepth 100000 in
set_option maxHeartbeats 4000000 in
theorem x_X8_triedBy (d : Nat) (f : zM) (m1 : Nat) (h1 : m1 < zcnt 6) (hI : zInv f) : ZM (d + 1) yX8_triedBy cX8_triedBy 4 (some .int) [zr 1 0, zr 6 m1] f (fun r g => (∃ v, r = some (zi v) ∧ zB v 0 255) ∧ zInv g ∧ zFr [] f g ∧ (∀ v : Int32, r = some (zi v) → v = zbf (fun i => 0 < (f 9 i (f 6 m1 1).toInt.toNat).toInt ∧ f 8 i 4 = 0) (f 1 0 6).toInt.toNat &&& f 6 m1 6)) := by
  refine ZM.intro (by decide +kernel) (Nat.le_of_ble_eq_true rfl) ?_
  intro X C hr hn
  have hF : zFr [] f f := zFr.rf _ _
  have ct1_0_6 : zB (f 1 0 6) 0 8 := hI 1 0 6
  have J : ∀ t : Nat, (∀ a4_2 : Int32, zB a4_2 0 255 → ∀ a4_3 : Int32, zB a4_3 0 8 → ∀ g : zM, zInv g → zFr [] f g → zB (g 1 0 6) 0 8 → (g = f) → (a4_2 = zbf (fun i => 0 < (f 9 i (f 6 m1 1).toInt.toNat).toInt ∧ f 8 i 4 = 0) (a4_3.toInt.toNat)) → (a4_3.toInt ≤ (f 1 0 6).toInt) → ((g 1 0 6).toInt = (f 1 0 6).toInt) → (0 + 3 * (8 - a4_3.toInt) : Int) < t → Z X 4 [some (zr 1 0), some (zr 6 m1), some (zi a4_2), some (zi a4_3)] [] g) := by
    intro t
    induction t with
    | zero =>
      intros; exfalso; omega
    | succ t ih =>
      have ih0 := ih
      intro a4_2 b4_2 a4_3 b4_3 g4_ hI4_ hF4_ f4_1_0_6 hR4_0 hR4_1 hR4_2 hR4_3 hM4_
      refine z_iload_n (pc := 4) C dX8_triedBy_4 rfl ?_
      refine z_aload_n (pc := 5) C dX8_triedBy_5 rfl ?_
      refine z_getI (pc := 6) C zf_X8_54 rfl rfl (by decide) dX8_triedBy_6 ?_
      refine w_gp (fun v => v = g4_ 1 0 6) rfl (fun v1 q1 => ?_)
      have e1 : v1.toInt = (g4_ 1 0 6).toInt := by rw [q1]
      have b1x : zB v1 0 8 := by first | exact zB.eqv e1 f4_1_0_6 | (have q9 := f4_1_0_6; constructor <;> omega)
      refine z_icmp_ge (pc := 9) 56 C dX8_triedBy_9 (by decide) (fun h9_1 => ?_) (fun h9_1 => ?_)
      · skip
        have rr3 : a4_3.toInt ≥ v1.toInt := by simp only [z32lt, z32le, z32eq] at h9_1; omega
        refine z_iload_n (pc := 56) C dX8_triedBy_56 rfl ?_
        refine z_aload_n (pc := 57) C dX8_triedBy_57 rfl ?_
        refine z_getI (pc := 58) C zf_X8_156 rfl rfl h1 dX8_triedBy_58 ?_
        refine w_gp (fun v => v = g4_ 6 m1 6) rfl (fun v5 q5 => ?_)
        have b5x : zB v5 0 255 := by rw [q5]; exact (hI4_ 6 m1 6)
        refine z_iand (pc := 61) C dX8_triedBy_61 ?_
        refine w_gp (fun v => v = a4_2 &&& v5) rfl (fun v6 q6 => ?_)
        have b6x : zB v6 0 255 := by rw [q6]; exact (zand_b b4_2 b5x (by decide))
        exact z_iret (pc := 62) C hr dX8_triedBy_62 ⟨⟨_, rfl, b6x⟩, hI4_, hF4_, (by
                                                                                          intro v hv; cases hv
                                                                                          have hn : (f 1 0 6).toInt.toNat = a4_3.toInt.toNat := by omega
                                                                                          have r58 := q5
                                                                                          rw [hR4_0] at r58
                                                                                          rw [hn, q6, hR4_1, r58])⟩
      · skip
        have rr7 : a4_3.toInt < v1.toInt := by simp only [z32lt, z32le, z32eq] at h9_1; omega
        have b8x : zB a4_3 0 7 := by have q1 := b4_3; have q2 := b1x; simp only [z32lt, z32le, z32eq, Int32.reduceToInt, Int32.toInt_zero] at h9_1; constructor <;> omega
        have b9x : zB v1 1 8 := by have q1 := b4_3; have q2 := b1x; simp only [z32lt, z32le, z32eq, Int32.reduceToInt, Int32.toInt_zero] at h9_1; constructor <;> omega
        have c10x : zB (g4_ 1 0 6) 1 8 := by first | assumption | (constructor <;> omega)
        refine z_iload_n (pc := 12) C dX8_triedBy_12 rfl ?_
        refine z_aload_n (pc := 13) C dX8_triedBy_13 rfl ?_
        refine z_getR (pc := 14) C zf_X8_19 rfl rfl (by decide) dX8_triedBy_14 ?_
        refine z_iload_n (pc := 17) C dX8_triedBy_17 rfl ?_
        refine z_aald (pc := 18) C rfl ⟨rfl, by decide⟩ (by decide) (zIx b8x (by decide) (by decide)) dX8_triedBy_18 ?_
        refine w_grx (by have hq := zN b8x (by decide); show 8 * 0 + a4_3.toNatClampNeg < 16; omega) (fun m11 q11r h11x => ?_)
        have q11r : m11 = 8 * 0 + a4_3.toNatClampNeg := q11r
        have k11r : a4_3.toNatClampNeg = a4_3.toInt.toNat := rfl
        refine z_aload_n (pc := 19) C dX8_triedBy_19 rfl ?_
        refine z_getI (pc := 20) C zf_X8_150 rfl rfl h1 dX8_triedBy_20 ?_
        refine w_gp (fun v => v = g4_ 6 m1 1) rfl (fun v13 q13 => ?_)
        have b13x : zB v13 0 5 := by rw [q13]; exact (hI4_ 6 m1 1)
        refine z_callV (pc := 23) C zk_X8_153 (x_X1_isCrime _ _ m11 h11x v13 b13x hI4_) rfl rfl h11x rfl rfl (Nat.le_of_ble_eq_true rfl) dX8_triedBy_23 (fun r14 g14 q14 => ?_)
        obtain ⟨⟨v14, rfl, b14x⟩, hI14, hF14q, hp14_0⟩ := q14
        have hp14_0 := hp14_0 _ rfl
        obtain rfl := zFr_nil hF14q
        simp only [Option.toList, List.cons_append, List.nil_append]
        refine z_if_eq (pc := 26) 47 C dX8_triedBy_26 (by decide) (fun h26_14 => ?_) (fun h26_14 => ?_)
        · skip
          have b16x : zB v14 0 0 := by have q1 := b14x; have q2 := (zB.of (x := 0) 0 (by decide)); simp only [z32lt, z32le, z32eq, Int32.reduceToInt, Int32.toInt_zero] at h26_14; constructor <;> omega
          refine z_iconst (pc := 47) (v := 0) C dX8_triedBy_47 (by decide) ?_
          refine z_ior (pc := 48) C dX8_triedBy_48 ?_
          refine w_gp (fun v => v = a4_2 ||| (0 : Int32)) rfl (fun v17 q17 => ?_)
          have b17x : zB v17 0 255 := by rw [q17]; exact (zor_b 8 b4_2 (zB.of (x := 0) 0 (by decide)) (by decide) (by decide) (by decide) (by decide) (by decide))
          refine z_istore_n (pc := 49) C dX8_triedBy_49 (by rw [hn]; decide) rfl ?_
          refine z_iinc (pc := 50) (v := 1) C dX8_triedBy_50 rfl (by decide) (by rw [hn]; decide) rfl ?_
          obtain ⟨v18, hv18, e18⟩ : ∃ v : Int32, v = a4_3 + 1 ∧ v.toInt = a4_3.toInt + 1 := ⟨_, rfl, zadd_eb b8x (zB.of (x := 1) 1 (by decide)) (by decide) (by decide)⟩
          rw [← hv18]
          have b18x : zB v18 1 8 := by have q9 := b8x; constructor <;> omega
          refine z_goto (pc := 53) 4 C dX8_triedBy_53 (by decide) ?_
          exact ih0 v17 b17x v18 (zB.wk (a' := 0) (b' := 8) b18x (by decide) (by decide)) g4_ hI4_ hF4_ (zB.wk c10x (by decide) (by decide)) (by exact hR4_0) (by
                                                                                          have hn : (v18).toInt.toNat = a4_3.toInt.toNat + 1 := by omega
                                                                                          have hi : a4_3 = nI a4_3.toInt.toNat := (nI_ofI (by omega)).1
                                                                                          have hx : m11 = a4_3.toInt.toNat := by omega
                                                                                          have r20 := q13
                                                                                          rw [hR4_0] at r20
                                                                                          have ha := hp14_0
                                                                                          rw [hx, hR4_0, r20] at ha
                                                                                          have ho := q17
                                                                                          rw [hn, zbf, ← hR4_1, ho]
                                                                                          congr 1
                                                                                          rw [if_neg (fun h => zbo_n ha (by omega) h.1)]) (by omega) (by omega) (by omega)
        · skip
          have b19x : zB v14 1 1 := by have q1 := b14x; have q2 := (zB.of (x := 0) 0 (by decide)); simp only [z32lt, z32le, z32eq, Int32.reduceToInt, Int32.toInt_zero] at h26_14; constructor <;> omega
          refine z_aload_n (pc := 29) C dX8_triedBy_29 rfl ?_
          refine z_getR (pc := 30) C zf_X8_19 rfl rfl (by decide) dX8_triedBy_30 ?_
          refine z_iload_n (pc := 33) C dX8_triedBy_33 rfl ?_
          refine z_aald (pc := 34) C rfl ⟨rfl, by decide⟩ (by decide) (zIx b8x (by decide) (by decide)) dX8_triedBy_34 ?_
          refine w_grx (by have hq := zN b8x (by decide); show 8 * 0 + a4_3.toNatClampNeg < 16; omega) (fun m20 q20r h20x => ?_)
          have q20r : m20 = 8 * 0 + a4_3.toNatClampNeg := q20r
          have k20r : a4_3.toNatClampNeg = a4_3.toInt.toNat := rfl
          refine z_getI (pc := 35) C zf_X8_110 rfl rfl h20x dX8_triedBy_35 ?_
          refine w_gp (fun v => v = g4_ 8 m20 4) rfl (fun v22 q22 => ?_)
          have b22x : zB v22 0 1 := by rw [q22]; exact (hI4_ 8 m20 4)
          refine z_if_ne (pc := 38) 47 C dX8_triedBy_38 (by decide) (fun h38_22 => ?_) (fun h38_22 => ?_)
          · skip
            have b24x : zB v22 1 1 := by have q1 := b22x; have q2 := (zB.of (x := 0) 0 (by decide)); simp only [z32lt, z32le, z32eq, Int32.reduceToInt, Int32.toInt_zero] at h38_22; constructor <;> omega
            refine z_iconst (pc := 47) (v := 0) C dX8_triedBy_47 (by decide) ?_
            refine z_ior (pc := 48) C dX8_triedBy_48 ?_
            refine w_gp (fun v => v = a4_2 ||| (0 : Int32)) rfl (fun v25 q25 => ?_)
            have b25x : zB v25 0 255 := by rw [q25]; exact (zor_b 8 b4_2 (zB.of (x := 0) 0 (by decide)) (by decide) (by decide) (by decide) (by decide) (by decide))
            refine z_istore_n (pc := 49) C dX8_triedBy_49 (by rw [hn]; decide) rfl ?_
            refine z_iinc (pc := 50) (v := 1) C dX8_triedBy_50 rfl (by decide) (by rw [hn]; decide) rfl ?_
            obtain ⟨v26, hv26, e26⟩ : ∃ v : Int32, v = a4_3 + 1 ∧ v.toInt = a4_3.toInt + 1 := ⟨_, rfl, zadd_eb b8x (zB.of (x := 1) 1 (by decide)) (by decide) (by decide)⟩
            rw [← hv26]
            have b26x : zB v26 1 8 := by have q9 := b8x; constructor <;> omega
            refine z_goto (pc := 53) 4 C dX8_triedBy_53 (by decide) ?_
            exact ih0 v25 b25x v26 (zB.wk (a' := 0) (b' := 8) b26x (by decide) (by decide)) g4_ hI4_ hF4_ (zB.wk c10x (by decide) (by decide)) (by exact hR4_0) (by
                                                                                          have hn : (v26).toInt.toNat = a4_3.toInt.toNat + 1 := by omega
                                                                                          have hi : a4_3 = nI a4_3.toInt.toNat := (nI_ofI (by omega)).1
                                                                                          have hx : m11 = a4_3.toInt.toNat := by omega
                                                                                          have r20 := q13
                                                                                          rw [hR4_0] at r20
                                                                                          have ha := hp14_0
                                                                                          rw [hx, hR4_0, r20] at ha
                                                                                          have ho := q25
                                                                                          rw [hn, zbf, ← hR4_1, ho]
                                                                                          congr 1
                                                                                          have hx2 : m20 = a4_3.toInt.toNat := by omega
                                                                                          have r35 := q22
                                                                                          rw [hx2, hR4_0] at r35
                                                                                          rw [if_neg (fun h => absurd (show v22 = 0 by rw [r35]; exact h.2) (by assumption))]) (by omega) (by omega) (by omega)
          · skip
            have b27x : zB v22 0 0 := by have q1 := b22x; have q2 := (zB.of (x := 0) 0 (by decide)); simp only [z32lt, z32le, z32eq, Int32.reduceToInt, Int32.toInt_zero] at h38_22; constructor <;> omega
            refine z_iconst (pc := 41) (v := 1) C dX8_triedBy_41 (by decide) ?_
            refine z_iload_n (pc := 42) C dX8_triedBy_42 rfl ?_
            refine z_ishl (pc := 43) C dX8_triedBy_43 ?_
            refine w_gp (fun v => v = (1 : Int32) <<< (a4_3 &&& 31)) rfl (fun v28 q28 => ?_)
            have b28x : zB v28 0 128 := by rw [q28]; exact (zshl_b b8x 7 (by decide) (by decide))
            refine z_goto (pc := 44) 48 C dX8_triedBy_44 (by decide) ?_
            refine z_ior (pc := 48) C dX8_triedBy_48 ?_
            refine w_gp (fun v => v = a4_2 ||| v28) rfl (fun v29 q29 => ?_)
            have b29x : zB v29 0 255 := by rw [q29]; exact (zor_b 8 b4_2 b28x (by decide) (by decide) (by decide) (by decide) (by decide))
            refine z_istore_n (pc := 49) C dX8_triedBy_49 (by rw [hn]; decide) rfl ?_
            refine z_iinc (pc := 50) (v := 1) C dX8_triedBy_50 rfl (by decide) (by rw [hn]; decide) rfl ?_
            obtain ⟨v30, hv30, e30⟩ : ∃ v : Int32, v = a4_3 + 1 ∧ v.toInt = a4_3.toInt + 1 := ⟨_, rfl, zadd_eb b8x (zB.of (x := 1) 1 (by decide)) (by decide) (by decide)⟩
            rw [← hv30]
            have b30x : zB v30 1 8 := by have q9 := b8x; constructor <;> omega
            refine z_goto (pc := 53) 4 C dX8_triedBy_53 (by decide) ?_
            exact ih0 v29 b29x v30 (zB.wk (a' := 0) (b' := 8) b30x (by decide) (by decide)) g4_ hI4_ hF4_ (zB.wk c10x (by decide) (by decide)) (by exact hR4_0) (by
                                                                                          have hn : (v30).toInt.toNat = a4_3.toInt.toNat + 1 := by omega
                                                                                          have hi : a4_3 = nI a4_3.toInt.toNat := (nI_ofI (by omega)).1
                                                                                          have hx : m11 = a4_3.toInt.toNat := by omega
                                                                                          have r20 := q13
                                                                                          rw [hR4_0] at r20
                                                                                          have ha := hp14_0
                                                                                          rw [hx, hR4_0, r20] at ha
                                                                                          have ho := q29
                                                                                          rw [hn, zbf, ← hR4_1, ho]
                                                                                          congr 1
                                                                                          have hx2 : m20 = a4_3.toInt.toNat := by omega
                                                                                          have r35 := q22
                                                                                          rw [hx2, hR4_0] at r35
                                                                                          rw [if_pos ⟨zbo_y ha (by omega), by rw [← r35]; assumption⟩, ← hi]
                                                                                          first | exact q28 | rfl) (by omega) (by omega) (by omega)
  have J0 := J 39
  show Z X 0 [some (zr 1 0), some (zr 6 m1), none, none] [] f
  refine z_iconst (pc := 0) (v := 0) C dX8_triedBy_0 (by decide) ?_
  refine z_istore_n (pc := 1) C dX8_triedBy_1 (by rw [hn]; decide) rfl ?_
  refine z_iconst (pc := 2) (v := 0) C dX8_triedBy_2 (by decide) ?_
  refine z_istore_n (pc := 3) C dX8_triedBy_3 (by rw [hn]; decide) rfl ?_
  exact J0 0 (zB.wk (a' := 0) (b' := 255) (zB.of (x := 0) 0 (by decide)) (by decide) (by decide)) 0 (zB.wk (a' := 0) (b' := 8) (zB.of (x := 0) 0 (by decide)) (by decide) (by decide)) f hI hF ct1_0_6 (by rfl) (by rfl) (by have qc0 : (0 : Int32).toInt = 0 := (by decide); omega) (by have qc0 : (0 : Int32).toInt = 0 := (by decide); omega) (by have qc0 : (0 : Int32).toInt = 0 := (by decide); omega)

set_option maxRecDepth 100000 in
set_option maxHeartbeats 4000000 in
theorem x_X9_tried (d : Nat) (f : zM)  (hI : zInv f) : ZM (d + 2) yX9_tried cX9_tried 1 (some .int) [zr 0 0] f (fun r g => (∃ v, r = some (zi v) ∧ zB v 0 255) ∧ zInv g ∧ zFr [] f g ∧ (∀ v : Int32, r = some (zi v) → v = zbf (fun i => 0 < (f 9 i (f 6 0 1).toInt.toNat).toInt ∧ f 8 i 4 = 0) (f 1 0 6).toInt.toNat &&& f 6 0 6)) := by
  refine ZM.intro (by decide +kernel) (Nat.le_of_ble_eq_true rfl) ?_
  intro X C hr hn
  have hF : zFr [] f f := zFr.rf _ _
  show Z X 0 [some (zr 0 0)] [] f
  refine z_aload_n (pc := 0) C dX9_tried_0 rfl ?_
  refine z_getR (pc := 1) C zf_X9_10 rfl rfl (by decide) dX9_tried_1 ?_
  refine z_aload_n (pc := 4) C dX9_tried_4 rfl ?_
  refine z_getR (pc := 5) C zf_X9_10 rfl rfl (by decide) dX9_tried_5 ?_
  refine z_getR (pc := 8) C zf_X9_220 rfl rfl (by decide) dX9_tried_8 ?_
  refine z_callV (pc := 11) C zk_X9_276 (x_X8_triedBy _ _ 0 (by decide) hI) rfl rfl (by decide) rfl rfl (Nat.le_of_ble_eq_true rfl) dX9_tried_11 (fun r1 g1 q1 => ?_)
  obtain ⟨⟨v1, rfl, b1x⟩, hI1, hF1q, hp1_0⟩ := q1
  have hp1_0 := hp1_0 _ rfl
  obtain rfl := zFr_nil hF1q
  simp only [Option.toList, List.cons_append, List.nil_append]
  exact z_iret (pc := 14) C hr dX9_tried_14 ⟨⟨_, rfl, b1x⟩, hI, hF, (by intro v hv; cases hv; exact hp1_0)⟩

set_option maxRecDepth 100000 in
set_option maxHeartbeats 4000000 in
theorem x_X10_isTried (d : Nat) (f : zM) (a1 : Int32) (b1 : zB a1 0 7) (a2 : Int32) (b2 : zB a2 0 5) (a3 : Int32) (b3 : zB a3 0 255) (hI : zInv f) : ZM (d + 2) yX10_isTried cX10_isTried 4 (some .boolean) [zr 25 0, zi a1, zi a2, zi a3] f (fun r g => (∃ v, r = some (zi v) ∧ zB v 0 1) ∧ zInv g ∧ zFr [] f g ∧ (∀ v : Int32, r = some (zi v) → zbo v (¬ zcw (fun k j => f 26 0 (6 * k + j)) (f 27 0 (5 * a1.toInt.toNat + 0)) (a2) (f 25 0 0).toInt.toNat = 0 ∧ f 27 0 (5 * a1.toInt.toNat + 4) = 0 ∧ bt (a3) a1.toInt.toNat = true))) := by
  refine ZM.intro (by decide +kernel) (Nat.le_of_ble_eq_true rfl) ?_
  intro X C hr hn
  have hF : zFr [] f f := zFr.rf _ _
  show Z X 0 [some (zr 25 0), some (zi a1), some (zi a2), some (zi a3)] [] f
  refine z_aload_n (pc := 0) C dX10_isTried_0 rfl ?_
  refine z_aload_n (pc := 1) C dX10_isTried_1 rfl ?_
  refine z_getR (pc := 2) C zf_X10_13 rfl rfl (by decide) dX10_isTried_2 ?_
  refine z_iconst (pc := 5) (v := 5) C dX10_isTried_5 (by decide) ?_
  refine z_iload_n (pc := 6) C dX10_isTried_6 rfl ?_
  refine z_imul (pc := 7) C dX10_isTried_7 ?_
  refine w_gp (fun v => v = (5 : Int32) * a1) rfl (fun v1 q1 => ?_)
  have e1 : v1.toInt = 5 * a1.toInt := by rw [q1]; exact (zmul_kb 5 (by decide) (by decide) b1 (by decide) (by decide))
  have b1x : zB v1 0 35 := zmul_bb e1 (by decide) b1
  refine z_iald (pc := 8) C rfl (by decide) (zIx b1x (by decide) (by decide)) dX10_isTried_8 ?_
  have kq8_1 : v1.toNatClampNeg = v1.toInt.toNat := rfl
  refine w_gp (fun v => v = f 27 0 v1.toNatClampNeg) rfl (fun v2 q2 => ?_)
  have b2x : zB v2 0 63 := by rw [q2]; exact (by have hq9 := hI 27 0 v1.toNatClampNeg; rw [zrg27 (r := 0) (by have hq : v1.toNatClampNeg = v1.toInt.toNat := rfl; have hq2 := b1x; omega)] at hq9; exact hq9)
  refine z_iload_n (pc := 9) C dX10_isTried_9 rfl ?_
  refine z_callV (pc := 10) C zk_X10_116 (x_X10_crimesOf _ _ v2 b2x a2 b2 hI) rfl rfl (by decide) rfl rfl (Nat.le_of_ble_eq_true rfl) dX10_isTried_10 (fun r3 g3 q3 => ?_)
  obtain ⟨⟨v3, rfl, b3x⟩, hI3, hF3q, hp3_0⟩ := q3
  have hp3_0 := hp3_0 _ rfl
  obtain rfl := zFr_nil hF3q
  simp only [Option.toList, List.cons_append, List.nil_append]
  refine z_if_eq (pc := 13) 42 C dX10_isTried_13 (by decide) (fun h13_3 => ?_) (fun h13_3 => ?_)
  · skip
    have b5x : zB v3 0 0 := by have q1 := b3x; have q2 := (zB.of (x := 0) 0 (by decide)); simp only [z32lt, z32le, z32eq, Int32.reduceToInt, Int32.toInt_zero] at h13_3; constructor <;> omega
    refine z_iconst (pc := 42) (v := 0) C dX10_isTried_42 (by decide) ?_
    exact z_zret (pc := 43) C hr (z01 (zB.wk (a' := 0) (b' := 1) (zB.of (x := 0) 0 (by decide)) (by decide) (by decide))) dX10_isTried_43 ⟨⟨_, rfl, (zB.wk (a' := 0) (b' := 1) (zB.of (x := 0) 0 (by decide)) (by decide) (by decide))⟩, hI, hF, (by
                                                                                          intro v hv; cases hv
                                                                                          have x8 : (v1).toNatClampNeg = 5 * a1.toInt.toNat + 0 := by omega
                                                                                          have r8 := q2
                                                                                          rw [x8] at r8
                                                                                          have h := hp3_0
                                                                                          rw [r8] at h
                                                                                          exact Or.inr ⟨rfl, fun q => q.1 (by rw [← h]; assumption)⟩)⟩
  · skip
    have b6x : zB v3 1 16777215 := by have q1 := b3x; have q2 := (zB.of (x := 0) 0 (by decide)); simp only [z32lt, z32le, z32eq, Int32.reduceToInt, Int32.toInt_zero] at h13_3; constructor <;> omega
    refine z_aload_n (pc := 16) C dX10_isTried_16 rfl ?_
    refine z_getR (pc := 17) C zf_X10_13 rfl rfl (by decide) dX10_isTried_17 ?_
    refine z_iconst (pc := 20) (v := 5) C dX10_isTried_20 (by decide) ?_
    refine z_iload_n (pc := 21) C dX10_isTried_21 rfl ?_
    refine z_imul (pc := 22) C dX10_isTried_22 ?_
    refine w_gp (fun v => v = (5 : Int32) * a1) rfl (fun v7 q7 => ?_)
    have e7 : v7.toInt = 5 * a1.toInt := by rw [q7]; exact (zmul_kb 5 (by decide) (by decide) b1 (by decide) (by decide))
    have b7x : zB v7 0 35 := zmul_bb e7 (by decide) b1
    refine z_iconst (pc := 23) (v := 4) C dX10_isTried_23 (by decide) ?_
    refine z_iadd (pc := 24) C dX10_isTried_24 ?_
    refine w_gp (fun v => v = v7 + (4 : Int32)) rfl (fun v8 q8 => ?_)
    have e8 : v8.toInt = v7.toInt + 4 := by rw [q8]; exact (zadd_eb b7x (zB.of (x := 4) 4 (by decide)) (by decide) (by decide))
    have b8x : zB v8 4 39 := by have q1 := b7x; have q2 := (zB.of (x := 4) 4 (by decide)); constructor <;> omega
    refine z_iald (pc := 25) C rfl (by decide) (zIx b8x (by decide) (by decide)) dX10_isTried_25 ?_
    have kq25_8 : v8.toNatClampNeg = v8.toInt.toNat := rfl
    refine w_gp (fun v => v = f 27 0 v8.toNatClampNeg) rfl (fun v9 q9 => ?_)
    have b9x : zB v9 0 1 := by rw [q9]; exact (by have hq9 := hI 27 0 v8.toNatClampNeg; rw [zrg27 (r := 4) (by have hq : v8.toNatClampNeg = v8.toInt.toNat := rfl; have hq2 := b8x; omega)] at hq9; exact hq9)
    refine z_if_ne (pc := 26) 42 C dX10_isTried_26 (by decide) (fun h26_9 => ?_) (fun h26_9 => ?_)
    · skip
      have b11x : zB v9 1 1 := by have q1 := b9x; have q2 := (zB.of (x := 0) 0 (by decide)); simp only [z32lt, z32le, z32eq, Int32.reduceToInt, Int32.toInt_zero] at h26_9; constructor <;> omega
      refine z_iconst (pc := 42) (v := 0) C dX10_isTried_42 (by decide) ?_
      exact z_zret (pc := 43) C hr (z01 (zB.wk (a' := 0) (b' := 1) (zB.of (x := 0) 0 (by decide)) (by decide) (by decide))) dX10_isTried_43 ⟨⟨_, rfl, (zB.wk (a' := 0) (b' := 1) (zB.of (x := 0) 0 (by decide)) (by decide) (by decide))⟩, hI, hF, (by
                                                                                          intro v hv; cases hv
                                                                                          have x8 : (v1).toNatClampNeg = 5 * a1.toInt.toNat + 0 := by omega
                                                                                          have r8 := q2
                                                                                          rw [x8] at r8
                                                                                          have h := hp3_0
                                                                                          rw [r8] at h
                                                                                          have x25 : (v8).toNatClampNeg = 5 * a1.toInt.toNat + 4 := by omega
                                                                                          have r25 := q9
                                                                                          rw [x25] at r25
                                                                                          exact Or.inr ⟨rfl, fun q => absurd (show v9 = 0 by rw [r25]; exact q.2.1) (by assumption)⟩)⟩
    · skip
      have b12x : zB v9 0 0 := by have q1 := b9x; have q2 := (zB.of (x := 0) 0 (by decide)); simp only [z32lt, z32le, z32eq, Int32.reduceToInt, Int32.toInt_zero] at h26_9; constructor <;> omega
      refine z_iload_n (pc := 29) C dX10_isTried_29 rfl ?_
      refine z_iload_n (pc := 30) C dX10_isTried_30 rfl ?_
      refine z_ishr (pc := 31) C dX10_isTried_31 ?_
      refine w_gp (fun v => v = a3 >>> (a1 &&& 31)) rfl (fun v13 q13 => ?_)
      refine z_iconst (pc := 32) (v := 1) C dX10_isTried_32 (by decide) ?_
      refine z_iand (pc := 33) C dX10_isTried_33 ?_
      refine w_gp (fun v => v = v13 &&& (1 : Int32)) rfl (fun v14 q14 => ?_)
      have b14x : zB v14 0 1 := by rw [q14]; exact (zand_b (zB_any v13) (zB.of (x := 1) 1 (by decide)) (by decide))
      refine z_iconst (pc := 34) (v := 1) C dX10_isTried_34 (by decide) ?_
      refine z_icmp_ne (pc := 35) 42 C dX10_isTried_35 (by decide) (fun h35_14 => ?_) (fun h35_14 => ?_)
      · skip
        have b16x : zB v14 0 0 := by have q1 := b14x; have q2 := (zB.of (x := 1) 1 (by decide)); simp only [z32lt, z32le, z32eq, Int32.reduceToInt, Int32.toInt_zero] at h35_14; constructor <;> omega
        refine z_iconst (pc := 42) (v := 0) C dX10_isTried_42 (by decide) ?_
        exact z_zret (pc := 43) C hr (z01 (zB.wk (a' := 0) (b' := 1) (zB.of (x := 0) 0 (by decide)) (by decide) (by decide))) dX10_isTried_43 ⟨⟨_, rfl, (zB.wk (a' := 0) (b' := 1) (zB.of (x := 0) 0 (by decide)) (by decide) (by decide))⟩, hI, hF, (by
                                                                                          intro v hv; cases hv
                                                                                          have x8 : (v1).toNatClampNeg = 5 * a1.toInt.toNat + 0 := by omega
                                                                                          have r8 := q2
                                                                                          rw [x8] at r8
                                                                                          have h := hp3_0
                                                                                          rw [r8] at h
                                                                                          have x25 : (v8).toNatClampNeg = 5 * a1.toInt.toNat + 4 := by omega
                                                                                          have r25 := q9
                                                                                          rw [x25] at r25
                                                                                          have hi : a1 = nI a1.toInt.toNat := (nI_ofI (by omega)).1
                                                                                          have z := z01b (x := a3) (a := a1.toInt.toNat) (by omega)
                                                                                          rw [← hi, ← q13, ← q14] at z
                                                                                          by_cases q : bt a3 a1.toInt.toNat = true
                                                                                          · rw [if_pos q] at z
                                                                                            first
                                                                                              | exact Or.inl ⟨rfl, by rw [← h]; assumption, by rw [← r25]; assumption, q⟩
                                                                                              | exact absurd z (by assumption)
                                                                                          · rw [if_neg q] at z
                                                                                            first
                                                                                              | exact Or.inr ⟨rfl, fun y => q y.2.2⟩
                                                                                              | exact absurd (show v14 = 1 by assumption) (by rw [z]; decide))⟩
      · skip
        have b17x : zB v14 1 1 := by have q1 := b14x; have q2 := (zB.of (x := 1) 1 (by decide)); simp only [z32lt, z32le, z32eq, Int32.reduceToInt, Int32.toInt_zero] at h35_14; constructor <;> omega
        refine z_iconst (pc := 38) (v := 1) C dX10_isTried_38 (by decide) ?_
        refine z_goto (pc := 39) 43 C dX10_isTried_39 (by decide) ?_
        exact z_zret (pc := 43) C hr (z01 (zB.wk (a' := 0) (b' := 1) (zB.of (x := 1) 1 (by decide)) (by decide) (by decide))) dX10_isTried_43 ⟨⟨_, rfl, (zB.wk (a' := 0) (b' := 1) (zB.of (x := 1) 1 (by decide)) (by decide) (by decide))⟩, hI, hF, (by
                                                                                          intro v hv; cases hv
                                                                                          have x8 : (v1).toNatClampNeg = 5 * a1.toInt.toNat + 0 := by omega
                                                                                          have r8 := q2
                                                                                          rw [x8] at r8
                                                                                          have h := hp3_0
                                                                                          rw [r8] at h
                                                                                          have x25 : (v8).toNatClampNeg = 5 * a1.toInt.toNat + 4 := by omega
                                                                                          have r25 := q9
                                                                                          rw [x25] at r25
                                                                                          have hi : a1 = nI a1.toInt.toNat := (nI_ofI (by omega)).1
                                                                                          have z := z01b (x := a3) (a := a1.toInt.toNat) (by omega)
                                                                                          rw [← hi, ← q13, ← q14] at z
                                                                                          by_cases q : bt a3 a1.toInt.toNat = true
                                                                                          · rw [if_pos q] at z
                                                                                            first
                                                                                              | exact Or.inl ⟨rfl, by rw [← h]; assumption, by rw [← r25]; assumption, q⟩
                                                                                              | exact absurd z (by assumption)
                                                                                          · rw [if_neg q] at z
                                                                                            first
                                                                                              | exact Or.inr ⟨rfl, fun y => q y.2.2⟩
                                                                                              | exact absurd (show v14 = 1 by assumption) (by rw [z]; decide))⟩

set_option maxRecDepth 100000 in
set_option maxHeartbeats 4000000 in
theorem x_X10_triedAt (d : Nat) (f : zM) (a1 : Int32) (b1 : zB a1 0 5) (a2 : Int32) (b2 : zB a2 0 255) (hI : zInv f) : ZM (d + 3) yX10_triedAt cX10_triedAt 5 (some .int) [zr 25 0, zi a1, zi a2] f (fun r g => (∃ v, r = some (zi v) ∧ zB v 0 255) ∧ zInv g ∧ zFr [] f g ∧ (∀ v : Int32, r = some (zi v) → v = zbf (fun i => (¬ zcw (fun k j => f 26 0 (6 * k + j)) (f 27 0 (5 * i + 0)) (a1) (f 25 0 0).toInt.toNat = 0 ∧ f 27 0 (5 * i + 4) = 0 ∧ bt (a2) i = true)) (f 25 0 2).toInt.toNat)) := by
  refine ZM.intro (by decide +kernel) (Nat.le_of_ble_eq_true rfl) ?_
  intro X C hr hn
  have hF : zFr [] f f := zFr.rf _ _
  have ct25_0_2 : zB (f 25 0 2) 0 8 := hI 25 0 2
  have J : ∀ t : Nat, (∀ a5_3 : Int32, zB a5_3 0 255 → ∀ a5_4 : Int32, zB a5_4 0 8 → ∀ g : zM, zInv g → zFr [] f g → zB (g 25 0 2) 0 8 → (g = f) → (a5_3 = zbf (fun i => (¬ zcw (fun k j => f 26 0 (6 * k + j)) (f 27 0 (5 * i + 0)) (a1) (f 25 0 0).toInt.toNat = 0 ∧ f 27 0 (5 * i + 4) = 0 ∧ bt (a2) i = true)) (a5_4.toInt.toNat)) → (a5_4.toInt ≤ (f 25 0 2).toInt) → ((g 25 0 2).toInt = (f 25 0 2).toInt) → (0 + 3 * (8 - a5_4.toInt) : Int) < t → Z X 5 [some (zr 25 0), some (zi a1), some (zi a2), some (zi a5_3), some (zi a5_4)] [] g) := by
    intro t
    induction t with
    | zero =>
      intros; exfalso; omega
    | succ t ih =>
      have ih0 := ih
      intro a5_3 b5_3 a5_4 b5_4 g5_ hI5_ hF5_ f5_25_0_2 hR5_0 hR5_1 hR5_2 hR5_3 hM5_
      refine z_iload (pc := 5) C dX10_triedAt_5 rfl ?_
      refine z_aload_n (pc := 7) C dX10_triedAt_7 rfl ?_
      refine z_getI (pc := 8) C zf_X10_73 rfl rfl (by decide) dX10_triedAt_8 ?_
      refine w_gp (fun v => v = g5_ 25 0 2) rfl (fun v1 q1 => ?_)
      have e1 : v1.toInt = (g5_ 25 0 2).toInt := by rw [q1]
      have b1x : zB v1 0 8 := by first | exact zB.eqv e1 f5_25_0_2 | (have q9 := f5_25_0_2; constructor <;> omega)
      refine z_icmp_ge (pc := 11) 42 C dX10_triedAt_11 (by decide) (fun h11_1 => ?_) (fun h11_1 => ?_)
      · skip
        have rr3 : a5_4.toInt ≥ v1.toInt := by simp only [z32lt, z32le, z32eq] at h11_1; omega
        refine z_iload_n (pc := 42) C dX10_triedAt_42 rfl ?_
        exact z_iret (pc := 43) C hr dX10_triedAt_43 ⟨⟨_, rfl, b5_3⟩, hI5_, hF5_, (by
                                                                                          intro v hv; cases hv
                                                                                          have hn : (f 25 0 2).toInt.toNat = a5_4.toInt.toNat := by omega
                                                                                          rw [hn]; exact hR5_1)⟩
      · skip
        have rr4 : a5_4.toInt < v1.toInt := by simp only [z32lt, z32le, z32eq] at h11_1; omega
        have b5x : zB a5_4 0 7 := by have q1 := b5_4; have q2 := b1x; simp only [z32lt, z32le, z32eq, Int32.reduceToInt, Int32.toInt_zero] at h11_1; constructor <;> omega
        have b6x : zB v1 1 8 := by have q1 := b5_4; have q2 := b1x; simp only [z32lt, z32le, z32eq, Int32.reduceToInt, Int32.toInt_zero] at h11_1; constructor <;> omega
        have c7x : zB (g5_ 25 0 2) 1 8 := by first | assumption | (constructor <;> omega)
        refine z_iload_n (pc := 14) C dX10_triedAt_14 rfl ?_
        refine z_aload_n (pc := 15) C dX10_triedAt_15 rfl ?_
        refine z_iload (pc := 16) C dX10_triedAt_16 rfl ?_
        refine z_iload_n (pc := 18) C dX10_triedAt_18 rfl ?_
        refine z_iload_n (pc := 19) C dX10_triedAt_19 rfl ?_
        refine z_callV (pc := 20) C zk_X10_161 (x_X10_isTried _ _ a5_4 b5x a1 b1 a2 b2 hI5_) rfl rfl (by decide) rfl rfl (Nat.le_of_ble_eq_true rfl) dX10_triedAt_20 (fun r8 g8 q8 => ?_)
        obtain ⟨⟨v8, rfl, b8x⟩, hI8, hF8q, hp8_0⟩ := q8
        have hp8_0 := hp8_0 _ rfl
        obtain rfl := zFr_nil hF8q
        simp only [Option.toList, List.cons_append, List.nil_append]
        refine z_if_eq (pc := 23) 33 C dX10_triedAt_23 (by decide) (fun h23_8 => ?_) (fun h23_8 => ?_)
        · skip
          have b10x : zB v8 0 0 := by have q1 := b8x; have q2 := (zB.of (x := 0) 0 (by decide)); simp only [z32lt, z32le, z32eq, Int32.reduceToInt, Int32.toInt_zero] at h23_8; constructor <;> omega
          refine z_iconst (pc := 33) (v := 0) C dX10_triedAt_33 (by decide) ?_
          refine z_ior (pc := 34) C dX10_triedAt_34 ?_
          refine w_gp (fun v => v = a5_3 ||| (0 : Int32)) rfl (fun v11 q11 => ?_)
          have b11x : zB v11 0 255 := by rw [q11]; exact (zor_b 8 b5_3 (zB.of (x := 0) 0 (by decide)) (by decide) (by decide) (by decide) (by decide) (by decide))
          refine z_istore_n (pc := 35) C dX10_triedAt_35 (by rw [hn]; decide) rfl ?_
          refine z_iinc (pc := 36) (v := 1) C dX10_triedAt_36 rfl (by decide) (by rw [hn]; decide) rfl ?_
          obtain ⟨v12, hv12, e12⟩ : ∃ v : Int32, v = a5_4 + 1 ∧ v.toInt = a5_4.toInt + 1 := ⟨_, rfl, zadd_eb b5x (zB.of (x := 1) 1 (by decide)) (by decide) (by decide)⟩
          rw [← hv12]
          have b12x : zB v12 1 8 := by have q9 := b5x; constructor <;> omega
          refine z_goto (pc := 39) 5 C dX10_triedAt_39 (by decide) ?_
          exact ih0 v11 b11x v12 (zB.wk (a' := 0) (b' := 8) b12x (by decide) (by decide)) g5_ hI5_ hF5_ (zB.wk c7x (by decide) (by decide)) (by exact hR5_0) (by
                                                                                          have hn : (v12).toInt.toNat = a5_4.toInt.toNat + 1 := by omega
                                                                                          have hi : a5_4 = nI a5_4.toInt.toNat := (nI_ofI (by omega)).1
                                                                                          have ho := q11
                                                                                          rw [hn, zbf, ← hR5_1, ho]
                                                                                          congr 1
                                                                                          have ha := hp8_0
                                                                                          rw [hR5_0] at ha
                                                                                          rcases ha with ⟨h1, h2⟩ | ⟨h1, h2⟩
                                                                                          · first
                                                                                              | (rw [if_pos h2, ← hi]; first | rfl | assumption)
                                                                                              | (exfalso; exact absurd h1 (by rw [z32eq]; have c1 : (1 : Int32).toInt = 1 := by decide
                                                                                                                              omega))
                                                                                          · first
                                                                                              | (rw [if_neg h2]; done)
                                                                                              | (exfalso; exact absurd h1 (by rw [z32eq]; have c0 : (0 : Int32).toInt = 0 := by decide
                                                                                                                              omega))) (by omega) (by omega) (by omega)
        · skip
          have b13x : zB v8 1 1 := by have q1 := b8x; have q2 := (zB.of (x := 0) 0 (by decide)); simp only [z32lt, z32le, z32eq, Int32.reduceToInt, Int32.toInt_zero] at h23_8; constructor <;> omega
          refine z_iconst (pc := 26) (v := 1) C dX10_triedAt_26 (by decide) ?_
          refine z_iload (pc := 27) C dX10_triedAt_27 rfl ?_
          refine z_ishl (pc := 29) C dX10_triedAt_29 ?_
          refine w_gp (fun v => v = (1 : Int32) <<< (a5_4 &&& 31)) rfl (fun v14 q14 => ?_)
          have b14x : zB v14 0 128 := by rw [q14]; exact (zshl_b b5x 7 (by decide) (by decide))
          refine z_goto (pc := 30) 34 C dX10_triedAt_30 (by decide) ?_
          refine z_ior (pc := 34) C dX10_triedAt_34 ?_
          refine w_gp (fun v => v = a5_3 ||| v14) rfl (fun v15 q15 => ?_)
          have b15x : zB v15 0 255 := by rw [q15]; exact (zor_b 8 b5_3 b14x (by decide) (by decide) (by decide) (by decide) (by decide))
          refine z_istore_n (pc := 35) C dX10_triedAt_35 (by rw [hn]; decide) rfl ?_
          refine z_iinc (pc := 36) (v := 1) C dX10_triedAt_36 rfl (by decide) (by rw [hn]; decide) rfl ?_
          obtain ⟨v16, hv16, e16⟩ : ∃ v : Int32, v = a5_4 + 1 ∧ v.toInt = a5_4.toInt + 1 := ⟨_, rfl, zadd_eb b5x (zB.of (x := 1) 1 (by decide)) (by decide) (by decide)⟩
          rw [← hv16]
          have b16x : zB v16 1 8 := by have q9 := b5x; constructor <;> omega
          refine z_goto (pc := 39) 5 C dX10_triedAt_39 (by decide) ?_
          exact ih0 v15 b15x v16 (zB.wk (a' := 0) (b' := 8) b16x (by decide) (by decide)) g5_ hI5_ hF5_ (zB.wk c7x (by decide) (by decide)) (by exact hR5_0) (by
                                                                                          have hn : (v16).toInt.toNat = a5_4.toInt.toNat + 1 := by omega
                                                                                          have hi : a5_4 = nI a5_4.toInt.toNat := (nI_ofI (by omega)).1
                                                                                          have ho := q15
                                                                                          rw [hn, zbf, ← hR5_1, ho]
                                                                                          congr 1
                                                                                          have ha := hp8_0
                                                                                          rw [hR5_0] at ha
                                                                                          rcases ha with ⟨h1, h2⟩ | ⟨h1, h2⟩
                                                                                          · first
                                                                                              | (rw [if_pos h2, ← hi]; first | rfl | assumption)
                                                                                              | (exfalso; exact absurd h1 (by rw [z32eq]; have c1 : (1 : Int32).toInt = 1 := by decide
                                                                                                                              omega))
                                                                                          · first
                                                                                              | (rw [if_neg h2]; done)
                                                                                              | (exfalso; exact absurd h1 (by rw [z32eq]; have c0 : (0 : Int32).toInt = 0 := by decide
                                                                                                                              omega))) (by omega) (by omega) (by omega)
  have J0 := J 39
  show Z X 0 [some (zr 25 0), some (zi a1), some (zi a2), none, none] [] f
  refine z_iconst (pc := 0) (v := 0) C dX10_triedAt_0 (by decide) ?_
  refine z_istore_n (pc := 1) C dX10_triedAt_1 (by rw [hn]; decide) rfl ?_
  refine z_iconst (pc := 2) (v := 0) C dX10_triedAt_2 (by decide) ?_
  refine z_istore (pc := 3) C dX10_triedAt_3 (by rw [hn]; decide) rfl ?_
  exact J0 0 (zB.wk (a' := 0) (b' := 255) (zB.of (x := 0) 0 (by decide)) (by decide) (by decide)) 0 (zB.wk (a' := 0) (b' := 8) (zB.of (x := 0) 0 (by decide)) (by decide) (by decide)) f hI hF ct25_0_2 (by rfl) (by rfl) (by have qc0 : (0 : Int32).toInt = 0 := (by decide); omega) (by have qc0 : (0 : Int32).toInt = 0 := (by decide); omega) (by have qc0 : (0 : Int32).toInt = 0 := (by decide); omega)

set_option maxRecDepth 100000 in
set_option maxHeartbeats 4000000 in
theorem x_X10_tried (d : Nat) (f : zM)  (hI : zInv f) : ZM (d + 4) yX10_tried cX10_tried 1 (some .int) [zr 25 0] f (fun r g => (∃ v, r = some (zi v) ∧ zB v 0 255) ∧ zInv g ∧ zFr [] f g ∧ (∀ v : Int32, r = some (zi v) → v = zbf (fun i => (¬ zcw (fun k j => f 26 0 (6 * k + j)) (f 27 0 (5 * i + 0)) (f 30 0 1) (f 25 0 0).toInt.toNat = 0 ∧ f 27 0 (5 * i + 4) = 0 ∧ bt (f 30 0 5) i = true)) (f 25 0 2).toInt.toNat)) := by
  refine ZM.intro (by decide +kernel) (Nat.le_of_ble_eq_true rfl) ?_
  intro X C hr hn
  have hF : zFr [] f f := zFr.rf _ _
  show Z X 0 [some (zr 25 0)] [] f
  refine z_aload_n (pc := 0) C dX10_tried_0 rfl ?_
  refine z_aload_n (pc := 1) C dX10_tried_1 rfl ?_
  refine z_getR (pc := 2) C zf_X10_22 rfl rfl (by decide) dX10_tried_2 ?_
  refine z_iconst (pc := 5) (v := 1) C dX10_tried_5 (by decide) ?_
  refine z_iald (pc := 6) C rfl (by decide) (zIx (zB.of (x := 1) 1 (by decide)) (by decide) (by decide)) dX10_tried_6 ?_
  have kq6_0 : (1 : Int32).toNatClampNeg = (1 : Int32).toInt.toNat := rfl
  refine w_gp (fun v => v = f 30 0 (1 : Int32).toNatClampNeg) rfl (fun v1 q1 => ?_)
  have b1x : zB v1 0 5 := by rw [q1]; exact (hI 30 0 (1 : Int32).toNatClampNeg)
  refine z_aload_n (pc := 7) C dX10_tried_7 rfl ?_
  refine z_getR (pc := 8) C zf_X10_22 rfl rfl (by decide) dX10_tried_8 ?_
  refine z_iconst (pc := 11) (v := 5) C dX10_tried_11 (by decide) ?_
  refine z_iald (pc := 12) C rfl (by decide) (zIx (zB.of (x := 5) 5 (by decide)) (by decide) (by decide)) dX10_tried_12 ?_
  have kq12_1 : (5 : Int32).toNatClampNeg = (5 : Int32).toInt.toNat := rfl
  refine w_gp (fun v => v = f 30 0 (5 : Int32).toNatClampNeg) rfl (fun v2 q2 => ?_)
  have b2x : zB v2 0 255 := by rw [q2]; exact (hI 30 0 (5 : Int32).toNatClampNeg)
  refine z_callV (pc := 13) C zk_X10_165 (x_X10_triedAt _ _ v1 b1x v2 b2x hI) rfl rfl (by decide) rfl rfl (Nat.le_of_ble_eq_true rfl) dX10_tried_13 (fun r3 g3 q3 => ?_)
  obtain ⟨⟨v3, rfl, b3x⟩, hI3, hF3q, hp3_0⟩ := q3
  have hp3_0 := hp3_0 _ rfl
  obtain rfl := zFr_nil hF3q
  simp only [Option.toList, List.cons_append, List.nil_append]
  exact z_iret (pc := 16) C hr dX10_tried_16 ⟨⟨_, rfl, b3x⟩, hI, hF, (by
                                                                                          intro v hv; cases hv
                                                                                          have r6 : v1 = f 30 0 1 := q1
                                                                                          have r12 : v2 = f 30 0 5 := q2
                                                                                          have h := hp3_0
                                                                                          rw [r6, r12] at h
                                                                                          exact h)⟩
