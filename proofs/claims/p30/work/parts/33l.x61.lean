/-! ===== the two readings are one ===== -/
theorem nI_get {b : Int32} {N : Nat} (h0 : 0 ≤ b.toInt) (h1 : b.toInt < N) : ∃ a, a < N ∧ b = nI a := ⟨b.toInt.toNat, by omega, (nI_ofI h0).1⟩
/-- the highest of six marks, how many -/
def zhi (m : Int32) : Int32 := if m.toInt < 1 then -1 else if m.toInt < 2 then 0 else if m.toInt < 4 then 1 else if m.toInt < 8 then 2 else if m.toInt < 16 then 3 else if m.toInt < 32 then 4 else 5
def zp6 (b : Int32) : Nat := zpc b + (if b &&& 32 = 0 then 0 else 1)
theorem mk_f1 : ∀ (l : Fin 6) (m : Fin 64), (1 <<< (nI l.val &&& 31) : Int32).toInt ≤ (nI m.val).toInt ↔ (nI l.val).toInt ≤ (zhi (nI m.val)).toInt := by decide +kernel
theorem mk_f2 : ∀ (l : Fin 6) (m : Fin 64), ¬ (1 <<< (nI l.val &&& 31) : Int32) &&& nI m.val = 0 ↔ nI m.val >>> (nI l.val &&& 31) &&& 1 = 1 := by decide +kernel
theorem mk_f3 : ∀ (l : Fin 6) (m : Fin 64), ¬ (1 <<< (nI l.val &&& 31) : Int32).toInt ≤ (nI m.val).toInt → zhi (nI m.val ||| 1 <<< (nI l.val &&& 31)) = nI l.val ∧ zp6 (nI m.val ||| 1 <<< (nI l.val &&& 31)) = zp6 (nI m.val) + 1 ∧ 0 ≤ (nI m.val ||| 1 <<< (nI l.val &&& 31)).toInt ∧ (nI m.val ||| 1 <<< (nI l.val &&& 31)).toInt ≤ 63 := by decide +kernel
theorem mk_f4 : ∀ m : Fin 64, zp6 (nI m.val) = 6 → nI m.val = 63 := by decide +kernel
def zMk (T : Nat → Int32) (n : Nat) (C R : zR Int32) : Prop := (∃ e, C = .inl e ∧ R = .inl e) ∨ (∃ m q, C = .inr (m, q) ∧ R = .inr (m, zsp T n q) ∧ zB m 0 63) ∨ (∃ m q, C = .inr (m, q) ∧ R = .inl (zsp T n q) ∧ 0 ≤ (zch T n (zsp T n q) - 97).toInt ∧ (zch T n (zsp T n q) - 97).toInt ≤ 5)
theorem zmk_eq (T : Nat → Int32) (n : Nat) {no : Int32} (hno : zB no 0 63) : ∀ (k : Nat) (m : Int32) (p K : Nat), zB m 0 63 → k + zp6 m = 6 → k < K → zMk T n (zcm T n no k p m) (zrm T n no K p m (zhi m)) := by
  obtain ⟨a, ha, rfl⟩ := nI_get (N := 64) hno.1 (by have := hno.2; omega)
  intro k
  induction k with
  | zero =>
    intro m p K hm hk hK
    obtain ⟨b, hb, rfl⟩ := nI_get (N := 64) hm.1 (by have := hm.2; omega)
    have e63 := mk_f4 ⟨b, hb⟩ (show zp6 (nI b) = 6 by omega)
    simp only at e63
    rw [e63]
    obtain ⟨K, rfl⟩ : ∃ K2, K = K2 + 1 := ⟨K - 1, by omega⟩
    rw [zcm_0, zrm_s, if_neg (by decide)]
    by_cases h : 0 ≤ (zch T n (zsp T n p) - 97).toInt ∧ (zch T n (zsp T n p) - 97).toInt ≤ 5
    · rw [if_pos h, if_pos (Or.inl (by rw [show zhi 63 = 5 by decide]; have : (5 : Int32).toInt = 5 := by decide
                                       omega))]
      exact Or.inr (Or.inr ⟨_, _, rfl, rfl, h⟩)
    · rw [if_neg h, if_neg (by decide)]
      exact Or.inr (Or.inl ⟨_, _, rfl, rfl, by decide⟩)
  | succ k ih =>
    intro m p K hm hk hK
    obtain ⟨K, rfl⟩ : ∃ K2, K = K2 + 1 := ⟨K - 1, by omega⟩
    rw [zcm_s, zrm_s]
    by_cases h : 0 ≤ (zch T n (zsp T n p) - 97).toInt ∧ (zch T n (zsp T n p) - 97).toInt ≤ 5
    · rw [if_pos h, if_pos h]
      obtain ⟨l, hl, el⟩ := nI_get (N := 6) h.1 (by omega)
      obtain ⟨b, hb, rfl⟩ := nI_get (N := 64) hm.1 (by have := hm.2; omega)
      rw [el]
      have f1 := mk_f1 ⟨l, hl⟩ ⟨b, hb⟩
      have f2 := mk_f2 ⟨l, hl⟩ ⟨a, ha⟩
      have f3 := mk_f3 ⟨l, hl⟩ ⟨b, hb⟩
      simp only at f1 f2 f3
      by_cases hc : (1 <<< (nI l &&& 31) : Int32).toInt ≤ (nI b).toInt ∨ ¬ (1 <<< (nI l &&& 31) : Int32) &&& nI a = 0
      · rw [if_pos hc, if_pos (hc.imp f1.mp f2.mp)]
        exact Or.inl ⟨_, rfl, rfl⟩
      · rw [if_neg hc, if_neg (fun hh => hc (hh.imp f1.mpr f2.mpr))]
        obtain ⟨g1, g2, g3⟩ := f3 (fun hh => hc (Or.inl hh))
        have := ih (nI b ||| 1 <<< (nI l &&& 31)) (zsp T n p + 1) K g3 (by omega) (by omega)
        rw [g1] at this
        exact this
    · rw [if_neg h, if_neg h]
      by_cases h0 : m = 0
      · rw [if_pos h0]; exact Or.inl ⟨_, rfl, rfl⟩
      · rw [if_neg h0]; exact Or.inr (Or.inl ⟨_, _, rfl, by rw [zsp_idem], hm⟩)
theorem zmk_CR (T : Nat → Int32) (n : Nat) {no : Int32} (hno : zB no 0 63) (p : Nat) : zMk T n (zmkC T n no p) (zmkR T n no p) := by
  have := zmk_eq T n hno 6 0 p 7 (by decide) (by decide) (by decide)
  rw [show zhi 0 = -1 by decide] at this
  exact this
theorem znu_zsp (T : Nat → Int32) (n : Nat) (lo hi : Int) (p : Nat) : znu T n lo hi (zsp T n p) = znu T n lo hi p := by
  unfold znu; rw [zsp_idem]
/-- no digit stands there -/
theorem znu_no {T : Nat → Int32} {n p : Nat} {lo hi : Int} (h : ¬ (48 ≤ (zch T n (zsp T n p)).toInt ∧ (zch T n (zsp T n p)).toInt ≤ 57)) : znu T n lo hi p = .inl (zsp T n p) := by
  unfold znu
  rw [if_pos (Or.inl (zdk_stop (fun hh => h (by unfold zch; rw [if_pos hh.1]; exact hh.2)) _))]
theorem zch_m {T : Nat → Int32} {n q : Nat} (h : 0 ≤ (zch T n q - 97).toInt ∧ (zch T n q - 97).toInt ≤ 5) : 97 ≤ (zch T n q).toInt ∧ (zch T n q).toInt ≤ 102 := by
  generalize zch T n q = c at h
  have e : c = (c - 97) + 97 := by rw [Int32.sub_add_cancel]
  have e2 : ((c - 97) + 97).toInt = (c - 97).toInt + 97 := zadd_e (y := 97) (by show _ ≤ _ + (97 : Int); omega) (by show _ + (97 : Int) ≤ _; omega)
  rw [← e] at e2
  omega
theorem zCr_eq (T : Nat → Int32) (n : Nat) (land : Int32) (p : Nat) : zCr (zmkC T n) T n land p = zCr (zmkR T n) T n land p := by
  unfold zCr
  have c45 : (45 : Int32).toInt = 45 := by decide
  rcases zmk_CR T n (no := 0) (by decide) p with ⟨e, h1, h2⟩ | ⟨m, q, h1, h2, hm⟩ | ⟨m, q, h1, h2, h3⟩
  · rw [h1, h2]; simp only [zbd]
  · rw [h1, h2]
    simp only [zbd, zsp_idem]
    by_cases h : zch T n (zsp T n q) = 45
    · rw [if_pos h, if_pos h]
      rcases zmk_CR T n hm (zsp T n q + 1) with ⟨e, g1, g2⟩ | ⟨m2, q2, g1, g2, hm2⟩ | ⟨m2, q2, g1, g2, g3⟩
      · rw [g1, g2]
      · rw [g1, g2]; simp only [znu_zsp]
      · rw [g1, g2]
        have z3 := zch_m g3
        simp only [znu_no (T := T) (n := n) (p := q2) (lo := 0) (hi := 40) (by omega)]
    · rw [if_neg h, if_neg h]
  · rw [h1, h2]
    have z3 := zch_m h3
    have hne : ¬ zch T n (zsp T n q) = 45 := by rw [z32eq]; omega
    simp only [zbd]
    rw [if_neg hne]
    simp only [znu_zsp, znu_no (T := T) (n := n) (p := q) (lo := 0) (hi := 40) (by omega)]
/-! bars -/
theorem br_f1 (c : Int32) : (zix 0 c).toInt < 0 ↔ (zpb c).toInt ≤ 0 := by
  unfold zix zpb
  rw [if_pos rfl]
  by_cases h1 : c = 111
  · rw [if_pos h1, if_pos h1]; decide
  · rw [if_neg h1, if_neg h1]
    by_cases h2 : c = 106
    · rw [if_pos h2, if_pos h2]; decide
    · rw [if_neg h2, if_neg h2]
      by_cases h3 : c = 112
      · rw [if_pos h3, if_pos h3]; decide
      · rw [if_neg h3, if_neg h3]
        by_cases h4 : c = 107
        · rw [if_pos h4, if_pos h4]; decide
        · rw [if_neg h4, if_neg h4]
          by_cases h5 : c = 104
          · rw [if_pos h5, if_pos h5]; decide
          · rw [if_neg h5, if_neg h5]; decide
theorem br_f2 (c : Int32) (h : ¬ (zix 0 c).toInt < 0) : (1 <<< (zix 0 c &&& 31) : Int32) = zpb c := by
  unfold zix zpb at *
  rw [if_pos rfl] at *
  by_cases h1 : c = 111
  · rw [if_pos h1, if_pos h1]; decide
  · rw [if_neg h1] at h; rw [if_neg h1, if_neg h1]
    by_cases h2 : c = 106
    · rw [if_pos h2, if_pos h2]; decide
    · rw [if_neg h2] at h; rw [if_neg h2, if_neg h2]
      by_cases h3 : c = 112
      · rw [if_pos h3, if_pos h3]; decide
      · rw [if_neg h3] at h; rw [if_neg h3, if_neg h3]
        by_cases h4 : c = 107
        · rw [if_pos h4, if_pos h4]; decide
        · rw [if_neg h4] at h; rw [if_neg h4, if_neg h4]
          by_cases h5 : c = 104
          · rw [if_pos h5, if_pos h5]; decide
          · rw [if_neg h5] at h; exact absurd (by decide) h
theorem or_31 {b c : Int32} (hb : zB b 0 31) (hc : zB c 0 31) : zB (b ||| c) 0 31 := zor_b 5 hb hc (by decide) (by decide) (by decide) (by decide) (by decide)
theorem zpb_B (c : Int32) : zB (zpb c) 0 31 := by
  rcases zpb_of (c := c) with q | q | q | q | q | q <;> rw [q] <;> decide
theorem zpp_B (c : Int32) : zB (zpp c) 0 7 := by
  rcases zpp_of (c := c) with q | q | q | q <;> rw [q] <;> decide
def zBr (T : Nat → Int32) (n : Nat) (C R : zR Int32) : Prop := (∃ e, C = .inl e ∧ R = .inl e) ∨ (∃ m q, C = .inr (m, q) ∧ R = .inr (m, zsp T n q)) ∨ (∃ m q, C = .inr (m, q) ∧ R = .inl (zsp T n q) ∧ 0 < (zpb (zch T n (zsp T n q))).toInt)
theorem br_f4 : ∀ m : Fin 32, zpc (nI m.val) = 5 → nI m.val = 31 := by decide +kernel
theorem br_f5 : (31 : Int32) &&& 1 ≠ 0 ∧ (31 : Int32) &&& 2 ≠ 0 ∧ (31 : Int32) &&& 4 ≠ 0 ∧ (31 : Int32) &&& 8 ≠ 0 ∧ (31 : Int32) &&& 16 ≠ 0 := by decide
theorem zbr_eq (T : Nat → Int32) (n : Nat) : ∀ (k : Nat) (b : Int32) (p K : Nat), zB b 0 31 → k + zpc b = 5 → k < K → zBr T n (zcl T n 0 0 k p b) (zrb T n K p b) := by
  intro k
  induction k with
  | zero =>
    intro b p K hb hk hK
    obtain ⟨a, ha, rfl⟩ := nI_get (N := 32) hb.1 (by have := hb.2; omega)
    have e31 := br_f4 ⟨a, ha⟩ (show zpc (nI a) = 5 by omega)
    simp only at e31
    rw [e31]
    obtain ⟨K, rfl⟩ : ∃ K2, K = K2 + 1 := ⟨K - 1, by omega⟩
    rw [zcl_0, zrb_s]
    by_cases h : (zpb (zch T n (zsp T n p))).toInt ≤ 0
    · rw [if_pos h]; exact Or.inr (Or.inl ⟨_, _, rfl, rfl⟩)
    · rw [if_neg h, if_pos]
      · exact Or.inr (Or.inr ⟨_, _, rfl, rfl, by omega⟩)
      · rcases zpb_of (c := zch T n (zsp T n p)) with q | q | q | q | q | q <;> rw [q] at h ⊢
        · exact absurd (by decide) h
        · exact br_f5.1
        · exact br_f5.2.1
        · exact br_f5.2.2.1
        · exact br_f5.2.2.2.1
        · exact br_f5.2.2.2.2
  | succ k ih =>
    intro b p K hb hk hK
    obtain ⟨K, rfl⟩ : ∃ K2, K = K2 + 1 := ⟨K - 1, by omega⟩
    rw [zcl_s, zrb_s]
    by_cases h : (zix 0 (zch T n (zsp T n p))).toInt < 0
    · rw [if_pos h, if_pos ((br_f1 _).mp h)]
      exact Or.inr (Or.inl ⟨_, _, rfl, by rw [zsp_idem]⟩)
    · have h2 : ¬ (zpb (zch T n (zsp T n p))).toInt ≤ 0 := fun q => h ((br_f1 _).mpr q)
      rw [if_neg h, if_neg h2, br_f2 _ h]
      by_cases hz : b &&& zpb (zch T n (zsp T n p)) = 0
      · rw [if_neg (fun hh => hh.elim (fun q => q hz) (fun q => absurd rfl q.1)), if_neg (fun q => q hz)]
        exact ih _ _ K (or_31 hb (zpb_B _)) (by rw [zpc_b hb (by omega) hz]; omega) (by omega)
      · rw [if_pos (Or.inl hz), if_pos hz]
        exact Or.inl ⟨_, rfl, rfl⟩
theorem zbr_CR (T : Nat → Int32) (n p : Nat) : zBr T n (zbrC T n p) (zbrR T n p) := zbr_eq T n 5 0 p 6 (by decide) (by decide) (by decide)
/-! promises -/
theorem pr_f1 (c : Int32) : (zix 1 c).toInt < 0 ↔ zpp c = 0 := by
  unfold zix zpp
  rw [if_neg (by decide)]
  by_cases h1 : c = 68
  · rw [if_pos h1, if_pos h1]; decide
  · rw [if_neg h1, if_neg h1]
    by_cases h2 : c = 83
    · rw [if_pos h2, if_pos h2]; decide
    · rw [if_neg h2, if_neg h2]
      by_cases h3 : c = 79
      · rw [if_pos h3, if_pos h3]; decide
      · rw [if_neg h3, if_neg h3]; decide
theorem pr_f2 (c : Int32) (h : ¬ (zix 1 c).toInt < 0) : (1 <<< (zix 1 c &&& 31) : Int32) = zpp c := by
  unfold zix zpp at *
  rw [if_neg (by decide)] at *
  by_cases h1 : c = 68
  · rw [if_pos h1, if_pos h1]; decide
  · rw [if_neg h1] at h; rw [if_neg h1, if_neg h1]
    by_cases h2 : c = 83
    · rw [if_pos h2, if_pos h2]; decide
    · rw [if_neg h2] at h; rw [if_neg h2, if_neg h2]
      by_cases h3 : c = 79
      · rw [if_pos h3, if_pos h3]; decide
      · rw [if_neg h3] at h; exact absurd (by decide) h
theorem pr_f3 : ∀ m : Fin 8, ((¬ nI m.val &&& 1 = 0 ∨ (1 : Int32).toInt < (nI m.val).toInt) ↔ (1 : Int32).toInt ≤ (nI m.val).toInt) ∧ ((¬ nI m.val &&& 2 = 0 ∨ (2 : Int32).toInt < (nI m.val).toInt) ↔ (2 : Int32).toInt ≤ (nI m.val).toInt) ∧ ((¬ nI m.val &&& 4 = 0 ∨ (4 : Int32).toInt < (nI m.val).toInt) ↔ (4 : Int32).toInt ≤ (nI m.val).toInt) := by decide +kernel
theorem pr_f4 : ∀ m : Fin 8, zpc (nI m.val) = 3 → nI m.val = 7 := by decide +kernel
def zPr (T : Nat → Int32) (n : Nat) (C R : zR Int32) : Prop := (∃ e, C = .inl e ∧ R = .inl e) ∨ (∃ m q, C = .inr (m, q) ∧ R = .inr (m, zsp T n q)) ∨ (∃ m q, C = .inl (zsp T n q) ∧ R = .inr (m, zsp T n q) ∧ ¬ zpp (zch T n (zsp T n q)) = 0)
theorem zpr_eq (T : Nat → Int32) (n : Nat) : ∀ (k : Nat) (b : Int32) (p K : Nat), zB b 0 7 → k + zpc b = 3 → k < K → zPr T n (zbd (zcl T n 1 1 k p b) fun b q => if b = 0 then .inl q else .inr (b, q)) (zrp T n K p b) := by
  intro k
  induction k with
  | zero =>
    intro b p K hb hk hK
    obtain ⟨a, ha, rfl⟩ := nI_get (N := 8) hb.1 (by have := hb.2; omega)
    have e7 := pr_f4 ⟨a, ha⟩ (show zpc (nI a) = 3 by omega)
    simp only at e7
    rw [e7]
    obtain ⟨K, rfl⟩ : ∃ K2, K = K2 + 1 := ⟨K - 1, by omega⟩
    rw [zcl_0, zrp_s, if_pos (by have := (zpp_B (zch T n (zsp T n p))).2; have c7 : (7 : Int32).toInt = 7 := by decide
                                 omega), if_neg (by decide)]
    exact Or.inr (Or.inl ⟨7, p, rfl, rfl⟩)
  | succ k ih =>
    intro b p K hb hk hK
    obtain ⟨K, rfl⟩ : ∃ K2, K = K2 + 1 := ⟨K - 1, by omega⟩
    rw [zcl_s, zrp_s]
    by_cases h : (zix 1 (zch T n (zsp T n p))).toInt < 0
    · have h0 := (pr_f1 _).mp h
      have hb0 := hb.1
      rw [if_pos h, h0, if_pos (by have c0 : (0 : Int32).toInt = 0 := by decide
                                   omega)]
      by_cases hz : b = 0
      · rw [if_pos hz]; simp only [zbd]; rw [if_pos hz]; exact Or.inl ⟨_, rfl, rfl⟩
      · rw [if_neg hz]; simp only [zbd]; rw [if_neg hz]; exact Or.inr (Or.inl ⟨_, _, rfl, by rw [zsp_idem]⟩)
    · have h2 : ¬ zpp (zch T n (zsp T n p)) = 0 := fun q => h ((pr_f1 _).mpr q)
      rw [if_neg h, pr_f2 _ h]
      have hiff : (¬ b &&& zpp (zch T n (zsp T n p)) = 0 ∨ (¬ (1 : Int32) = 0 ∧ (zpp (zch T n (zsp T n p))).toInt < b.toInt)) ↔ (zpp (zch T n (zsp T n p))).toInt ≤ b.toInt := by
        obtain ⟨a, ha, rfl⟩ := nI_get (N := 8) hb.1 (by have := hb.2; omega)
        have f := pr_f3 ⟨a, ha⟩
        simp only at f
        have one : (¬ (1 : Int32) = 0) = True := by simp
        rw [one, true_and]
        rcases zpp_of (c := zch T n (zsp T n p)) with q | q | q | q
        · exact absurd q h2
        · rw [q]; exact f.1
        · rw [q]; exact f.2.1
        · rw [q]; exact f.2.2
      by_cases hc : (zpp (zch T n (zsp T n p))).toInt ≤ b.toInt
      · rw [if_pos (hiff.mpr hc), if_pos hc]
        have hz : ¬ b = 0 := by
          intro q
          rw [q] at hc
          rcases zpp_of (c := zch T n (zsp T n p)) with r | r | r | r
          · exact h2 r
          · rw [r] at hc; exact absurd hc (by decide)
          · rw [r] at hc; exact absurd hc (by decide)
          · rw [r] at hc; exact absurd hc (by decide)
        rw [if_neg hz]
        exact Or.inr (Or.inr ⟨b, p, rfl, rfl, h2⟩)
      · rw [if_neg (fun q => hc (hiff.mp q)), if_neg hc]
        exact ih _ _ K (zor_b 3 hb (zpp_B _) (by decide) (by decide) (by decide) (by decide) (by decide)) (by rw [zpc_p hb (by omega)]; omega) (by omega)
theorem zpr_CR (T : Nat → Int32) (n p : Nat) : zPr T n (zprC T n p) (zprR T n p) := zpr_eq T n 3 0 p 4 (by decide) (by decide) (by decide)
