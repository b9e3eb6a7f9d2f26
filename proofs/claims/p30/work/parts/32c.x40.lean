/-! ===== exact rows: values and memories with their equations ===== -/
section WX
variable {X : zX} {pc : Nat} {L : List (Option zV)} {st : List zV} {f : zM}
theorem w_grx {k n : Nat} (h : n < zcnt k) (kk : ∀ m : Nat, m = n → m < zcnt k → Z X pc L (zr k m :: st) f) : Z X pc L (zr k n :: st) f := kk n rfl h
theorem w_memx {S : List (Nat × Option Nat)} {f0 : zM} {k n j : Nat} {x : Int32} (hI : zInv f) (hF : zFr S f0 f) (hx : (zrg k j).1 ≤ x.toInt ∧ x.toInt ≤ (zrg k j).2) (hs : zS S k j = true) (kk : ∀ g, g = zup f k n j x → zInv g → zFr S f0 g → (∀ a b c, ¬ (a = k ∧ c = j) → g a b c = f a b c) → g k n j = x → Z X pc L st g) : Z X pc L st (zup f k n j x) := kk _ rfl (hI.up hx) (hF.up hs) (fun a b c h => zup_ne f x (fun q => h ⟨q.1, q.2.2⟩)) (zup_same f k n j x)
theorem w_memy {S : List (Nat × Option Nat)} {f0 : zM} {k n j : Nat} {x : Int32} (hI : zInv f) (hF : zFr S f0 f) (hx : (zrg k j).1 ≤ x.toInt ∧ x.toInt ≤ (zrg k j).2) (hs : zS S k j = true) (kk : ∀ g, g = zup f k n j x → zInv g → zFr S f0 g → Z X pc L st g) : Z X pc L st (zup f k n j x) := kk _ rfl (hI.up hx) (hF.up hs)
theorem w_fillx {S : List (Nat × Option Nat)} {f0 : zM} {k n len : Nat} {x : Int32} (hI : zInv f) (hF : zFr S f0 f) (hx : ∀ j, (zrg k j).1 ≤ x.toInt ∧ x.toInt ≤ (zrg k j).2) (hs : ∀ j, zS S k j = true) (kk : ∀ g, g = zfill f k n len x → zInv g → zFr S f0 g → Z X pc L st g) : Z X pc L st (zfill f k n len x) := by
  refine kk _ rfl ?_ ?_
  · intro a b c
    unfold zfill
    split
    · rename_i q
      obtain ⟨rfl, rfl, q3⟩ := q
      exact hx c
    · exact hI a b c
  · intro a b c hq
    unfold zfill
    rw [if_neg (fun q => by obtain ⟨rfl, _, _⟩ := q; rw [hs c] at hq; cases hq)]
    exact hF a b c hq
end WX
theorem zfill_ne {f : zM} {k n len a b c : Nat} {v : Int32} (h : ¬ (a = k ∧ b = n ∧ c < len)) : zfill f k n len v a b c = f a b c := by
  unfold zfill; rw [if_neg h]
/-- rows of a kind copied from one world to the other, c of n so far, w items each -/
def zcpd (f g : zM) (k b b' c w n : Nat) : Prop := (∀ i j, i < c → j < w → g k (b + i) j = f k (b' + i) j) ∧ (∀ i j, i < n → j < w → g k (b' + i) j = f k (b' + i) j)
theorem zcpd_0 {f g : zM} {k b b' w n : Nat} (h : ∀ x j, j < w → g k x j = f k x j) : zcpd f g k b b' 0 w n := ⟨fun i j hi => absurd hi (Nat.not_lt_zero i), fun i j _ hj => h _ j hj⟩
theorem zcpd_keep {f g g2 : zM} {k b b' c w n : Nat} (h : zcpd f g k b b' c w n) (e : ∀ x j, j < w → g2 k x j = g k x j) : zcpd f g2 k b b' c w n := ⟨fun i j hi hj => (e _ j hj).trans (h.1 i j hi hj), fun i j hi hj => (e _ j hj).trans (h.2 i j hi hj)⟩
theorem zcpd_s {f g g2 : zM} {k b b' c w n : Nat} (h : zcpd f g k b b' c w n) (hc : c < n) (hd : b + n ≤ b' ∨ b' + n ≤ b) (e1 : ∀ j, j < w → g2 k (b + c) j = g k (b' + c) j) (e2 : ∀ x j, x ≠ b + c → j < w → g2 k x j = g k x j) : zcpd f g2 k b b' (c + 1) w n := by
  refine ⟨fun i j hi hj => ?_, fun i j hi hj => ?_⟩
  · by_cases q : i = c
    · subst q; rw [e1 j hj]; exact h.2 i j hc hj
    · rw [e2 _ j (by omega) hj]; exact h.1 i j (by omega) hj
  · rw [e2 _ j (by omega) hj]; exact h.2 i j hi hj

/-! ===== what DEEDS have learnt of the CRIMES ===== -/
/-- marks are the CRIME of this row -/
abbrev zmt (c : Nat → Int32) (m : Int32) : Prop := m &&& c 1 = c 1 ∧ m &&& c 2 = 0
theorem zmt_congr {c d : Nat → Int32} {m : Int32} (h : ∀ j, j < 6 → c j = d j) : zmt c m ↔ zmt d m := by
  unfold zmt; rw [h 1 (by decide), h 2 (by decide)]

/-- one CRIME more learnt by the DEED i -/
def zln (f m : zM) (i : Nat) (c : Nat → Int32) (num : Int32) : Prop :=
  m 8 i 5 = (if zmt c (f 8 i 0) then f 8 i 5 ||| 1 <<< (num &&& 31) else f 8 i 5) ∧
  m 8 i 6 = (if zmt c (f 8 i 1) then f 8 i 6 ||| 1 <<< (num &&& 31) else f 8 i 6) ∧
  m 8 i 7 = (if zmt c (f 8 i 0) ∧ ¬ c 5 = 0 then f 8 i 7 ||| 1 <<< (c 0 &&& 31) else f 8 i 7) ∧
  (∀ l : Nat, l < 6 → m 9 i l = if zmt c (f 8 i 0) ∧ c 0 = nI l then imax (f 9 i l) (c 4) else f 9 i l) ∧
  (∀ l : Nat, l < 6 → m 10 i l = if zmt c (f 8 i 1) ∧ c 0 = nI l then imax (f 10 i l) (c 4) else f 10 i l)
theorem zix_nI {x : Int32} (h0 : 0 ≤ x.toInt) {l : Nat} (hl : l < 6) : x = nI l ↔ x.toInt.toNat = l := by
  constructor
  · intro h; rw [h, nI_toInt (by omega)]; omega
  · intro h; rw [← h]; exact (nI_ofI h0).1

def zlc (C : Nat → Nat → Int32) (m : Int32) : Nat → Int32
  | 0 => 0
  | k + 1 => if zmt (C k) m then zlc C m k ||| 1 <<< (nI k &&& 31) else zlc C m k
def zdl (C : Nat → Nat → Int32) (m : Int32) : Nat → Int32
  | 0 => 0
  | k + 1 => if zmt (C k) m ∧ ¬ C k 5 = 0 then zdl C m k ||| 1 <<< (C k 0 &&& 31) else zdl C m k
def zly (C : Nat → Nat → Int32) (m : Int32) (l : Nat) : Nat → Int32
  | 0 => 0
  | k + 1 => if zmt (C k) m ∧ C k 0 = nI l then imax (zly C m l k) (C k 4) else zly C m l k
/-- the DEED i has learnt the first k CRIMES -/
def zLk (m : zM) (i : Nat) (C : Nat → Nat → Int32) (k : Nat) : Prop :=
  m 8 i 5 = zlc C (m 8 i 0) k ∧ m 8 i 6 = zlc C (m 8 i 1) k ∧ m 8 i 7 = zdl C (m 8 i 0) k ∧
  (∀ l, l < 6 → m 9 i l = zly C (m 8 i 0) l k) ∧ (∀ l, l < 6 → m 10 i l = zly C (m 8 i 1) l k)
theorem zLk_0 {m : zM} {i : Nat} {C : Nat → Nat → Int32} (h : m 8 i 5 = 0 ∧ m 8 i 6 = 0 ∧ m 8 i 7 = 0 ∧ (∀ l, l < 6 → m 9 i l = 0) ∧ (∀ l, l < 6 → m 10 i l = 0)) : zLk m i C 0 := h
theorem zLk_s {f m : zM} {i : Nat} {C : Nat → Nat → Int32} {k : Nat} (h : zLk f i C k) (hl : zln f m i (C k) (nI k)) (h0 : m 8 i 0 = f 8 i 0) (h1 : m 8 i 1 = f 8 i 1) : zLk m i C (k + 1) := by
  obtain ⟨a1, a2, a3, a4, a5⟩ := h
  obtain ⟨b1, b2, b3, b4, b5⟩ := hl
  refine ⟨?_, ?_, ?_, fun l hl => ?_, fun l hl => ?_⟩
  · rw [b1, h0, zlc, a1]
  · rw [b2, h1, zlc, a2]
  · rw [b3, h0, zdl, a3]
  · rw [b4 l hl, h0, zly, a4 l hl]
  · rw [b5 l hl, h1, zly, a5 l hl]
theorem zLk_k {f m : zM} {i : Nat} {C : Nat → Nat → Int32} {k : Nat} (h : zLk f i C k) (e8 : ∀ j, j = 0 ∨ j = 1 ∨ j = 5 ∨ j = 6 ∨ j = 7 → m 8 i j = f 8 i j) (e9 : ∀ l, l < 6 → m 9 i l = f 9 i l) (e10 : ∀ l, l < 6 → m 10 i l = f 10 i l) : zLk m i C k := by
  obtain ⟨a1, a2, a3, a4, a5⟩ := h
  refine ⟨?_, ?_, ?_, fun l hl => ?_, fun l hl => ?_⟩
  · rw [e8 5 (by decide), e8 0 (by decide)]; exact a1
  · rw [e8 6 (by decide), e8 1 (by decide)]; exact a2
  · rw [e8 7 (by decide), e8 0 (by decide)]; exact a3
  · rw [e9 l hl, e8 0 (by decide)]; exact a4 l hl
  · rw [e10 l hl, e8 1 (by decide)]; exact a5 l hl
theorem zlc_congr {C D : Nat → Nat → Int32} {m : Int32} : ∀ n : Nat, (∀ k j, k < n → j < 6 → C k j = D k j) → zlc C m n = zlc D m n
  | 0, _ => rfl
  | n + 1, h => by
    have e := zmt_congr (m := m) (fun j hj => h n j (by omega) hj)
    rw [zlc, zlc, zlc_congr n (fun k j hk hj => h k j (by omega) hj)]
    by_cases q : zmt (C n) m
    · rw [if_pos q, if_pos (e.mp q)]
    · rw [if_neg q, if_neg (fun z => q (e.mpr z))]
theorem zdl_congr {C D : Nat → Nat → Int32} {m : Int32} : ∀ n : Nat, (∀ k j, k < n → j < 6 → C k j = D k j) → zdl C m n = zdl D m n
  | 0, _ => rfl
  | n + 1, h => by
    have e : (zmt (C n) m ∧ ¬ C n 5 = 0) ↔ (zmt (D n) m ∧ ¬ D n 5 = 0) := by rw [zmt_congr (m := m) (fun j hj => h n j (by omega) hj), h n 5 (by omega) (by decide)]
    rw [zdl, zdl, zdl_congr n (fun k j hk hj => h k j (by omega) hj), h n 0 (by omega) (by decide)]
    by_cases q : zmt (C n) m ∧ ¬ C n 5 = 0
    · rw [if_pos q, if_pos (e.mp q)]
    · rw [if_neg q, if_neg (fun z => q (e.mpr z))]
theorem zly_congr {C D : Nat → Nat → Int32} {m : Int32} {l : Nat} : ∀ n : Nat, (∀ k j, k < n → j < 6 → C k j = D k j) → zly C m l n = zly D m l n
  | 0, _ => rfl
  | n + 1, h => by
    have e : (zmt (C n) m ∧ C n 0 = nI l) ↔ (zmt (D n) m ∧ D n 0 = nI l) := by rw [zmt_congr (m := m) (fun j hj => h n j (by omega) hj), h n 0 (by omega) (by decide)]
    rw [zly, zly, zly_congr n (fun k j hk hj => h k j (by omega) hj), h n 4 (by omega) (by decide)]
    by_cases q : zmt (C n) m ∧ C n 0 = nI l
    · rw [if_pos q, if_pos (e.mp q)]
    · rw [if_neg q, if_neg (fun z => q (e.mpr z))]
theorem zLk_c {m : zM} {i : Nat} {C D : Nat → Nat → Int32} {k : Nat} (h : zLk m i C k) (e : ∀ q j, q < k → j < 6 → C q j = D q j) : zLk m i D k := by
  obtain ⟨a1, a2, a3, a4, a5⟩ := h
  refine ⟨a1.trans (zlc_congr k e), a2.trans (zlc_congr k e), a3.trans (zdl_congr k e), fun l hl => (a4 l hl).trans (zly_congr k e), fun l hl => (a5 l hl).trans (zly_congr k e)⟩
/-- all DEEDS of the world that stands have learnt all its CRIMES -/
def zRl (f : zM) : Prop := ∀ i : Nat, (i : Int) < (f 1 0 6).toInt → zLk f i (fun k j => f 7 k j) (f 1 0 5).toInt.toNat
theorem zRl_k {f m : zM} (h : zRl f) (a : m 1 0 6 = f 1 0 6) (b : m 1 0 5 = f 1 0 5) (hI : zInv f) (c : ∀ x j, x < 24 → j < 6 → m 7 x j = f 7 x j) (e8 : ∀ i j, i < 8 → j = 0 ∨ j = 1 ∨ j = 5 ∨ j = 6 ∨ j = 7 → m 8 i j = f 8 i j) (e9 : ∀ i l, i < 8 → l < 6 → m 9 i l = f 9 i l) (e10 : ∀ i l, i < 8 → l < 6 → m 10 i l = f 10 i l) : zRl m := by
  intro i hi
  rw [a] at hi
  have b6 : (f 1 0 6).toInt ≤ 8 := (hI 1 0 6).2
  have b5 : (f 1 0 5).toInt ≤ 24 := (hI 1 0 5).2
  rw [b]
  exact zLk_c (zLk_k (h i hi) (fun j hj => e8 i j (by omega) hj) (fun l hl => e9 i l (by omega) hl) (fun l hl => e10 i l (by omega) hl)) (fun q j hq hj => (c q j (by omega) hj).symm)
theorem zRl_0 : zRl z0 := fun i hi => by
  rw [show z0 1 0 6 = 0 from rfl] at hi; exact absurd hi (by have : (0 : Int32).toInt = 0 := by decide
                                                             omega)
theorem zRl_add {f g m : zM} (hI : zInv f) (hL : zRl f) (n5 : g 1 0 5 = f 1 0 5) (n6 : g 1 0 6 = f 1 0 6) (r7 : ∀ k j, k < (f 1 0 5).toInt.toNat → j < 6 → g 7 k j = f 7 k j) (r8 : ∀ n j, g 8 n j = f 8 n j) (r9 : ∀ n j, g 9 n j = f 9 n j) (r10 : ∀ n j, g 10 n j = f 10 n j) (ht : ∀ i : Nat, (i : Int) < (g 1 0 6).toInt → zLk g i (fun k j => g 7 k j) (g 1 0 5).toInt.toNat → zLk m i (fun k j => g 7 k j) ((g 1 0 5).toInt.toNat + 1)) (m5 : (m 1 0 5).toInt = (g 1 0 5).toInt + 1) (m6 : m 1 0 6 = g 1 0 6) (m7 : ∀ k j, m 7 k j = g 7 k j) : zRl m := by
  intro i hi
  rw [m6] at hi
  have b5 : 0 ≤ (f 1 0 5).toInt := (hI 1 0 5).1
  have hg : zLk g i (fun k j => g 7 k j) (g 1 0 5).toInt.toNat := by
    rw [n5]
    exact zLk_c (zLk_k (hL i (by rw [← n6]; exact hi)) (fun j _ => r8 i j) (fun l _ => r9 i l) (fun l _ => r10 i l)) (fun q j hq hj => (r7 q j hq hj).symm)
  have hz := ht i hi hg
  rw [show (m 1 0 5).toInt.toNat = (g 1 0 5).toInt.toNat + 1 by rw [n5] at m5 ⊢; omega]
  exact zLk_c hz (fun q j _ _ => (m7 q j).symm)

set_option maxRecDepth 100000 in
set_option maxHeartbeats 4000000 in
theorem x_X0_isMarks (d : Nat) (f : zM) (m0 : Nat) (h0 : m0 < zcnt 7) (a1 : Int32) (b1 : zB a1 0 63) (hI : zInv f) : ZM d yX0_isMarks cX0_isMarks 2 (some .boolean) [zr 7 m0, zi a1] f (fun r g => (∃ v, r = some (zi v) ∧ zB v 0 1) ∧ zInv g ∧ zFr [] f g ∧ (∀ v : Int32, r = some (zi v) → (v = 1 ∧ zmt (f 7 m0) a1) ∨ (v = 0 ∧ ¬ zmt (f 7 m0) a1))) := by
  refine ZM.intro (by decide +kernel) (Nat.le_of_ble_eq_true rfl) ?_
  intro X C hr hn
  have hF : zFr [] f f := zFr.rf _ _
  show Z X 0 [some (zr 7 m0), some (zi a1)] [] f
  refine z_iload_n (pc := 0) C dX0_isMarks_0 rfl ?_
  refine z_aload_n (pc := 1) C dX0_isMarks_1 rfl ?_
  refine z_getI (pc := 2) C zf_X0_13 rfl rfl h0 dX0_isMarks_2 ?_
  refine w_gp (fun v => v = f 7 m0 1) rfl (fun v2 q2 => ?_)
  have b2x : zB v2 0 63 := by rw [q2]; exact (hI 7 m0 1)
  refine z_iand (pc := 5) C dX0_isMarks_5 ?_
  refine w_gp (fun v => v = a1 &&& v2) rfl (fun v3 q3 => ?_)
  have b3x : zB v3 0 63 := by rw [q3]; exact (zand_b b1 b2x (by decide))
  refine z_aload_n (pc := 6) C dX0_isMarks_6 rfl ?_
  refine z_getI (pc := 7) C zf_X0_13 rfl rfl h0 dX0_isMarks_7 ?_
  refine w_gp (fun v => v = f 7 m0 1) rfl (fun v5 q5 => ?_)
  have b5x : zB v5 0 63 := by rw [q5]; exact (hI 7 m0 1)
  refine z_icmp_ne (pc := 10) 26 C dX0_isMarks_10 (by decide) (fun h10_5 => ?_) (fun h10_5 => ?_)
  · skip
    refine z_iconst (pc := 26) (v := 0) C dX0_isMarks_26 (by decide) ?_
    exact z_zret (pc := 27) C hr (z01 (zB.wk (a' := 0) (b' := 1) (zB.of (x := 0) 0 (by decide)) (by decide) (by decide))) dX0_isMarks_27 ⟨⟨_, rfl, (zB.wk (a' := 0) (b' := 1) (zB.of (x := 0) 0 (by decide)) (by decide) (by decide))⟩, hI, hF, (by intro v hv; cases hv; exact Or.inr ⟨rfl, fun h => absurd (show v3 = v5 by rw [q3, q2, q5]; exact h.1) (by assumption)⟩)⟩
  · skip
    refine z_iload_n (pc := 13) C dX0_isMarks_13 rfl ?_
    refine z_aload_n (pc := 14) C dX0_isMarks_14 rfl ?_
    refine z_getI (pc := 15) C zf_X0_16 rfl rfl h0 dX0_isMarks_15 ?_
    refine w_gp (fun v => v = f 7 m0 2) rfl (fun v8 q8 => ?_)
    have b8x : zB v8 0 63 := by rw [q8]; exact (hI 7 m0 2)
    refine z_iand (pc := 18) C dX0_isMarks_18 ?_
    refine w_gp (fun v => v = a1 &&& v8) rfl (fun v9 q9 => ?_)
    have b9x : zB v9 0 63 := by rw [q9]; exact (zand_b b1 b8x (by decide))
    refine z_if_ne (pc := 19) 26 C dX0_isMarks_19 (by decide) (fun h19_9 => ?_) (fun h19_9 => ?_)
    · skip
      have b11x : zB v9 1 63 := by have q1 := b9x; have q2 := (zB.of (x := 0) 0 (by decide)); simp only [z32lt, z32le, z32eq, Int32.reduceToInt, Int32.toInt_zero] at h19_9; constructor <;> omega
      refine z_iconst (pc := 26) (v := 0) C dX0_isMarks_26 (by decide) ?_
      exact z_zret (pc := 27) C hr (z01 (zB.wk (a' := 0) (b' := 1) (zB.of (x := 0) 0 (by decide)) (by decide) (by decide))) dX0_isMarks_27 ⟨⟨_, rfl, (zB.wk (a' := 0) (b' := 1) (zB.of (x := 0) 0 (by decide)) (by decide) (by decide))⟩, hI, hF, (by
                                                                                          intro v hv; cases hv
                                                                                          have e : v3 = v5 := by assumption
                                                                                          rw [q3, q2, q5] at e
                                                                                          first
                                                                                            | (refine Or.inl ⟨rfl, e, ?_⟩; have e2 : v9 = 0 := by assumption
                                                                                               rw [q9, q8] at e2; exact e2)
                                                                                            | exact Or.inr ⟨rfl, fun h => absurd (show v9 = 0 by rw [q9, q8]; exact h.2) (by assumption)⟩)⟩
    · skip
      have b12x : zB v9 0 0 := by have q1 := b9x; have q2 := (zB.of (x := 0) 0 (by decide)); simp only [z32lt, z32le, z32eq, Int32.reduceToInt, Int32.toInt_zero] at h19_9; constructor <;> omega
      refine z_iconst (pc := 22) (v := 1) C dX0_isMarks_22 (by decide) ?_
      refine z_goto (pc := 23) 27 C dX0_isMarks_23 (by decide) ?_
      exact z_zret (pc := 27) C hr (z01 (zB.wk (a' := 0) (b' := 1) (zB.of (x := 1) 1 (by decide)) (by decide) (by decide))) dX0_isMarks_27 ⟨⟨_, rfl, (zB.wk (a' := 0) (b' := 1) (zB.of (x := 1) 1 (by decide)) (by decide) (by decide))⟩, hI, hF, (by
                                                                                          intro v hv; cases hv
                                                                                          have e : v3 = v5 := by assumption
                                                                                          rw [q3, q2, q5] at e
                                                                                          first
                                                                                            | (refine Or.inl ⟨rfl, e, ?_⟩; have e2 : v9 = 0 := by assumption
                                                                                               rw [q9, q8] at e2; exact e2)
                                                                                            | exact Or.inr ⟨rfl, fun h => absurd (show v9 = 0 by rw [q9, q8]; exact h.2) (by assumption)⟩)⟩

set_option maxRecDepth 100000 in
set_option maxHeartbeats 4000000 in
theorem x_X1_learn (d : Nat) (f : zM) (m0 : Nat) (h0 : m0 < zcnt 8) (a1 : Int32) (b1 : zB a1 0 23) (m2 : Nat) (h2 : m2 < zcnt 7) (hI : zInv f) : ZM (d + 1) yX1_learn cX1_learn 4 none [zr 8 m0, zi a1, zr 7 m2] f (fun r g => r = none ∧ zInv g ∧ zFr [(8, some 5), (8, some 6), (8, some 7), (9, none), (10, none)] f g ∧ (zln f g m0 (f 7 m2) a1) ∧ ((∀ n j, n ≠ m0 → g 8 n j = f 8 n j) ∧ (∀ n j, n ≠ m0 → g 9 n j = f 9 n j) ∧ (∀ n j, n ≠ m0 → g 10 n j = f 10 n j))) := by
  refine ZM.intro (by decide +kernel) (Nat.le_of_ble_eq_true rfl) ?_
  intro X C hr hn
  have hF : zFr [(8, some 5), (8, some 6), (8, some 7), (9, none), (10, none)] f f := zFr.rf _ _
  show Z X 0 [some (zr 8 m0), some (zi a1), some (zr 7 m2), none] [] f
  refine z_aload_n (pc := 0) C dX1_learn_0 rfl ?_
  refine z_getI (pc := 1) C zf_X1_54 rfl rfl h2 dX1_learn_1 ?_
  refine w_gp (fun v => v = f 7 m2 0) rfl (fun v2 q2 => ?_)
  have b2x : zB v2 0 5 := by rw [q2]; exact (hI 7 m2 0)
  refine z_istore_n (pc := 4) C dX1_learn_4 (by rw [hn]; decide) rfl ?_
  refine z_aload_n (pc := 5) C dX1_learn_5 rfl ?_
  refine z_aload_n (pc := 6) C dX1_learn_6 rfl ?_
  refine z_getI (pc := 7) C zf_X1_18 rfl rfl h0 dX1_learn_7 ?_
  refine w_gp (fun v => v = f 8 m0 0) rfl (fun v4 q4 => ?_)
  have b4x : zB v4 0 63 := by rw [q4]; exact (hI 8 m0 0)
  refine z_callV (pc := 10) C zk_X1_57 (x_X0_isMarks _ _ m2 h2 v4 b4x hI) rfl rfl h2 rfl rfl (Nat.le_of_ble_eq_true rfl) dX1_learn_10 (fun r5 g5 q5 => ?_)
  obtain ⟨⟨v5, rfl, b5x⟩, hI5, hF5q, hp5_0⟩ := q5
  have hp5_0 := hp5_0 _ rfl
  obtain rfl := zFr_nil hF5q
  simp only [Option.toList, List.cons_append, List.nil_append]
  refine z_if_eq (pc := 13) 70 C dX1_learn_13 (by decide) (fun h13_5 => ?_) (fun h13_5 => ?_)
  · skip
    have b7x : zB v5 0 0 := by have q1 := b5x; have q2 := (zB.of (x := 0) 0 (by decide)); simp only [z32lt, z32le, z32eq, Int32.reduceToInt, Int32.toInt_zero] at h13_5; constructor <;> omega
    refine z_aload_n (pc := 70) C dX1_learn_70 rfl ?_
    refine z_aload_n (pc := 71) C dX1_learn_71 rfl ?_
    refine z_getI (pc := 72) C zf_X1_22 rfl rfl h0 dX1_learn_72 ?_
    refine w_gp (fun v => v = f 8 m0 1) rfl (fun v9 q9 => ?_)
    have b9x : zB v9 0 63 := by rw [q9]; exact (hI 8 m0 1)
    refine z_callV (pc := 75) C zk_X1_57 (x_X0_isMarks _ _ m2 h2 v9 b9x hI) rfl rfl h2 rfl rfl (Nat.le_of_ble_eq_true rfl) dX1_learn_75 (fun r10 g10 q10 => ?_)
    obtain ⟨⟨v10, rfl, b10x⟩, hI10, hF10q, hp10_0⟩ := q10
    have hp10_0 := hp10_0 _ rfl
    obtain rfl := zFr_nil hF10q
    simp only [Option.toList, List.cons_append, List.nil_append]
    refine z_if_eq (pc := 78) 112 C dX1_learn_78 (by decide) (fun h78_10 => ?_) (fun h78_10 => ?_)
    · skip
      have b12x : zB v10 0 0 := by have q1 := b10x; have q2 := (zB.of (x := 0) 0 (by decide)); simp only [z32lt, z32le, z32eq, Int32.reduceToInt, Int32.toInt_zero] at h78_10; constructor <;> omega
      exact z_vret (pc := 112) C hr dX1_learn_112 ⟨rfl, hI, hF, (by
                                                                                          have zqc := q2
                                                                                          have zq7 := q4
                                                                                          have hA := hp5_0
                                                                                          rw [zq7] at hA
                                                                                          have e7 : f 7 m2 = f 7 m2 := funext (fun j => by rfl)
                                                                                          have zq72 : v9 = f 8 m0 1 := by rw [q9]
                                                                                          have hB := hp10_0
                                                                                          rw [zq72, e7] at hB
                                                                                          have c0 : (0 : Int32).toInt = 0 := by decide
                                                                                          have c1 : (1 : Int32).toInt = 1 := by decide
                                                                                          have b0 : 0 ≤ (f 7 m2 0).toInt := (hI 7 m2 0).1
                                                                                          have hA : ¬ zmt (f 7 m2) (f 8 m0 0) := by
                                                                                            rcases hA with ⟨x, y⟩ | ⟨x, y⟩
                                                                                            · first | exact y | (exfalso; rw [z32eq] at x; omega)
                                                                                            · first | exact y | (exfalso; rw [z32eq] at x; omega)
                                                                                          have hB : ¬ zmt (f 7 m2) (f 8 m0 1) := by
                                                                                            rcases hB with ⟨x, y⟩ | ⟨x, y⟩
                                                                                            · first | exact y | (exfalso; rw [z32eq] at x; omega)
                                                                                            · first | exact y | (exfalso; rw [z32eq] at x; omega)
                                                                                          refine ⟨?_, ?_, ?_, fun l hl => ?_, fun l hl => ?_⟩
                                                                                          · rw [if_neg hA]
                                                                                          · rw [if_neg hB]
                                                                                          · rw [if_neg (fun h => hA h.1)]
                                                                                          · rw [if_neg (fun h => hA h.1)]
                                                                                          · rw [if_neg (fun h => hB h.1)]), (by
                                                                                          refine ⟨fun n j hn => ?_, fun n j hn => ?_, fun n j hn => ?_⟩
                                                                                          · rfl
                                                                                          · rfl
                                                                                          · rfl)⟩
    · skip
      have b13x : zB v10 1 1 := by have q1 := b10x; have q2 := (zB.of (x := 0) 0 (by decide)); simp only [z32lt, z32le, z32eq, Int32.reduceToInt, Int32.toInt_zero] at h78_10; constructor <;> omega
      refine z_aload_n (pc := 81) C dX1_learn_81 rfl ?_
      refine z_dupr (pc := 82) C dX1_learn_82 ?_
      refine z_getI (pc := 83) C zf_X1_42 rfl rfl h0 dX1_learn_83 ?_
      refine w_gp (fun v => v = f 8 m0 6) rfl (fun v15 q15 => ?_)
      have b15x : zB v15 0 16777215 := by rw [q15]; exact (hI 8 m0 6)
      refine z_iconst (pc := 86) (v := 1) C dX1_learn_86 (by decide) ?_
      refine z_iload_n (pc := 87) C dX1_learn_87 rfl ?_
      refine z_ishl (pc := 88) C dX1_learn_88 ?_
      refine w_gp (fun v => v = (1 : Int32) <<< (a1 &&& 31)) rfl (fun v16 q16 => ?_)
      have b16x : zB v16 0 8388608 := by rw [q16]; exact (zshl_b b1 23 (by decide) (by decide))
      refine z_ior (pc := 89) C dX1_learn_89 ?_
      refine w_gp (fun v => v = v15 ||| v16) rfl (fun v17 q17 => ?_)
      have b17x : zB v17 0 16777215 := by rw [q17]; exact (zor_b 24 b15x b16x (by decide) (by decide) (by decide) (by decide) (by decide))
      refine z_putI (pc := 90) C zf_X1_42 zp_1_6 rfl rfl h0 dX1_learn_90 ?_
      refine w_memy hI hF b17x rfl (fun g18 qm18 hI18 hF18 => ?_)
      refine z_aload_n (pc := 93) C dX1_learn_93 rfl ?_
      refine z_getR (pc := 94) C zf_X1_15 rfl rfl h0 dX1_learn_94 ?_
      refine z_iload_n (pc := 97) C dX1_learn_97 rfl ?_
      refine z_aload_n (pc := 98) C dX1_learn_98 rfl ?_
      refine z_getR (pc := 99) C zf_X1_15 rfl rfl h0 dX1_learn_99 ?_
      refine z_iload_n (pc := 102) C dX1_learn_102 rfl ?_
      refine z_iald (pc := 103) C rfl h0 (zIx b2x (by decide) (by decide)) dX1_learn_103 ?_
      have kq103_18 : v2.toNatClampNeg = v2.toInt.toNat := rfl
      refine w_gp (fun v => v = g18 10 m0 v2.toNatClampNeg) rfl (fun v19 q19 => ?_)
      have b19x : zB v19 0 40 := by rw [q19]; exact (hI18 10 m0 v2.toNatClampNeg)
      refine z_aload_n (pc := 104) C dX1_learn_104 rfl ?_
      refine z_getI (pc := 105) C zf_X1_61 rfl rfl h2 dX1_learn_105 ?_
      refine w_gp (fun v => v = g18 7 m2 4) rfl (fun v21 q21 => ?_)
      have b21x : zB v21 0 40 := by rw [q21]; exact (hI18 7 m2 4)
      refine z_mmax (pc := 108) C zk_X1_64 (Nat.le_of_ble_eq_true rfl) dX1_learn_108 ?_
      refine w_gp (fun v => v = imax v19 v21) rfl (fun v22 q22 => ?_)
      have b22x : zB v22 0 40 := by rw [q22]; exact (by have q9 := zmax_b b19x b21x; constructor <;> omega)
      have kw111_22 : v2.toNatClampNeg = v2.toInt.toNat := rfl
      refine z_iast (pc := 111) C rfl h0 (zIx b2x (by decide) (by decide)) dX1_learn_111 ?_
      refine w_memy hI18 hF18 b22x rfl (fun g23 qm23 hI23 hF23 => ?_)
      exact z_vret (pc := 112) C hr dX1_learn_112 ⟨rfl, hI23, hF23, (by
                                                                                          have zqc := q2
                                                                                          have zq7 := q4
                                                                                          have hA := hp5_0
                                                                                          rw [zq7] at hA
                                                                                          have e7 : f 7 m2 = f 7 m2 := funext (fun j => by rfl)
                                                                                          have zq72 : v9 = f 8 m0 1 := by rw [q9]
                                                                                          have hB := hp10_0
                                                                                          rw [zq72, e7] at hB
                                                                                          have c0 : (0 : Int32).toInt = 0 := by decide
                                                                                          have c1 : (1 : Int32).toInt = 1 := by decide
                                                                                          have b0 : 0 ≤ (f 7 m2 0).toInt := (hI 7 m2 0).1
                                                                                          have hA : ¬ zmt (f 7 m2) (f 8 m0 0) := by
                                                                                            rcases hA with ⟨x, y⟩ | ⟨x, y⟩
                                                                                            · first | exact y | (exfalso; rw [z32eq] at x; omega)
                                                                                            · first | exact y | (exfalso; rw [z32eq] at x; omega)
                                                                                          have hB : zmt (f 7 m2) (f 8 m0 1) := by
                                                                                            rcases hB with ⟨x, y⟩ | ⟨x, y⟩
                                                                                            · first | exact y | (exfalso; rw [z32eq] at x; omega)
                                                                                            · first | exact y | (exfalso; rw [z32eq] at x; omega)
                                                                                          refine ⟨?_, ?_, ?_, fun l hl => ?_, fun l hl => ?_⟩
                                                                                          · rw [if_neg hA, qm23, zup_ne _ _ (by omega), qm18, zup_ne _ _ (by omega)]
                                                                                          · have zq83 : v15 = f 8 m0 6 := by rw [q15]
                                                                                            rw [if_pos hB, qm23, zup_ne _ _ (by omega), qm18, zup_same, q17, q16, zq83]
                                                                                          · rw [if_neg (fun h => hA h.1), qm23, zup_ne _ _ (by omega), qm18, zup_ne _ _ (by omega)]
                                                                                          · rw [if_neg (fun h => hA h.1), qm23, zup_ne _ _ (by omega), qm18, zup_ne _ _ (by omega)]
                                                                                          · have qi : (v2).toNatClampNeg = (f 7 m2 0).toInt.toNat := by rw [zqc]; rfl
                                                                                            have qr : v19 = f 10 m0 (f 7 m2 0).toInt.toNat := by rw [q19, qi, qm18, zup_ne _ _ (by omega)]
                                                                                            have qm : v21 = f 7 m2 4 := by rw [q21, qm18, zup_ne _ _ (by omega)]
                                                                                            by_cases e : f 7 m2 0 = nI l
                                                                                            · have el := (zix_nI b0 hl).mp e
                                                                                              rw [if_pos ⟨hB, e⟩, qm23, qi, el, zup_same, q22, qr, qm, el]
                                                                                            · have el : ¬ (f 7 m2 0).toInt.toNat = l := fun h => e ((zix_nI b0 hl).mpr h)
                                                                                              rw [if_neg (fun h => e h.2), qm23, qi, zup_ne _ _ (by omega), qm18, zup_ne _ _ (by omega)]), (by
                                                                                          refine ⟨fun n j hn => ?_, fun n j hn => ?_, fun n j hn => ?_⟩
                                                                                          · rw [qm23, zup_ne _ _ (by omega), qm18, zup_ne _ _ (by omega)]
                                                                                          · rw [qm23, zup_ne _ _ (by omega), qm18, zup_ne _ _ (by omega)]
                                                                                          · rw [qm23, zup_ne _ _ (by omega), qm18, zup_ne _ _ (by omega)])⟩
  · skip
    have b24x : zB v5 1 1 := by have q1 := b5x; have q2 := (zB.of (x := 0) 0 (by decide)); simp only [z32lt, z32le, z32eq, Int32.reduceToInt, Int32.toInt_zero] at h13_5; constructor <;> omega
    refine z_aload_n (pc := 16) C dX1_learn_16 rfl ?_
    refine z_dupr (pc := 17) C dX1_learn_17 ?_
    refine z_getI (pc := 18) C zf_X1_39 rfl rfl h0 dX1_learn_18 ?_
    refine w_gp (fun v => v = f 8 m0 5) rfl (fun v26 q26 => ?_)
    have b26x : zB v26 0 16777215 := by rw [q26]; exact (hI 8 m0 5)
    refine z_iconst (pc := 21) (v := 1) C dX1_learn_21 (by decide) ?_
    refine z_iload_n (pc := 22) C dX1_learn_22 rfl ?_
    refine z_ishl (pc := 23) C dX1_learn_23 ?_
    refine w_gp (fun v => v = (1 : Int32) <<< (a1 &&& 31)) rfl (fun v27 q27 => ?_)
    have b27x : zB v27 0 8388608 := by rw [q27]; exact (zshl_b b1 23 (by decide) (by decide))
    refine z_ior (pc := 24) C dX1_learn_24 ?_
    refine w_gp (fun v => v = v26 ||| v27) rfl (fun v28 q28 => ?_)
    have b28x : zB v28 0 16777215 := by rw [q28]; exact (zor_b 24 b26x b27x (by decide) (by decide) (by decide) (by decide) (by decide))
    refine z_putI (pc := 25) C zf_X1_39 zp_1_5 rfl rfl h0 dX1_learn_25 ?_
    refine w_memy hI hF b28x rfl (fun g29 qm29 hI29 hF29 => ?_)
    refine z_aload_n (pc := 28) C dX1_learn_28 rfl ?_
    refine z_getR (pc := 29) C zf_X1_9 rfl rfl h0 dX1_learn_29 ?_
    refine z_iload_n (pc := 32) C dX1_learn_32 rfl ?_
    refine z_aload_n (pc := 33) C dX1_learn_33 rfl ?_
    refine z_getR (pc := 34) C zf_X1_9 rfl rfl h0 dX1_learn_34 ?_
    refine z_iload_n (pc := 37) C dX1_learn_37 rfl ?_
    refine z_iald (pc := 38) C rfl h0 (zIx b2x (by decide) (by decide)) dX1_learn_38 ?_
    have kq38_29 : v2.toNatClampNeg = v2.toInt.toNat := rfl
    refine w_gp (fun v => v = g29 9 m0 v2.toNatClampNeg) rfl (fun v30 q30 => ?_)
    have b30x : zB v30 0 40 := by rw [q30]; exact (hI29 9 m0 v2.toNatClampNeg)
    refine z_aload_n (pc := 39) C dX1_learn_39 rfl ?_
    refine z_getI (pc := 40) C zf_X1_61 rfl rfl h2 dX1_learn_40 ?_
    refine w_gp (fun v => v = g29 7 m2 4) rfl (fun v32 q32 => ?_)
    have b32x : zB v32 0 40 := by rw [q32]; exact (hI29 7 m2 4)
    refine z_mmax (pc := 43) C zk_X1_64 (Nat.le_of_ble_eq_true rfl) dX1_learn_43 ?_
    refine w_gp (fun v => v = imax v30 v32) rfl (fun v33 q33 => ?_)
    have b33x : zB v33 0 40 := by rw [q33]; exact (by have q9 := zmax_b b30x b32x; constructor <;> omega)
    have kw46_33 : v2.toNatClampNeg = v2.toInt.toNat := rfl
    refine z_iast (pc := 46) C rfl h0 (zIx b2x (by decide) (by decide)) dX1_learn_46 ?_
    refine w_memy hI29 hF29 b33x rfl (fun g34 qm34 hI34 hF34 => ?_)
    refine z_aload_n (pc := 47) C dX1_learn_47 rfl ?_
    refine z_dupr (pc := 48) C dX1_learn_48 ?_
    refine z_getI (pc := 49) C zf_X1_45 rfl rfl h0 dX1_learn_49 ?_
    refine w_gp (fun v => v = g34 8 m0 7) rfl (fun v36 q36 => ?_)
    have b36x : zB v36 0 63 := by rw [q36]; exact (hI34 8 m0 7)
    refine z_aload_n (pc := 52) C dX1_learn_52 rfl ?_
    refine z_getI (pc := 53) C zf_X1_70 rfl rfl h2 dX1_learn_53 ?_
    refine w_gp (fun v => v = g34 7 m2 5) rfl (fun v38 q38 => ?_)
    have b38x : zB v38 0 1 := by rw [q38]; exact (hI34 7 m2 5)
    refine z_if_eq (pc := 56) 65 C dX1_learn_56 (by decide) (fun h56_38 => ?_) (fun h56_38 => ?_)
    · skip
      have b40x : zB v38 0 0 := by have q1 := b38x; have q2 := (zB.of (x := 0) 0 (by decide)); simp only [z32lt, z32le, z32eq, Int32.reduceToInt, Int32.toInt_zero] at h56_38; constructor <;> omega
      refine z_iconst (pc := 65) (v := 0) C dX1_learn_65 (by decide) ?_
      refine z_ior (pc := 66) C dX1_learn_66 ?_
      refine w_gp (fun v => v = v36 ||| (0 : Int32)) rfl (fun v41 q41 => ?_)
      have b41x : zB v41 0 63 := by rw [q41]; exact (zor_b 6 b36x (zB.of (x := 0) 0 (by decide)) (by decide) (by decide) (by decide) (by decide) (by decide))
      refine z_putI (pc := 67) C zf_X1_45 zp_1_7 rfl rfl h0 dX1_learn_67 ?_
      refine w_memy hI34 hF34 b41x rfl (fun g42 qm42 hI42 hF42 => ?_)
      refine z_aload_n (pc := 70) C dX1_learn_70 rfl ?_
      refine z_aload_n (pc := 71) C dX1_learn_71 rfl ?_
      refine z_getI (pc := 72) C zf_X1_22 rfl rfl h0 dX1_learn_72 ?_
      refine w_gp (fun v => v = g42 8 m0 1) rfl (fun v44 q44 => ?_)
      have b44x : zB v44 0 63 := by rw [q44]; exact (hI42 8 m0 1)
      refine z_callV (pc := 75) C zk_X1_57 (x_X0_isMarks _ _ m2 h2 v44 b44x hI42) rfl rfl h2 rfl rfl (Nat.le_of_ble_eq_true rfl) dX1_learn_75 (fun r45 g45 q45 => ?_)
      obtain ⟨⟨v45, rfl, b45x⟩, hI45, hF45q, hp45_0⟩ := q45
      have hp45_0 := hp45_0 _ rfl
      obtain rfl := zFr_nil hF45q
      simp only [Option.toList, List.cons_append, List.nil_append]
      refine z_if_eq (pc := 78) 112 C dX1_learn_78 (by decide) (fun h78_45 => ?_) (fun h78_45 => ?_)
      · skip
        have b47x : zB v45 0 0 := by have q1 := b45x; have q2 := (zB.of (x := 0) 0 (by decide)); simp only [z32lt, z32le, z32eq, Int32.reduceToInt, Int32.toInt_zero] at h78_45; constructor <;> omega
        exact z_vret (pc := 112) C hr dX1_learn_112 ⟨rfl, hI42, hF42, (by
                                                                                          have zqc := q2
                                                                                          have zq7 := q4
                                                                                          have hA := hp5_0
                                                                                          rw [zq7] at hA
                                                                                          have e7 : g42 7 m2 = f 7 m2 := funext (fun j => by rw [qm42, zup_ne _ _ (by omega), qm34, zup_ne _ _ (by omega), qm29, zup_ne _ _ (by omega)])
                                                                                          have zq72 : v44 = f 8 m0 1 := by rw [q44, qm42, zup_ne _ _ (by omega), qm34, zup_ne _ _ (by omega), qm29, zup_ne _ _ (by omega)]
                                                                                          have hB := hp45_0
                                                                                          rw [zq72, e7] at hB
                                                                                          have c0 : (0 : Int32).toInt = 0 := by decide
                                                                                          have c1 : (1 : Int32).toInt = 1 := by decide
                                                                                          have b0 : 0 ≤ (f 7 m2 0).toInt := (hI 7 m2 0).1
                                                                                          have hA : zmt (f 7 m2) (f 8 m0 0) := by
                                                                                            rcases hA with ⟨x, y⟩ | ⟨x, y⟩
                                                                                            · first | exact y | (exfalso; rw [z32eq] at x; omega)
                                                                                            · first | exact y | (exfalso; rw [z32eq] at x; omega)
                                                                                          have hB : ¬ zmt (f 7 m2) (f 8 m0 1) := by
                                                                                            rcases hB with ⟨x, y⟩ | ⟨x, y⟩
                                                                                            · first | exact y | (exfalso; rw [z32eq] at x; omega)
                                                                                            · first | exact y | (exfalso; rw [z32eq] at x; omega)
                                                                                          refine ⟨?_, ?_, ?_, fun l hl => ?_, fun l hl => ?_⟩
                                                                                          · rw [if_pos hA, qm42, zup_ne _ _ (by omega), qm34, zup_ne _ _ (by omega), qm29, zup_same, q28, q27, q26]
                                                                                          · rw [if_neg hB, qm42, zup_ne _ _ (by omega), qm34, zup_ne _ _ (by omega), qm29, zup_ne _ _ (by omega)]
                                                                                          · have zq49 : v36 = f 8 m0 7 := by rw [q36, qm34, zup_ne _ _ (by omega), qm29, zup_ne _ _ (by omega)]
                                                                                            have zq53 : v38 = f 7 m2 5 := by rw [q38, qm34, zup_ne _ _ (by omega), qm29, zup_ne _ _ (by omega)]
                                                                                            have hd : f 7 m2 5 = 0 := by rw [← zq53]; assumption
                                                                                            rw [if_neg (fun h => h.2 hd), qm42, zup_same, q41, zq49]
                                                                                            exact Int32.or_zero
                                                                                          · have qi : (v2).toNatClampNeg = (f 7 m2 0).toInt.toNat := by rw [zqc]; rfl
                                                                                            have qr : v30 = f 9 m0 (f 7 m2 0).toInt.toNat := by rw [q30, qi, qm29, zup_ne _ _ (by omega)]
                                                                                            have qm : v32 = f 7 m2 4 := by rw [q32, qm29, zup_ne _ _ (by omega)]
                                                                                            by_cases e : f 7 m2 0 = nI l
                                                                                            · have el := (zix_nI b0 hl).mp e
                                                                                              rw [if_pos ⟨hA, e⟩, qm42, zup_ne _ _ (by omega), qm34, qi, el, zup_same, q33, qr, qm, el]
                                                                                            · have el : ¬ (f 7 m2 0).toInt.toNat = l := fun h => e ((zix_nI b0 hl).mpr h)
                                                                                              rw [if_neg (fun h => e h.2), qm42, zup_ne _ _ (by omega), qm34, qi, zup_ne _ _ (by omega), qm29, zup_ne _ _ (by omega)]
                                                                                          · rw [if_neg (fun h => hB h.1), qm42, zup_ne _ _ (by omega), qm34, zup_ne _ _ (by omega), qm29, zup_ne _ _ (by omega)]), (by
                                                                                          refine ⟨fun n j hn => ?_, fun n j hn => ?_, fun n j hn => ?_⟩
                                                                                          · rw [qm42, zup_ne _ _ (by omega), qm34, zup_ne _ _ (by omega), qm29, zup_ne _ _ (by omega)]
                                                                                          · rw [qm42, zup_ne _ _ (by omega), qm34, zup_ne _ _ (by omega), qm29, zup_ne _ _ (by omega)]
                                                                                          · rw [qm42, zup_ne _ _ (by omega), qm34, zup_ne _ _ (by omega), qm29, zup_ne _ _ (by omega)])⟩
      · skip
        have b48x : zB v45 1 1 := by have q1 := b45x; have q2 := (zB.of (x := 0) 0 (by decide)); simp only [z32lt, z32le, z32eq, Int32.reduceToInt, Int32.toInt_zero] at h78_45; constructor <;> omega
        refine z_aload_n (pc := 81) C dX1_learn_81 rfl ?_
        refine z_dupr (pc := 82) C dX1_learn_82 ?_
        refine z_getI (pc := 83) C zf_X1_42 rfl rfl h0 dX1_learn_83 ?_
        refine w_gp (fun v => v = g42 8 m0 6) rfl (fun v50 q50 => ?_)
        have b50x : zB v50 0 16777215 := by rw [q50]; exact (hI42 8 m0 6)
        refine z_iconst (pc := 86) (v := 1) C dX1_learn_86 (by decide) ?_
        refine z_iload_n (pc := 87) C dX1_learn_87 rfl ?_
        refine z_ishl (pc := 88) C dX1_learn_88 ?_
        refine w_gp (fun v => v = (1 : Int32) <<< (a1 &&& 31)) rfl (fun v51 q51 => ?_)
        have b51x : zB v51 0 8388608 := by rw [q51]; exact (zshl_b b1 23 (by decide) (by decide))
        refine z_ior (pc := 89) C dX1_learn_89 ?_
        refine w_gp (fun v => v = v50 ||| v51) rfl (fun v52 q52 => ?_)
        have b52x : zB v52 0 16777215 := by rw [q52]; exact (zor_b 24 b50x b51x (by decide) (by decide) (by decide) (by decide) (by decide))
        refine z_putI (pc := 90) C zf_X1_42 zp_1_6 rfl rfl h0 dX1_learn_90 ?_
        refine w_memy hI42 hF42 b52x rfl (fun g53 qm53 hI53 hF53 => ?_)
        refine z_aload_n (pc := 93) C dX1_learn_93 rfl ?_
        refine z_getR (pc := 94) C zf_X1_15 rfl rfl h0 dX1_learn_94 ?_
        refine z_iload_n (pc := 97) C dX1_learn_97 rfl ?_
        refine z_aload_n (pc := 98) C dX1_learn_98 rfl ?_
        refine z_getR (pc := 99) C zf_X1_15 rfl rfl h0 dX1_learn_99 ?_
        refine z_iload_n (pc := 102) C dX1_learn_102 rfl ?_
        refine z_iald (pc := 103) C rfl h0 (zIx b2x (by decide) (by decide)) dX1_learn_103 ?_
        have kq103_53 : v2.toNatClampNeg = v2.toInt.toNat := rfl
        refine w_gp (fun v => v = g53 10 m0 v2.toNatClampNeg) rfl (fun v54 q54 => ?_)
        have b54x : zB v54 0 40 := by rw [q54]; exact (hI53 10 m0 v2.toNatClampNeg)
        refine z_aload_n (pc := 104) C dX1_learn_104 rfl ?_
        refine z_getI (pc := 105) C zf_X1_61 rfl rfl h2 dX1_learn_105 ?_
        refine w_gp (fun v => v = g53 7 m2 4) rfl (fun v56 q56 => ?_)
        have b56x : zB v56 0 40 := by rw [q56]; exact (hI53 7 m2 4)
        refine z_mmax (pc := 108) C zk_X1_64 (Nat.le_of_ble_eq_true rfl) dX1_learn_108 ?_
        refine w_gp (fun v => v = imax v54 v56) rfl (fun v57 q57 => ?_)
        have b57x : zB v57 0 40 := by rw [q57]; exact (by have q9 := zmax_b b54x b56x; constructor <;> omega)
        have kw111_57 : v2.toNatClampNeg = v2.toInt.toNat := rfl
        refine z_iast (pc := 111) C rfl h0 (zIx b2x (by decide) (by decide)) dX1_learn_111 ?_
        refine w_memy hI53 hF53 b57x rfl (fun g58 qm58 hI58 hF58 => ?_)
        exact z_vret (pc := 112) C hr dX1_learn_112 ⟨rfl, hI58, hF58, (by
                                                                                          have zqc := q2
                                                                                          have zq7 := q4
                                                                                          have hA := hp5_0
                                                                                          rw [zq7] at hA
                                                                                          have e7 : g42 7 m2 = f 7 m2 := funext (fun j => by rw [qm42, zup_ne _ _ (by omega), qm34, zup_ne _ _ (by omega), qm29, zup_ne _ _ (by omega)])
                                                                                          have zq72 : v44 = f 8 m0 1 := by rw [q44, qm42, zup_ne _ _ (by omega), qm34, zup_ne _ _ (by omega), qm29, zup_ne _ _ (by omega)]
                                                                                          have hB := hp45_0
                                                                                          rw [zq72, e7] at hB
                                                                                          have c0 : (0 : Int32).toInt = 0 := by decide
                                                                                          have c1 : (1 : Int32).toInt = 1 := by decide
                                                                                          have b0 : 0 ≤ (f 7 m2 0).toInt := (hI 7 m2 0).1
                                                                                          have hA : zmt (f 7 m2) (f 8 m0 0) := by
                                                                                            rcases hA with ⟨x, y⟩ | ⟨x, y⟩
                                                                                            · first | exact y | (exfalso; rw [z32eq] at x; omega)
                                                                                            · first | exact y | (exfalso; rw [z32eq] at x; omega)
                                                                                          have hB : zmt (f 7 m2) (f 8 m0 1) := by
                                                                                            rcases hB with ⟨x, y⟩ | ⟨x, y⟩
                                                                                            · first | exact y | (exfalso; rw [z32eq] at x; omega)
                                                                                            · first | exact y | (exfalso; rw [z32eq] at x; omega)
                                                                                          refine ⟨?_, ?_, ?_, fun l hl => ?_, fun l hl => ?_⟩
                                                                                          · rw [if_pos hA, qm58, zup_ne _ _ (by omega), qm53, zup_ne _ _ (by omega), qm42, zup_ne _ _ (by omega), qm34, zup_ne _ _ (by omega), qm29, zup_same, q28, q27, q26]
                                                                                          · have zq83 : v50 = f 8 m0 6 := by rw [q50, qm42, zup_ne _ _ (by omega), qm34, zup_ne _ _ (by omega), qm29, zup_ne _ _ (by omega)]
                                                                                            rw [if_pos hB, qm58, zup_ne _ _ (by omega), qm53, zup_same, q52, q51, zq83]
                                                                                          · have zq49 : v36 = f 8 m0 7 := by rw [q36, qm34, zup_ne _ _ (by omega), qm29, zup_ne _ _ (by omega)]
                                                                                            have zq53 : v38 = f 7 m2 5 := by rw [q38, qm34, zup_ne _ _ (by omega), qm29, zup_ne _ _ (by omega)]
                                                                                            have hd : f 7 m2 5 = 0 := by rw [← zq53]; assumption
                                                                                            rw [if_neg (fun h => h.2 hd), qm58, zup_ne _ _ (by omega), qm53, zup_ne _ _ (by omega), qm42, zup_same, q41, zq49]
                                                                                            exact Int32.or_zero
                                                                                          · have qi : (v2).toNatClampNeg = (f 7 m2 0).toInt.toNat := by rw [zqc]; rfl
                                                                                            have qr : v30 = f 9 m0 (f 7 m2 0).toInt.toNat := by rw [q30, qi, qm29, zup_ne _ _ (by omega)]
                                                                                            have qm : v32 = f 7 m2 4 := by rw [q32, qm29, zup_ne _ _ (by omega)]
                                                                                            by_cases e : f 7 m2 0 = nI l
                                                                                            · have el := (zix_nI b0 hl).mp e
                                                                                              rw [if_pos ⟨hA, e⟩, qm58, zup_ne _ _ (by omega), qm53, zup_ne _ _ (by omega), qm42, zup_ne _ _ (by omega), qm34, qi, el, zup_same, q33, qr, qm, el]
                                                                                            · have el : ¬ (f 7 m2 0).toInt.toNat = l := fun h => e ((zix_nI b0 hl).mpr h)
                                                                                              rw [if_neg (fun h => e h.2), qm58, zup_ne _ _ (by omega), qm53, zup_ne _ _ (by omega), qm42, zup_ne _ _ (by omega), qm34, qi, zup_ne _ _ (by omega), qm29, zup_ne _ _ (by omega)]
                                                                                          · have qi : (v2).toNatClampNeg = (f 7 m2 0).toInt.toNat := by rw [zqc]; rfl
                                                                                            have qr : v54 = f 10 m0 (f 7 m2 0).toInt.toNat := by rw [q54, qi, qm53, zup_ne _ _ (by omega), qm42, zup_ne _ _ (by omega), qm34, zup_ne _ _ (by omega), qm29, zup_ne _ _ (by omega)]
                                                                                            have qm : v56 = f 7 m2 4 := by rw [q56, qm53, zup_ne _ _ (by omega), qm42, zup_ne _ _ (by omega), qm34, zup_ne _ _ (by omega), qm29, zup_ne _ _ (by omega)]
                                                                                            by_cases e : f 7 m2 0 = nI l
                                                                                            · have el := (zix_nI b0 hl).mp e
                                                                                              rw [if_pos ⟨hB, e⟩, qm58, qi, el, zup_same, q57, qr, qm, el]
                                                                                            · have el : ¬ (f 7 m2 0).toInt.toNat = l := fun h => e ((zix_nI b0 hl).mpr h)
                                                                                              rw [if_neg (fun h => e h.2), qm58, qi, zup_ne _ _ (by omega), qm53, zup_ne _ _ (by omega), qm42, zup_ne _ _ (by omega), qm34, zup_ne _ _ (by omega), qm29, zup_ne _ _ (by omega)]), (by
                                                                                          refine ⟨fun n j hn => ?_, fun n j hn => ?_, fun n j hn => ?_⟩
                                                                                          · rw [qm58, zup_ne _ _ (by omega), qm53, zup_ne _ _ (by omega), qm42, zup_ne _ _ (by omega), qm34, zup_ne _ _ (by omega), qm29, zup_ne _ _ (by omega)]
                                                                                          · rw [qm58, zup_ne _ _ (by omega), qm53, zup_ne _ _ (by omega), qm42, zup_ne _ _ (by omega), qm34, zup_ne _ _ (by omega), qm29, zup_ne _ _ (by omega)]
                                                                                          · rw [qm58, zup_ne _ _ (by omega), qm53, zup_ne _ _ (by omega), qm42, zup_ne _ _ (by omega), qm34, zup_ne _ _ (by omega), qm29, zup_ne _ _ (by omega)])⟩
    · skip
      have b59x : zB v38 1 1 := by have q1 := b38x; have q2 := (zB.of (x := 0) 0 (by decide)); simp only [z32lt, z32le, z32eq, Int32.reduceToInt, Int32.toInt_zero] at h56_38; constructor <;> omega
      refine z_iconst (pc := 59) (v := 1) C dX1_learn_59 (by decide) ?_
      refine z_iload_n (pc := 60) C dX1_learn_60 rfl ?_
      refine z_ishl (pc := 61) C dX1_learn_61 ?_
      refine w_gp (fun v => v = (1 : Int32) <<< (v2 &&& 31)) rfl (fun v60 q60 => ?_)
      have b60x : zB v60 0 32 := by rw [q60]; exact (zshl_b b2x 5 (by decide) (by decide))
      refine z_goto (pc := 62) 66 C dX1_learn_62 (by decide) ?_
      refine z_ior (pc := 66) C dX1_learn_66 ?_
      refine w_gp (fun v => v = v36 ||| v60) rfl (fun v61 q61 => ?_)
      have b61x : zB v61 0 63 := by rw [q61]; exact (zor_b 6 b36x b60x (by decide) (by decide) (by decide) (by decide) (by decide))
      refine z_putI (pc := 67) C zf_X1_45 zp_1_7 rfl rfl h0 dX1_learn_67 ?_
      refine w_memy hI34 hF34 b61x rfl (fun g62 qm62 hI62 hF62 => ?_)
      refine z_aload_n (pc := 70) C dX1_learn_70 rfl ?_
      refine z_aload_n (pc := 71) C dX1_learn_71 rfl ?_
      refine z_getI (pc := 72) C zf_X1_22 rfl rfl h0 dX1_learn_72 ?_
      refine w_gp (fun v => v = g62 8 m0 1) rfl (fun v64 q64 => ?_)
      have b64x : zB v64 0 63 := by rw [q64]; exact (hI62 8 m0 1)
      refine z_callV (pc := 75) C zk_X1_57 (x_X0_isMarks _ _ m2 h2 v64 b64x hI62) rfl rfl h2 rfl rfl (Nat.le_of_ble_eq_true rfl) dX1_learn_75 (fun r65 g65 q65 => ?_)
      obtain ⟨⟨v65, rfl, b65x⟩, hI65, hF65q, hp65_0⟩ := q65
      have hp65_0 := hp65_0 _ rfl
      obtain rfl := zFr_nil hF65q
      simp only [Option.toList, List.cons_append, List.nil_append]
      refine z_if_eq (pc := 78) 112 C dX1_learn_78 (by decide) (fun h78_65 => ?_) (fun h78_65 => ?_)
      · skip
        have b67x : zB v65 0 0 := by have q1 := b65x; have q2 := (zB.of (x := 0) 0 (by decide)); simp only [z32lt, z32le, z32eq, Int32.reduceToInt, Int32.toInt_zero] at h78_65; constructor <;> omega
        exact z_vret (pc := 112) C hr dX1_learn_112 ⟨rfl, hI62, hF62, (by
                                                                                          have zqc := q2
                                                                                          have zq7 := q4
                                                                                          have hA := hp5_0
                                                                                          rw [zq7] at hA
                                                                                          have e7 : g62 7 m2 = f 7 m2 := funext (fun j => by rw [qm62, zup_ne _ _ (by omega), qm34, zup_ne _ _ (by omega), qm29, zup_ne _ _ (by omega)])
                                                                                          have zq72 : v64 = f 8 m0 1 := by rw [q64, qm62, zup_ne _ _ (by omega), qm34, zup_ne _ _ (by omega), qm29, zup_ne _ _ (by omega)]
                                                                                          have hB := hp65_0
                                                                                          rw [zq72, e7] at hB
                                                                                          have c0 : (0 : Int32).toInt = 0 := by decide
                                                                                          have c1 : (1 : Int32).toInt = 1 := by decide
                                                                                          have b0 : 0 ≤ (f 7 m2 0).toInt := (hI 7 m2 0).1
                                                                                          have hA : zmt (f 7 m2) (f 8 m0 0) := by
                                                                                            rcases hA with ⟨x, y⟩ | ⟨x, y⟩
                                                                                            · first | exact y | (exfalso; rw [z32eq] at x; omega)
                                                                                            · first | exact y | (exfalso; rw [z32eq] at x; omega)
                                                                                          have hB : ¬ zmt (f 7 m2) (f 8 m0 1) := by
                                                                                            rcases hB with ⟨x, y⟩ | ⟨x, y⟩
                                                                                            · first | exact y | (exfalso; rw [z32eq] at x; omega)
                                                                                            · first | exact y | (exfalso; rw [z32eq] at x; omega)
                                                                                          refine ⟨?_, ?_, ?_, fun l hl => ?_, fun l hl => ?_⟩
                                                                                          · rw [if_pos hA, qm62, zup_ne _ _ (by omega), qm34, zup_ne _ _ (by omega), qm29, zup_same, q28, q27, q26]
                                                                                          · rw [if_neg hB, qm62, zup_ne _ _ (by omega), qm34, zup_ne _ _ (by omega), qm29, zup_ne _ _ (by omega)]
                                                                                          · have zq49 : v36 = f 8 m0 7 := by rw [q36, qm34, zup_ne _ _ (by omega), qm29, zup_ne _ _ (by omega)]
                                                                                            have zq53 : v38 = f 7 m2 5 := by rw [q38, qm34, zup_ne _ _ (by omega), qm29, zup_ne _ _ (by omega)]
                                                                                            have hd : ¬ f 7 m2 5 = 0 := by rw [← zq53]; assumption
                                                                                            rw [if_pos ⟨hA, hd⟩, qm62, zup_same, q61, q60, zq49, zqc]
                                                                                          · have qi : (v2).toNatClampNeg = (f 7 m2 0).toInt.toNat := by rw [zqc]; rfl
                                                                                            have qr : v30 = f 9 m0 (f 7 m2 0).toInt.toNat := by rw [q30, qi, qm29, zup_ne _ _ (by omega)]
                                                                                            have qm : v32 = f 7 m2 4 := by rw [q32, qm29, zup_ne _ _ (by omega)]
                                                                                            by_cases e : f 7 m2 0 = nI l
                                                                                            · have el := (zix_nI b0 hl).mp e
                                                                                              rw [if_pos ⟨hA, e⟩, qm62, zup_ne _ _ (by omega), qm34, qi, el, zup_same, q33, qr, qm, el]
                                                                                            · have el : ¬ (f 7 m2 0).toInt.toNat = l := fun h => e ((zix_nI b0 hl).mpr h)
                                                                                              rw [if_neg (fun h => e h.2), qm62, zup_ne _ _ (by omega), qm34, qi, zup_ne _ _ (by omega), qm29, zup_ne _ _ (by omega)]
                                                                                          · rw [if_neg (fun h => hB h.1), qm62, zup_ne _ _ (by omega), qm34, zup_ne _ _ (by omega), qm29, zup_ne _ _ (by omega)]), (by
                                                                                          refine ⟨fun n j hn => ?_, fun n j hn => ?_, fun n j hn => ?_⟩
                                                                                          · rw [qm62, zup_ne _ _ (by omega), qm34, zup_ne _ _ (by omega), qm29, zup_ne _ _ (by omega)]
                                                                                          · rw [qm62, zup_ne _ _ (by omega), qm34, zup_ne _ _ (by omega), qm29, zup_ne _ _ (by omega)]
                                                                                          · rw [qm62, zup_ne _ _ (by omega), qm34, zup_ne _ _ (by omega), qm29, zup_ne _ _ (by omega)])⟩
      · skip
        have b68x : zB v65 1 1 := by have q1 := b65x; have q2 := (zB.of (x := 0) 0 (by decide)); simp only [z32lt, z32le, z32eq, Int32.reduceToInt, Int32.toInt_zero] at h78_65; constructor <;> omega
        refine z_aload_n (pc := 81) C dX1_learn_81 rfl ?_
        refine z_dupr (pc := 82) C dX1_learn_82 ?_
        refine z_getI (pc := 83) C zf_X1_42 rfl rfl h0 dX1_learn_83 ?_
        refine w_gp (fun v => v = g62 8 m0 6) rfl (fun v70 q70 => ?_)
        have b70x : zB v70 0 16777215 := by rw [q70]; exact (hI62 8 m0 6)
        refine z_iconst (pc := 86) (v := 1) C dX1_learn_86 (by decide) ?_
        refine z_iload_n (pc := 87) C dX1_learn_87 rfl ?_
        refine z_ishl (pc := 88) C dX1_learn_88 ?_
        refine w_gp (fun v => v = (1 : Int32) <<< (a1 &&& 31)) rfl (fun v71 q71 => ?_)
        have b71x : zB v71 0 8388608 := by rw [q71]; exact (zshl_b b1 23 (by decide) (by decide))
        refine z_ior (pc := 89) C dX1_learn_89 ?_
        refine w_gp (fun v => v = v70 ||| v71) rfl (fun v72 q72 => ?_)
        have b72x : zB v72 0 16777215 := by rw [q72]; exact (zor_b 24 b70x b71x (by decide) (by decide) (by decide) (by decide) (by decide))
        refine z_putI (pc := 90) C zf_X1_42 zp_1_6 rfl rfl h0 dX1_learn_90 ?_
        refine w_memy hI62 hF62 b72x rfl (fun g73 qm73 hI73 hF73 => ?_)
        refine z_aload_n (pc := 93) C dX1_learn_93 rfl ?_
        refine z_getR (pc := 94) C zf_X1_15 rfl rfl h0 dX1_learn_94 ?_
        refine z_iload_n (pc := 97) C dX1_learn_97 rfl ?_
        refine z_aload_n (pc := 98) C dX1_learn_98 rfl ?_
        refine z_getR (pc := 99) C zf_X1_15 rfl rfl h0 dX1_learn_99 ?_
        refine z_iload_n (pc := 102) C dX1_learn_102 rfl ?_
        refine z_iald (pc := 103) C rfl h0 (zIx b2x (by decide) (by decide)) dX1_learn_103 ?_
        have kq103_73 : v2.toNatClampNeg = v2.toInt.toNat := rfl
        refine w_gp (fun v => v = g73 10 m0 v2.toNatClampNeg) rfl (fun v74 q74 => ?_)
        have b74x : zB v74 0 40 := by rw [q74]; exact (hI73 10 m0 v2.toNatClampNeg)
        refine z_aload_n (pc := 104) C dX1_learn_104 rfl ?_
        refine z_getI (pc := 105) C zf_X1_61 rfl rfl h2 dX1_learn_105 ?_
        refine w_gp (fun v => v = g73 7 m2 4) rfl (fun v76 q76 => ?_)
        have b76x : zB v76 0 40 := by rw [q76]; exact (hI73 7 m2 4)
        refine z_mmax (pc := 108) C zk_X1_64 (Nat.le_of_ble_eq_true rfl) dX1_learn_108 ?_
        refine w_gp (fun v => v = imax v74 v76) rfl (fun v77 q77 => ?_)
        have b77x : zB v77 0 40 := by rw [q77]; exact (by have q9 := zmax_b b74x b76x; constructor <;> omega)
        have kw111_77 : v2.toNatClampNeg = v2.toInt.toNat := rfl
        refine z_iast (pc := 111) C rfl h0 (zIx b2x (by decide) (by decide)) dX1_learn_111 ?_
        refine w_memy hI73 hF73 b77x rfl (fun g78 qm78 hI78 hF78 => ?_)
        exact z_vret (pc := 112) C hr dX1_learn_112 ⟨rfl, hI78, hF78, (by
                                                                                          have zqc := q2
                                                                                          have zq7 := q4
                                                                                          have hA := hp5_0
                                                                                          rw [zq7] at hA
                                                                                          have e7 : g62 7 m2 = f 7 m2 := funext (fun j => by rw [qm62, zup_ne _ _ (by omega), qm34, zup_ne _ _ (by omega), qm29, zup_ne _ _ (by omega)])
                                                                                          have zq72 : v64 = f 8 m0 1 := by rw [q64, qm62, zup_ne _ _ (by omega), qm34, zup_ne _ _ (by omega), qm29, zup_ne _ _ (by omega)]
                                                                                          have hB := hp65_0
                                                                                          rw [zq72, e7] at hB
                                                                                          have c0 : (0 : Int32).toInt = 0 := by decide
                                                                                          have c1 : (1 : Int32).toInt = 1 := by decide
                                                                                          have b0 : 0 ≤ (f 7 m2 0).toInt := (hI 7 m2 0).1
                                                                                          have hA : zmt (f 7 m2) (f 8 m0 0) := by
                                                                                            rcases hA with ⟨x, y⟩ | ⟨x, y⟩
                                                                                            · first | exact y | (exfalso; rw [z32eq] at x; omega)
                                                                                            · first | exact y | (exfalso; rw [z32eq] at x; omega)
                                                                                          have hB : zmt (f 7 m2) (f 8 m0 1) := by
                                                                                            rcases hB with ⟨x, y⟩ | ⟨x, y⟩
                                                                                            · first | exact y | (exfalso; rw [z32eq] at x; omega)
                                                                                            · first | exact y | (exfalso; rw [z32eq] at x; omega)
                                                                                          refine ⟨?_, ?_, ?_, fun l hl => ?_, fun l hl => ?_⟩
                                                                                          · rw [if_pos hA, qm78, zup_ne _ _ (by omega), qm73, zup_ne _ _ (by omega), qm62, zup_ne _ _ (by omega), qm34, zup_ne _ _ (by omega), qm29, zup_same, q28, q27, q26]
                                                                                          · have zq83 : v70 = f 8 m0 6 := by rw [q70, qm62, zup_ne _ _ (by omega), qm34, zup_ne _ _ (by omega), qm29, zup_ne _ _ (by omega)]
                                                                                            rw [if_pos hB, qm78, zup_ne _ _ (by omega), qm73, zup_same, q72, q71, zq83]
                                                                                          · have zq49 : v36 = f 8 m0 7 := by rw [q36, qm34, zup_ne _ _ (by omega), qm29, zup_ne _ _ (by omega)]
                                                                                            have zq53 : v38 = f 7 m2 5 := by rw [q38, qm34, zup_ne _ _ (by omega), qm29, zup_ne _ _ (by omega)]
                                                                                            have hd : ¬ f 7 m2 5 = 0 := by rw [← zq53]; assumption
                                                                                            rw [if_pos ⟨hA, hd⟩, qm78, zup_ne _ _ (by omega), qm73, zup_ne _ _ (by omega), qm62, zup_same, q61, q60, zq49, zqc]
                                                                                          · have qi : (v2).toNatClampNeg = (f 7 m2 0).toInt.toNat := by rw [zqc]; rfl
                                                                                            have qr : v30 = f 9 m0 (f 7 m2 0).toInt.toNat := by rw [q30, qi, qm29, zup_ne _ _ (by omega)]
                                                                                            have qm : v32 = f 7 m2 4 := by rw [q32, qm29, zup_ne _ _ (by omega)]
                                                                                            by_cases e : f 7 m2 0 = nI l
                                                                                            · have el := (zix_nI b0 hl).mp e
                                                                                              rw [if_pos ⟨hA, e⟩, qm78, zup_ne _ _ (by omega), qm73, zup_ne _ _ (by omega), qm62, zup_ne _ _ (by omega), qm34, qi, el, zup_same, q33, qr, qm, el]
                                                                                            · have el : ¬ (f 7 m2 0).toInt.toNat = l := fun h => e ((zix_nI b0 hl).mpr h)
                                                                                              rw [if_neg (fun h => e h.2), qm78, zup_ne _ _ (by omega), qm73, zup_ne _ _ (by omega), qm62, zup_ne _ _ (by omega), qm34, qi, zup_ne _ _ (by omega), qm29, zup_ne _ _ (by omega)]
                                                                                          · have qi : (v2).toNatClampNeg = (f 7 m2 0).toInt.toNat := by rw [zqc]; rfl
                                                                                            have qr : v74 = f 10 m0 (f 7 m2 0).toInt.toNat := by rw [q74, qi, qm73, zup_ne _ _ (by omega), qm62, zup_ne _ _ (by omega), qm34, zup_ne _ _ (by omega), qm29, zup_ne _ _ (by omega)]
                                                                                            have qm : v76 = f 7 m2 4 := by rw [q76, qm73, zup_ne _ _ (by omega), qm62, zup_ne _ _ (by omega), qm34, zup_ne _ _ (by omega), qm29, zup_ne _ _ (by omega)]
                                                                                            by_cases e : f 7 m2 0 = nI l
                                                                                            · have el := (zix_nI b0 hl).mp e
                                                                                              rw [if_pos ⟨hB, e⟩, qm78, qi, el, zup_same, q77, qr, qm, el]
                                                                                            · have el : ¬ (f 7 m2 0).toInt.toNat = l := fun h => e ((zix_nI b0 hl).mpr h)
                                                                                              rw [if_neg (fun h => e h.2), qm78, qi, zup_ne _ _ (by omega), qm73, zup_ne _ _ (by omega), qm62, zup_ne _ _ (by omega), qm34, zup_ne _ _ (by omega), qm29, zup_ne _ _ (by omega)]), (by
                                                                                          refine ⟨fun n j hn => ?_, fun n j hn => ?_, fun n j hn => ?_⟩
                                                                                          · rw [qm78, zup_ne _ _ (by omega), qm73, zup_ne _ _ (by omega), qm62, zup_ne _ _ (by omega), qm34, zup_ne _ _ (by omega), qm29, zup_ne _ _ (by omega)]
                                                                                          · rw [qm78, zup_ne _ _ (by omega), qm73, zup_ne _ _ (by omega), qm62, zup_ne _ _ (by omega), qm34, zup_ne _ _ (by omega), qm29, zup_ne _ _ (by omega)]
                                                                                          · rw [qm78, zup_ne _ _ (by omega), qm73, zup_ne _ _ (by omega), qm62, zup_ne _ _ (by omega), qm34, zup_ne _ _ (by omega), qm29, zup_ne _ _ (by omega)])⟩

set_option maxRecDepth 100000 in
set_option maxHeartbeats 4000000 in
theorem x_X1_forget (d : Nat) (f : zM) (m0 : Nat) (h0 : m0 < zcnt 8) (hI : zInv f) : ZM (d + 1) yX1_forget cX1_forget 1 none [zr 8 m0] f (fun r g => r = none ∧ zInv g ∧ zFr [(8, some 5), (8, some 6), (8, some 7), (9, none), (10, none)] f g ∧ (g 8 m0 5 = 0 ∧ g 8 m0 6 = 0 ∧ g 8 m0 7 = 0 ∧ (∀ l, l < 6 → g 9 m0 l = 0) ∧ (∀ l, l < 6 → g 10 m0 l = 0)) ∧ ((∀ n j, n ≠ m0 → g 8 n j = f 8 n j) ∧ (∀ n j, n ≠ m0 → g 9 n j = f 9 n j) ∧ (∀ n j, n ≠ m0 → g 10 n j = f 10 n j))) := by
  refine ZM.intro (by decide +kernel) (Nat.le_of_ble_eq_true rfl) ?_
  intro X C hr hn
  have hF : zFr [(8, some 5), (8, some 6), (8, some 7), (9, none), (10, none)] f f := zFr.rf _ _
  show Z X 0 [some (zr 8 m0)] [] f
  refine z_aload_n (pc := 0) C dX1_forget_0 rfl ?_
  refine z_iconst (pc := 1) (v := 0) C dX1_forget_1 (by decide) ?_
  refine z_putI (pc := 2) C zf_X1_39 zp_1_5 rfl rfl h0 dX1_forget_2 ?_
  refine w_memy hI hF (zB.wk (a' := 0) (b' := 16777215) (zB.of (x := 0) 0 (by decide)) (by decide) (by decide)) rfl (fun g1 qm1 hI1 hF1 => ?_)
  refine z_aload_n (pc := 5) C dX1_forget_5 rfl ?_
  refine z_iconst (pc := 6) (v := 0) C dX1_forget_6 (by decide) ?_
  refine z_putI (pc := 7) C zf_X1_42 zp_1_6 rfl rfl h0 dX1_forget_7 ?_
  refine w_memy hI1 hF1 (zB.wk (a' := 0) (b' := 16777215) (zB.of (x := 0) 0 (by decide)) (by decide) (by decide)) rfl (fun g2 qm2 hI2 hF2 => ?_)
  refine z_aload_n (pc := 10) C dX1_forget_10 rfl ?_
  refine z_iconst (pc := 11) (v := 0) C dX1_forget_11 (by decide) ?_
  refine z_putI (pc := 12) C zf_X1_45 zp_1_7 rfl rfl h0 dX1_forget_12 ?_
  refine w_memy hI2 hF2 (zB.wk (a' := 0) (b' := 63) (zB.of (x := 0) 0 (by decide)) (by decide) (by decide)) rfl (fun g3 qm3 hI3 hF3 => ?_)
  refine z_aload_n (pc := 15) C dX1_forget_15 rfl ?_
  refine z_getR (pc := 16) C zf_X1_9 rfl rfl h0 dX1_forget_16 ?_
  refine z_iconst (pc := 19) (v := 0) C dX1_forget_19 (by decide) ?_
  refine z_callSx (pc := 20) C zk_X1_48 (m_fill _ _ 9 m0 6 0 h0 rfl (by decide)) rfl rfl (Nat.le_of_ble_eq_true rfl) dX1_forget_20 ?_
  simp only [Option.toList, List.cons_append, List.nil_append]
  refine w_fillx hI3 hF3 (fun j => (zB.wk (a' := 0) (b' := 40) (zB.of (x := 0) 0 (by decide)) (by decide) (by decide))) (fun j => rfl) (fun g4 qm4 hI4 hF4 => ?_)
  refine z_aload_n (pc := 23) C dX1_forget_23 rfl ?_
  refine z_getR (pc := 24) C zf_X1_15 rfl rfl h0 dX1_forget_24 ?_
  refine z_iconst (pc := 27) (v := 0) C dX1_forget_27 (by decide) ?_
  refine z_callSx (pc := 28) C zk_X1_48 (m_fill _ _ 10 m0 6 0 h0 rfl (by decide)) rfl rfl (Nat.le_of_ble_eq_true rfl) dX1_forget_28 ?_
  simp only [Option.toList, List.cons_append, List.nil_append]
  refine w_fillx hI4 hF4 (fun j => (zB.wk (a' := 0) (b' := 40) (zB.of (x := 0) 0 (by decide)) (by decide) (by decide))) (fun j => rfl) (fun g5 qm5 hI5 hF5 => ?_)
  exact z_vret (pc := 31) C hr dX1_forget_31 ⟨rfl, hI5, hF5, (by subst_vars; refine ⟨?_, ?_, ?_, fun l hl => ?_, fun l hl => ?_⟩ <;> simp [zup, zfill, *]), (by subst_vars; refine ⟨fun n j hn => ?_, fun n j hn => ?_, fun n j hn => ?_⟩ <;> simp [zup, zfill, hn])⟩

set_option maxRecDepth 100000 in
set_option maxHeartbeats 4000000 in
theorem x_X8_learnAgain (d : Nat) (f : zM) (a1 : Int32) (b1 : zB a1 0 7) (hI : zInv f) : ZM (d + 2) yX8_learnAgain cX8_learnAgain 3 none [zr 1 0, zi a1] f (fun r g => r = none ∧ zInv g ∧ zFr [(8, some 5), (8, some 6), (8, some 7), (9, none), (10, none)] f g ∧ (zLk g a1.toInt.toNat (fun k j => f 7 k j) (f 1 0 5).toInt.toNat) ∧ ((∀ n j, n ≠ a1.toInt.toNat → g 8 n j = f 8 n j) ∧ (∀ n j, n ≠ a1.toInt.toNat → g 9 n j = f 9 n j) ∧ (∀ n j, n ≠ a1.toInt.toNat → g 10 n j = f 10 n j))) := by
  refine ZM.intro (by decide +kernel) (Nat.le_of_ble_eq_true rfl) ?_
  intro X C hr hn
  have hF : zFr [(8, some 5), (8, some 6), (8, some 7), (9, none), (10, none)] f f := zFr.rf _ _
  have ct1_0_5 : zB (f 1 0 5) 0 24 := hI 1 0 5
  have J : ∀ t : Nat, (∀ a11_2 : Int32, zB a11_2 0 24 → ∀ g : zM, zInv g → zFr [(8, some 5), (8, some 6), (8, some 7), (9, none), (10, none)] f g → zB (g 1 0 5) 0 24 → (zLk g a1.toInt.toNat (fun k j => f 7 k j) (a11_2.toInt.toNat)) → ((∀ n j, n ≠ a1.toInt.toNat → g 8 n j = f 8 n j) ∧ (∀ n j, n ≠ a1.toInt.toNat → g 9 n j = f 9 n j) ∧ (∀ n j, n ≠ a1.toInt.toNat → g 10 n j = f 10 n j)) → ((g 1 0 5).toInt = (f 1 0 5).toInt) → (a11_2.toInt ≤ (f 1 0 5).toInt) → (0 + 3 * (24 - a11_2.toInt) : Int) < t → Z X 11 [some (zr 1 0), some (zi a1), some (zi a11_2)] [] g) := by
    intro t
    induction t with
    | zero =>
      intros; exfalso; omega
    | succ t ih =>
      have ih0 := ih
      intro a11_2 b11_2 g11_ hI11_ hF11_ f11_1_0_5 hR11_0 hR11_1 hR11_2 hR11_3 hM11_
      refine z_iload_n (pc := 11) C dX8_learnAgain_11 rfl ?_
      refine z_aload_n (pc := 12) C dX8_learnAgain_12 rfl ?_
      refine z_getI (pc := 13) C zf_X8_46 rfl rfl (by decide) dX8_learnAgain_13 ?_
      refine w_gp (fun v => v = g11_ 1 0 5) rfl (fun v1 q1 => ?_)
      have e1 : v1.toInt = (g11_ 1 0 5).toInt := by rw [q1]
      have b1x : zB v1 0 24 := by first | exact zB.eqv e1 f11_1_0_5 | (have q9 := f11_1_0_5; constructor <;> omega)
      refine z_icmp_ge (pc := 16) 41 C dX8_learnAgain_16 (by decide) (fun h16_1 => ?_) (fun h16_1 => ?_)
      · skip
        have rr3 : a11_2.toInt ≥ v1.toInt := by simp only [z32lt, z32le, z32eq] at h16_1; omega
        exact z_vret (pc := 41) C hr dX8_learnAgain_41 ⟨rfl, hI11_, hF11_, (by
                                                                                          have hz : (f 1 0 5).toInt.toNat = a11_2.toInt.toNat := by omega
                                                                                          rw [hz]; exact hR11_0), (by exact hR11_1)⟩
      · skip
        have rr4 : a11_2.toInt < v1.toInt := by simp only [z32lt, z32le, z32eq] at h16_1; omega
        have b5x : zB a11_2 0 23 := by have q1 := b11_2; have q2 := b1x; simp only [z32lt, z32le, z32eq, Int32.reduceToInt, Int32.toInt_zero] at h16_1; constructor <;> omega
        have b6x : zB v1 1 24 := by have q1 := b11_2; have q2 := b1x; simp only [z32lt, z32le, z32eq, Int32.reduceToInt, Int32.toInt_zero] at h16_1; constructor <;> omega
        have c7x : zB (g11_ 1 0 5) 1 24 := by first | assumption | (constructor <;> omega)
        refine z_aload_n (pc := 19) C dX8_learnAgain_19 rfl ?_
        refine z_getR (pc := 20) C zf_X8_19 rfl rfl (by decide) dX8_learnAgain_20 ?_
        refine z_iload_n (pc := 23) C dX8_learnAgain_23 rfl ?_
        refine z_aald (pc := 24) C rfl ⟨rfl, by decide⟩ (by decide) (zIx b1 (by decide) (by decide)) dX8_learnAgain_24 ?_
        refine w_grx (by have hq := zN b1 (by decide); show 8 * 0 + a1.toNatClampNeg < 16; omega) (fun m8 q8r h8x => ?_)
        have q8r : m8 = 8 * 0 + a1.toNatClampNeg := q8r
        have k8r : a1.toNatClampNeg = a1.toInt.toNat := rfl
        refine z_iload_n (pc := 25) C dX8_learnAgain_25 rfl ?_
        refine z_aload_n (pc := 26) C dX8_learnAgain_26 rfl ?_
        refine z_getR (pc := 27) C zf_X8_11 rfl rfl (by decide) dX8_learnAgain_27 ?_
        refine z_iload_n (pc := 30) C dX8_learnAgain_30 rfl ?_
        refine z_aald (pc := 31) C rfl ⟨rfl, by decide⟩ (by decide) (zIx b5x (by decide) (by decide)) dX8_learnAgain_31 ?_
        refine w_grx (by have hq := zN b5x (by decide); show 24 * 0 + a11_2.toNatClampNeg < 60; omega) (fun m9 q9r h9x => ?_)
        have q9r : m9 = 24 * 0 + a11_2.toNatClampNeg := q9r
        have k9r : a11_2.toNatClampNeg = a11_2.toInt.toNat := rfl
        refine z_callV (pc := 32) C zk_X8_88 (x_X1_learn _ _ m8 h8x a11_2 b5x m9 h9x hI11_) rfl rfl h8x rfl rfl (Nat.le_of_ble_eq_true rfl) dX8_learnAgain_32 (fun r10 g10 q10 => ?_)
        obtain ⟨rfl, hI10, hF10q, hp10_0, hp10_1⟩ := q10
        have hF10 := zFr.tr hF11_ hF10q (by decide)
        simp only [Option.toList, List.cons_append, List.nil_append]
        have ek10_1_0_5 : (g10 1 0 5).toInt = (g11_ 1 0 5).toInt := by rw [hF10q 1 0 5 rfl]
        have c10_1_0_5x : zB (g10 1 0 5) 1 24 := by first | exact zB.eqv ek10_1_0_5 c7x | (have q9 := c7x; constructor <;> omega)
        refine z_iinc (pc := 35) (v := 1) C dX8_learnAgain_35 rfl (by decide) (by rw [hn]; decide) rfl ?_
        obtain ⟨v11, hv11, e11⟩ : ∃ v : Int32, v = a11_2 + 1 ∧ v.toInt = a11_2.toInt + 1 := ⟨_, rfl, zadd_eb b5x (zB.of (x := 1) 1 (by decide)) (by decide) (by decide)⟩
        rw [← hv11]
        have b11x : zB v11 1 24 := by have q9 := b5x; constructor <;> omega
        refine z_goto (pc := 38) 11 C dX8_learnAgain_38 (by decide) ?_
        exact ih0 v11 (zB.wk (a' := 0) (b' := 24) b11x (by decide) (by decide)) g10 hI10 hF10 (zB.wk c10_1_0_5x (by decide) (by decide)) (by
                                                                                          have hn : m8 = a1.toInt.toNat := by omega
                                                                                          have hc : m9 = a11_2.toInt.toNat := by omega
                                                                                          have h := hp10_0
                                                                                          rw [hn, hc] at h
                                                                                          have hi : a11_2 = nI a11_2.toInt.toNat := (nI_ofI (by omega)).1
                                                                                          have h' : zln g11_ g10 a1.toInt.toNat ((fun k j => g11_ 7 (k) j) a11_2.toInt.toNat) (nI a11_2.toInt.toNat) := by rw [← hi]; exact h
                                                                                          have hs := zLk_s (C := fun k j => g11_ 7 (k) j) (zLk_c hR11_0 (fun q j _ _ => (hF11_ 7 _ j rfl).symm)) h' (hF10q 8 _ 0 rfl) (hF10q 8 _ 1 rfl)
                                                                                          rw [show (v11).toInt.toNat = a11_2.toInt.toNat + 1 by omega]
                                                                                          exact zLk_c hs (fun q j _ _ => hF11_ 7 _ j rfl)) (by
                                                                                          have hn : m8 = a1.toInt.toNat := by omega
                                                                                          have h := hp10_1
                                                                                          rw [hn] at h
                                                                                          exact ⟨fun n j q => (h.1 n j q).trans (hR11_1.1 n j q), fun n j q => (h.2.1 n j q).trans (hR11_1.2.1 n j q), fun n j q => (h.2.2 n j q).trans (hR11_1.2.2 n j q)⟩) (by omega) (by omega) (by omega)
  have J0 := J 87
  show Z X 0 [some (zr 1 0), some (zi a1), none] [] f
  refine z_aload_n (pc := 0) C dX8_learnAgain_0 rfl ?_
  refine z_getR (pc := 1) C zf_X8_19 rfl rfl (by decide) dX8_learnAgain_1 ?_
  refine z_iload_n (pc := 4) C dX8_learnAgain_4 rfl ?_
  refine z_aald (pc := 5) C rfl ⟨rfl, by decide⟩ (by decide) (zIx b1 (by decide) (by decide)) dX8_learnAgain_5 ?_
  refine w_grx (by have hq := zN b1 (by decide); show 8 * 0 + a1.toNatClampNeg < 16; omega) (fun m12 q12r h12x => ?_)
  have q12r : m12 = 8 * 0 + a1.toNatClampNeg := q12r
  have k12r : a1.toNatClampNeg = a1.toInt.toNat := rfl
  refine z_callV (pc := 6) C zk_X8_92 (x_X1_forget _ _ m12 h12x hI) rfl rfl h12x rfl rfl (Nat.le_of_ble_eq_true rfl) dX8_learnAgain_6 (fun r13 g13 q13 => ?_)
  obtain ⟨rfl, hI13, hF13q, hp13_0, hp13_1⟩ := q13
  have hF13 := zFr.tr hF hF13q (by decide)
  simp only [Option.toList, List.cons_append, List.nil_append]
  have ek13_1_0_5 : (g13 1 0 5).toInt = (f 1 0 5).toInt := by rw [hF13q 1 0 5 rfl]
  have c13_1_0_5x : zB (g13 1 0 5) 0 24 := by first | exact zB.eqv ek13_1_0_5 ct1_0_5 | (have q9 := ct1_0_5; constructor <;> omega)
  refine z_iconst (pc := 9) (v := 0) C dX8_learnAgain_9 (by decide) ?_
  refine z_istore_n (pc := 10) C dX8_learnAgain_10 (by rw [hn]; decide) rfl ?_
  exact J0 0 (zB.wk (a' := 0) (b' := 24) (zB.of (x := 0) 0 (by decide)) (by decide) (by decide)) g13 hI13 hF13 c13_1_0_5x (by
                                                                                          have hn : m12 = a1.toInt.toNat := by omega
                                                                                          have h := hp13_0
                                                                                          rw [hn] at h
                                                                                          exact zLk_0 h) (by
                                                                                          have hn : m12 = a1.toInt.toNat := by omega
                                                                                          have h := hp13_1
                                                                                          rw [hn] at h
                                                                                          exact h) (by have qc0 : (0 : Int32).toInt = 0 := (by decide); omega) (by have qc0 : (0 : Int32).toInt = 0 := (by decide); omega) (by have qc0 : (0 : Int32).toInt = 0 := (by decide); omega)

set_option maxRecDepth 100000 in
set_option maxHeartbeats 4000000 in
theorem x_X8_learnAgain_1 (d : Nat) (f : zM) (a1 : Int32) (b1 : zB a1 0 7) (hI : zInv f) : ZM (d + 2) yX8_learnAgain cX8_learnAgain 3 none [zr 1 1, zi a1] f (fun r g => r = none ∧ zInv g ∧ zFr [(8, some 5), (8, some 6), (8, some 7), (9, none), (10, none)] f g ∧ (zLk g (8 + a1.toInt.toNat) (fun k j => f 7 (24 + k) j) (f 1 1 5).toInt.toNat) ∧ ((∀ n j, n ≠ (8 + a1.toInt.toNat) → g 8 n j = f 8 n j) ∧ (∀ n j, n ≠ (8 + a1.toInt.toNat) → g 9 n j = f 9 n j) ∧ (∀ n j, n ≠ (8 + a1.toInt.toNat) → g 10 n j = f 10 n j))) := by
  refine ZM.intro (by decide +kernel) (Nat.le_of_ble_eq_true rfl) ?_
  intro X C hr hn
  have hF : zFr [(8, some 5), (8, some 6), (8, some 7), (9, none), (10, none)] f f := zFr.rf _ _
  have ct1_1_5 : zB (f 1 1 5) 0 24 := hI 1 1 5
  have J : ∀ t : Nat, (∀ a11_2 : Int32, zB a11_2 0 24 → ∀ g : zM, zInv g → zFr [(8, some 5), (8, some 6), (8, some 7), (9, none), (10, none)] f g → zB (g 1 1 5) 0 24 → (zLk g (8 + a1.toInt.toNat) (fun k j => f 7 (24 + k) j) (a11_2.toInt.toNat)) → ((∀ n j, n ≠ (8 + a1.toInt.toNat) → g 8 n j = f 8 n j) ∧ (∀ n j, n ≠ (8 + a1.toInt.toNat) → g 9 n j = f 9 n j) ∧ (∀ n j, n ≠ (8 + a1.toInt.toNat) → g 10 n j = f 10 n j)) → ((g 1 1 5).toInt = (f 1 1 5).toInt) → (a11_2.toInt ≤ (f 1 1 5).toInt) → (0 + 3 * (24 - a11_2.toInt) : Int) < t → Z X 11 [some (zr 1 1), some (zi a1), some (zi a11_2)] [] g) := by
    intro t
    induction t with
    | zero =>
      intros; exfalso; omega
    | succ t ih =>
      have ih0 := ih
      intro a11_2 b11_2 g11_ hI11_ hF11_ f11_1_1_5 hR11_0 hR11_1 hR11_2 hR11_3 hM11_
      refine z_iload_n (pc := 11) C dX8_learnAgain_11 rfl ?_
      refine z_aload_n (pc := 12) C dX8_learnAgain_12 rfl ?_
      refine z_getI (pc := 13) C zf_X8_46 rfl rfl (by decide) dX8_learnAgain_13 ?_
      refine w_gp (fun v => v = g11_ 1 1 5) rfl (fun v1 q1 => ?_)
      have e1 : v1.toInt = (g11_ 1 1 5).toInt := by rw [q1]
      have b1x : zB v1 0 24 := by first | exact zB.eqv e1 f11_1_1_5 | (have q9 := f11_1_1_5; constructor <;> omega)
      refine z_icmp_ge (pc := 16) 41 C dX8_learnAgain_16 (by decide) (fun h16_1 => ?_) (fun h16_1 => ?_)
      · skip
        have rr3 : a11_2.toInt ≥ v1.toInt := by simp only [z32lt, z32le, z32eq] at h16_1; omega
        exact z_vret (pc := 41) C hr dX8_learnAgain_41 ⟨rfl, hI11_, hF11_, (by
                                                                                          have hz : (f 1 1 5).toInt.toNat = a11_2.toInt.toNat := by omega
                                                                                          rw [hz]; exact hR11_0), (by exact hR11_1)⟩
      · skip
        have rr4 : a11_2.toInt < v1.toInt := by simp only [z32lt, z32le, z32eq] at h16_1; omega
        have b5x : zB a11_2 0 23 := by have q1 := b11_2; have q2 := b1x; simp only [z32lt, z32le, z32eq, Int32.reduceToInt, Int32.toInt_zero] at h16_1; constructor <;> omega
        have b6x : zB v1 1 24 := by have q1 := b11_2; have q2 := b1x; simp only [z32lt, z32le, z32eq, Int32.reduceToInt, Int32.toInt_zero] at h16_1; constructor <;> omega
        have c7x : zB (g11_ 1 1 5) 1 24 := by first | assumption | (constructor <;> omega)
        refine z_aload_n (pc := 19) C dX8_learnAgain_19 rfl ?_
        refine z_getR (pc := 20) C zf_X8_19 rfl rfl (by decide) dX8_learnAgain_20 ?_
        refine z_iload_n (pc := 23) C dX8_learnAgain_23 rfl ?_
        refine z_aald (pc := 24) C rfl ⟨rfl, by decide⟩ (by decide) (zIx b1 (by decide) (by decide)) dX8_learnAgain_24 ?_
        refine w_grx (by have hq := zN b1 (by decide); show 8 * 1 + a1.toNatClampNeg < 16; omega) (fun m8 q8r h8x => ?_)
        have q8r : m8 = 8 * 1 + a1.toNatClampNeg := q8r
        have k8r : a1.toNatClampNeg = a1.toInt.toNat := rfl
        refine z_iload_n (pc := 25) C dX8_learnAgain_25 rfl ?_
        refine z_aload_n (pc := 26) C dX8_learnAgain_26 rfl ?_
        refine z_getR (pc := 27) C zf_X8_11 rfl rfl (by decide) dX8_learnAgain_27 ?_
        refine z_iload_n (pc := 30) C dX8_learnAgain_30 rfl ?_
        refine z_aald (pc := 31) C rfl ⟨rfl, by decide⟩ (by decide) (zIx b5x (by decide) (by decide)) dX8_learnAgain_31 ?_
        refine w_grx (by have hq := zN b5x (by decide); show 24 * 1 + a11_2.toNatClampNeg < 60; omega) (fun m9 q9r h9x => ?_)
        have q9r : m9 = 24 * 1 + a11_2.toNatClampNeg := q9r
        have k9r : a11_2.toNatClampNeg = a11_2.toInt.toNat := rfl
        refine z_callV (pc := 32) C zk_X8_88 (x_X1_learn _ _ m8 h8x a11_2 b5x m9 h9x hI11_) rfl rfl h8x rfl rfl (Nat.le_of_ble_eq_true rfl) dX8_learnAgain_32 (fun r10 g10 q10 => ?_)
        obtain ⟨rfl, hI10, hF10q, hp10_0, hp10_1⟩ := q10
        have hF10 := zFr.tr hF11_ hF10q (by decide)
        simp only [Option.toList, List.cons_append, List.nil_append]
        have ek10_1_1_5 : (g10 1 1 5).toInt = (g11_ 1 1 5).toInt := by rw [hF10q 1 1 5 rfl]
        have c10_1_1_5x : zB (g10 1 1 5) 1 24 := by first | exact zB.eqv ek10_1_1_5 c7x | (have q9 := c7x; constructor <;> omega)
        refine z_iinc (pc := 35) (v := 1) C dX8_learnAgain_35 rfl (by decide) (by rw [hn]; decide) rfl ?_
        obtain ⟨v11, hv11, e11⟩ : ∃ v : Int32, v = a11_2 + 1 ∧ v.toInt = a11_2.toInt + 1 := ⟨_, rfl, zadd_eb b5x (zB.of (x := 1) 1 (by decide)) (by decide) (by decide)⟩
        rw [← hv11]
        have b11x : zB v11 1 24 := by have q9 := b5x; constructor <;> omega
        refine z_goto (pc := 38) 11 C dX8_learnAgain_38 (by decide) ?_
        exact ih0 v11 (zB.wk (a' := 0) (b' := 24) b11x (by decide) (by decide)) g10 hI10 hF10 (zB.wk c10_1_1_5x (by decide) (by decide)) (by
                                                                                          have hn : m8 = (8 + a1.toInt.toNat) := by omega
                                                                                          have hc : m9 = 24 + a11_2.toInt.toNat := by omega
                                                                                          have h := hp10_0
                                                                                          rw [hn, hc] at h
                                                                                          have hi : a11_2 = nI a11_2.toInt.toNat := (nI_ofI (by omega)).1
                                                                                          have h' : zln g11_ g10 (8 + a1.toInt.toNat) ((fun k j => g11_ 7 (24 + k) j) a11_2.toInt.toNat) (nI a11_2.toInt.toNat) := by rw [← hi]; exact h
                                                                                          have hs := zLk_s (C := fun k j => g11_ 7 (24 + k) j) (zLk_c hR11_0 (fun q j _ _ => (hF11_ 7 _ j rfl).symm)) h' (hF10q 8 _ 0 rfl) (hF10q 8 _ 1 rfl)
                                                                                          rw [show (v11).toInt.toNat = a11_2.toInt.toNat + 1 by omega]
                                                                                          exact zLk_c hs (fun q j _ _ => hF11_ 7 _ j rfl)) (by
                                                                                          have hn : m8 = (8 + a1.toInt.toNat) := by omega
                                                                                          have h := hp10_1
                                                                                          rw [hn] at h
                                                                                          exact ⟨fun n j q => (h.1 n j q).trans (hR11_1.1 n j q), fun n j q => (h.2.1 n j q).trans (hR11_1.2.1 n j q), fun n j q => (h.2.2 n j q).trans (hR11_1.2.2 n j q)⟩) (by omega) (by omega) (by omega)
  have J0 := J 87
  show Z X 0 [some (zr 1 1), some (zi a1), none] [] f
  refine z_aload_n (pc := 0) C dX8_learnAgain_0 rfl ?_
  refine z_getR (pc := 1) C zf_X8_19 rfl rfl (by decide) dX8_learnAgain_1 ?_
  refine z_iload_n (pc := 4) C dX8_learnAgain_4 rfl ?_
  refine z_aald (pc := 5) C rfl ⟨rfl, by decide⟩ (by decide) (zIx b1 (by decide) (by decide)) dX8_learnAgain_5 ?_
  refine w_grx (by have hq := zN b1 (by decide); show 8 * 1 + a1.toNatClampNeg < 16; omega) (fun m12 q12r h12x => ?_)
  have q12r : m12 = 8 * 1 + a1.toNatClampNeg := q12r
  have k12r : a1.toNatClampNeg = a1.toInt.toNat := rfl
  refine z_callV (pc := 6) C zk_X8_92 (x_X1_forget _ _ m12 h12x hI) rfl rfl h12x rfl rfl (Nat.le_of_ble_eq_true rfl) dX8_learnAgain_6 (fun r13 g13 q13 => ?_)
  obtain ⟨rfl, hI13, hF13q, hp13_0, hp13_1⟩ := q13
  have hF13 := zFr.tr hF hF13q (by decide)
  simp only [Option.toList, List.cons_append, List.nil_append]
  have ek13_1_1_5 : (g13 1 1 5).toInt = (f 1 1 5).toInt := by rw [hF13q 1 1 5 rfl]
  have c13_1_1_5x : zB (g13 1 1 5) 0 24 := by first | exact zB.eqv ek13_1_1_5 ct1_1_5 | (have q9 := ct1_1_5; constructor <;> omega)
  refine z_iconst (pc := 9) (v := 0) C dX8_learnAgain_9 (by decide) ?_
  refine z_istore_n (pc := 10) C dX8_learnAgain_10 (by rw [hn]; decide) rfl ?_
  exact J0 0 (zB.wk (a' := 0) (b' := 24) (zB.of (x := 0) 0 (by decide)) (by decide) (by decide)) g13 hI13 hF13 c13_1_1_5x (by
                                                                                          have hn : m12 = (8 + a1.toInt.toNat) := by omega
                                                                                          have h := hp13_0
                                                                                          rw [hn] at h
                                                                                          exact zLk_0 h) (by
                                                                                          have hn : m12 = (8 + a1.toInt.toNat) := by omega
                                                                                          have h := hp13_1
                                                                                          rw [hn] at h
                                                                                          exact h) (by have qc0 : (0 : Int32).toInt = 0 := (by decide); omega) (by have qc0 : (0 : Int32).toInt = 0 := (by decide); omega) (by have qc0 : (0 : Int32).toInt = 0 := (by decide); omega)

set_option maxRecDepth 100000 in
set_option maxHeartbeats 4000000 in
theorem x_X0_tell (d : Nat) (f : zM) (m0 : Nat) (h0 : m0 < zcnt 7) (a1 : Int32) (b1 : zB a1 0 5) (a2 : Int32) (b2 : zB a2 0 63) (a3 : Int32) (b3 : zB a3 0 63) (a4 : Int32) (b4 : zB a4 0 40) (a5 : Int32) (b5 : zB a5 0 40) (a6 : Int32) (b6 : zB a6 0 1) (hI : zInv f) : ZM d yX0_tell cX0_tell 7 none [zr 7 m0, zi a1, zi a2, zi a3, zi a4, zi a5, zi a6] f (fun r g => r = none ∧ zInv g ∧ zFr [(7, some 0), (7, some 1), (7, some 2), (7, some 3), (7, some 4), (7, some 5)] f g ∧ (g = zup (zup (zup (zup (zup (zup f 7 m0 0 a1) 7 m0 1 a2) 7 m0 2 a3) 7 m0 3 a4) 7 m0 4 a5) 7 m0 5 a6)) := by
  refine ZM.intro (by decide +kernel) (Nat.le_of_ble_eq_true rfl) ?_
  intro X C hr hn
  have hF : zFr [(7, some 0), (7, some 1), (7, some 2), (7, some 3), (7, some 4), (7, some 5)] f f := zFr.rf _ _
  show Z X 0 [some (zr 7 m0), some (zi a1), some (zi a2), some (zi a3), some (zi a4), some (zi a5), some (zi a6)] [] f
  refine z_aload_n (pc := 0) C dX0_tell_0 rfl ?_
  refine z_iload_n (pc := 1) C dX0_tell_1 rfl ?_
  refine z_putI (pc := 2) C zf_X0_7 zp_0_0 rfl rfl h0 dX0_tell_2 ?_
  refine w_memy hI hF b1 rfl (fun g1 qm1 hI1 hF1 => ?_)
  refine z_aload_n (pc := 5) C dX0_tell_5 rfl ?_
  refine z_iload_n (pc := 6) C dX0_tell_6 rfl ?_
  refine z_putI (pc := 7) C zf_X0_13 zp_0_1 rfl rfl h0 dX0_tell_7 ?_
  refine w_memy hI1 hF1 b2 rfl (fun g2 qm2 hI2 hF2 => ?_)
  refine z_aload_n (pc := 10) C dX0_tell_10 rfl ?_
  refine z_iload_n (pc := 11) C dX0_tell_11 rfl ?_
  refine z_putI (pc := 12) C zf_X0_16 zp_0_2 rfl rfl h0 dX0_tell_12 ?_
  refine w_memy hI2 hF2 b3 rfl (fun g3 qm3 hI3 hF3 => ?_)
  refine z_aload_n (pc := 15) C dX0_tell_15 rfl ?_
  refine z_iload (pc := 16) C dX0_tell_16 rfl ?_
  refine z_putI (pc := 18) C zf_X0_19 zp_0_3 rfl rfl h0 dX0_tell_18 ?_
  refine w_memy hI3 hF3 b4 rfl (fun g4 qm4 hI4 hF4 => ?_)
  refine z_aload_n (pc := 21) C dX0_tell_21 rfl ?_
  refine z_iload (pc := 22) C dX0_tell_22 rfl ?_
  refine z_putI (pc := 24) C zf_X0_22 zp_0_4 rfl rfl h0 dX0_tell_24 ?_
  refine w_memy hI4 hF4 b5 rfl (fun g5 qm5 hI5 hF5 => ?_)
  refine z_aload_n (pc := 27) C dX0_tell_27 rfl ?_
  refine z_iload (pc := 28) C dX0_tell_28 rfl ?_
  refine z_putZ (pc := 30) C zf_X0_25 zp_0_5 (z01 b6) rfl rfl h0 dX0_tell_30 ?_
  refine w_memy hI5 hF5 b6 rfl (fun g6 qm6 hI6 hF6 => ?_)
  exact z_vret (pc := 33) C hr dX0_tell_33 ⟨rfl, hI6, hF6, (by subst qm6 qm5 qm4 qm3 qm2 qm1; rfl)⟩

set_option maxRecDepth 100000 in
set_option maxHeartbeats 4000000 in
theorem x_X0_copy (d : Nat) (f : zM) (m0 : Nat) (h0 : m0 < zcnt 7) (m1 : Nat) (h1 : m1 < zcnt 7) (hI : zInv f) : ZM (d + 1) yX0_copy cX0_copy 2 none [zr 7 m0, zr 7 m1] f (fun r g => r = none ∧ zInv g ∧ zFr [(7, some 0), (7, some 1), (7, some 2), (7, some 3), (7, some 4), (7, some 5)] f g ∧ (∀ j, j < 6 → g 7 m0 j = f 7 m1 j) ∧ (∀ n j, n ≠ m0 → g 7 n j = f 7 n j)) := by
  refine ZM.intro (by decide +kernel) (Nat.le_of_ble_eq_true rfl) ?_
  intro X C hr hn
  have hF : zFr [(7, some 0), (7, some 1), (7, some 2), (7, some 3), (7, some 4), (7, some 5)] f f := zFr.rf _ _
  show Z X 0 [some (zr 7 m0), some (zr 7 m1)] [] f
  refine z_aload_n (pc := 0) C dX0_copy_0 rfl ?_
  refine z_aload_n (pc := 1) C dX0_copy_1 rfl ?_
  refine z_getI (pc := 2) C zf_X0_7 rfl rfl h1 dX0_copy_2 ?_
  refine w_gp (fun v => v = f 7 m1 0) rfl (fun v2 q2 => ?_)
  have b2x : zB v2 0 5 := by rw [q2]; exact (hI 7 m1 0)
  refine z_aload_n (pc := 5) C dX0_copy_5 rfl ?_
  refine z_getI (pc := 6) C zf_X0_13 rfl rfl h1 dX0_copy_6 ?_
  refine w_gp (fun v => v = f 7 m1 1) rfl (fun v4 q4 => ?_)
  have b4x : zB v4 0 63 := by rw [q4]; exact (hI 7 m1 1)
  refine z_aload_n (pc := 9) C dX0_copy_9 rfl ?_
  refine z_getI (pc := 10) C zf_X0_16 rfl rfl h1 dX0_copy_10 ?_
  refine w_gp (fun v => v = f 7 m1 2) rfl (fun v6 q6 => ?_)
  have b6x : zB v6 0 63 := by rw [q6]; exact (hI 7 m1 2)
  refine z_aload_n (pc := 13) C dX0_copy_13 rfl ?_
  refine z_getI (pc := 14) C zf_X0_19 rfl rfl h1 dX0_copy_14 ?_
  refine w_gp (fun v => v = f 7 m1 3) rfl (fun v8 q8 => ?_)
  have b8x : zB v8 0 40 := by rw [q8]; exact (hI 7 m1 3)
  refine z_aload_n (pc := 17) C dX0_copy_17 rfl ?_
  refine z_getI (pc := 18) C zf_X0_22 rfl rfl h1 dX0_copy_18 ?_
  refine w_gp (fun v => v = f 7 m1 4) rfl (fun v10 q10 => ?_)
  have b10x : zB v10 0 40 := by rw [q10]; exact (hI 7 m1 4)
  refine z_aload_n (pc := 21) C dX0_copy_21 rfl ?_
  refine z_getI (pc := 22) C zf_X0_25 rfl rfl h1 dX0_copy_22 ?_
  refine w_gp (fun v => v = f 7 m1 5) rfl (fun v12 q12 => ?_)
  have b12x : zB v12 0 1 := by rw [q12]; exact (hI 7 m1 5)
  refine z_callV (pc := 25) C zk_X0_29 (x_X0_tell _ _ m0 h0 v2 b2x v4 b4x v6 b6x v8 b8x v10 b10x v12 b12x hI) rfl rfl h0 rfl rfl (Nat.le_of_ble_eq_true rfl) dX0_copy_25 (fun r13 g13 q13 => ?_)
  obtain ⟨rfl, hI13, hF13q, hp13_0⟩ := q13
  have hF13 := zFr.tr hF hF13q (by decide)
  simp only [Option.toList, List.cons_append, List.nil_append]
  exact z_vret (pc := 28) C hr dX0_copy_28 ⟨rfl, hI13, hF13, (by intro j hj; subst_vars; rcases (show j = 0 ∨ j = 1 ∨ j = 2 ∨ j = 3 ∨ j = 4 ∨ j = 5 by omega) with rfl | rfl | rfl | rfl | rfl | rfl <;> simp [zup]), (by intro n j hn; subst_vars; simp [zup, hn])⟩

set_option maxRecDepth 100000 in
set_option maxHeartbeats 4000000 in
theorem x_X1_tell (d : Nat) (f : zM) (m0 : Nat) (h0 : m0 < zcnt 8) (a1 : Int32) (b1 : zB a1 0 63) (a2 : Int32) (b2 : zB a2 0 63) (a3 : Int32) (b3 : zB a3 0 5) (a4 : Int32) (b4 : zB a4 0 99) (hI : zInv f) : ZM d yX1_tell cX1_tell 5 none [zr 8 m0, zi a1, zi a2, zi a3, zi a4] f (fun r g => r = none ∧ zInv g ∧ zFr [(8, some 0), (8, some 1), (8, some 2), (8, some 3), (8, some 4)] f g ∧ (g = zup (zup (zup (zup (zup f 8 m0 0 a1) 8 m0 1 a2) 8 m0 2 a3) 8 m0 3 a4) 8 m0 4 0)) := by
  refine ZM.intro (by decide +kernel) (Nat.le_of_ble_eq_true rfl) ?_
  intro X C hr hn
  have hF : zFr [(8, some 0), (8, some 1), (8, some 2), (8, some 3), (8, some 4)] f f := zFr.rf _ _
  show Z X 0 [some (zr 8 m0), some (zi a1), some (zi a2), some (zi a3), some (zi a4)] [] f
  refine z_aload_n (pc := 0) C dX1_tell_0 rfl ?_
  refine z_iload_n (pc := 1) C dX1_tell_1 rfl ?_
  refine z_putI (pc := 2) C zf_X1_18 zp_1_0 rfl rfl h0 dX1_tell_2 ?_
  refine w_memy hI hF b1 rfl (fun g1 qm1 hI1 hF1 => ?_)
  refine z_aload_n (pc := 5) C dX1_tell_5 rfl ?_
  refine z_iload_n (pc := 6) C dX1_tell_6 rfl ?_
  refine z_putI (pc := 7) C zf_X1_22 zp_1_1 rfl rfl h0 dX1_tell_7 ?_
  refine w_memy hI1 hF1 b2 rfl (fun g2 qm2 hI2 hF2 => ?_)
  refine z_aload_n (pc := 10) C dX1_tell_10 rfl ?_
  refine z_iload_n (pc := 11) C dX1_tell_11 rfl ?_
  refine z_putI (pc := 12) C zf_X1_25 zp_1_2 rfl rfl h0 dX1_tell_12 ?_
  refine w_memy hI2 hF2 b3 rfl (fun g3 qm3 hI3 hF3 => ?_)
  refine z_aload_n (pc := 15) C dX1_tell_15 rfl ?_
  refine z_iload (pc := 16) C dX1_tell_16 rfl ?_
  refine z_putI (pc := 18) C zf_X1_28 zp_1_3 rfl rfl h0 dX1_tell_18 ?_
  refine w_memy hI3 hF3 b4 rfl (fun g4 qm4 hI4 hF4 => ?_)
  refine z_aload_n (pc := 21) C dX1_tell_21 rfl ?_
  refine z_iconst (pc := 22) (v := 0) C dX1_tell_22 (by decide) ?_
  refine z_putZ (pc := 23) C zf_X1_31 zp_1_4 (z01 (zB.wk (a' := 0) (b' := 1) (zB.of (x := 0) 0 (by decide)) (by decide) (by decide))) rfl rfl h0 dX1_tell_23 ?_
  refine w_memy hI4 hF4 (zB.wk (a' := 0) (b' := 1) (zB.of (x := 0) 0 (by decide)) (by decide) (by decide)) rfl (fun g5 qm5 hI5 hF5 => ?_)
  exact z_vret (pc := 26) C hr dX1_tell_26 ⟨rfl, hI5, hF5, (by subst qm5 qm4 qm3 qm2 qm1; rfl)⟩

set_option maxRecDepth 100000 in
set_option maxHeartbeats 4000000 in
theorem x_X1_copy (d : Nat) (f : zM) (m0 : Nat) (h0 : m0 < zcnt 8) (m1 : Nat) (h1 : m1 < zcnt 8) (hp0 : m0 ≠ m1) (hI : zInv f) : ZM (d + 1) yX1_copy cX1_copy 2 none [zr 8 m0, zr 8 m1] f (fun r g => r = none ∧ zInv g ∧ zFr [(8, some 0), (8, some 1), (8, some 2), (8, some 3), (8, some 4)] f g ∧ (∀ j, j < 5 → g 8 m0 j = f 8 m1 j) ∧ (∀ n j, n ≠ m0 → g 8 n j = f 8 n j)) := by
  refine ZM.intro (by decide +kernel) (Nat.le_of_ble_eq_true rfl) ?_
  intro X C hr hn
  have hF : zFr [(8, some 0), (8, some 1), (8, some 2), (8, some 3), (8, some 4)] f f := zFr.rf _ _
  show Z X 0 [some (zr 8 m0), some (zr 8 m1)] [] f
  refine z_aload_n (pc := 0) C dX1_copy_0 rfl ?_
  refine z_aload_n (pc := 1) C dX1_copy_1 rfl ?_
  refine z_getI (pc := 2) C zf_X1_18 rfl rfl h1 dX1_copy_2 ?_
  refine w_gp (fun v => v = f 8 m1 0) rfl (fun v2 q2 => ?_)
  have b2x : zB v2 0 63 := by rw [q2]; exact (hI 8 m1 0)
  refine z_aload_n (pc := 5) C dX1_copy_5 rfl ?_
  refine z_getI (pc := 6) C zf_X1_22 rfl rfl h1 dX1_copy_6 ?_
  refine w_gp (fun v => v = f 8 m1 1) rfl (fun v4 q4 => ?_)
  have b4x : zB v4 0 63 := by rw [q4]; exact (hI 8 m1 1)
  refine z_aload_n (pc := 9) C dX1_copy_9 rfl ?_
  refine z_getI (pc := 10) C zf_X1_25 rfl rfl h1 dX1_copy_10 ?_
  refine w_gp (fun v => v = f 8 m1 2) rfl (fun v6 q6 => ?_)
  have b6x : zB v6 0 5 := by rw [q6]; exact (hI 8 m1 2)
  refine z_aload_n (pc := 13) C dX1_copy_13 rfl ?_
  refine z_getI (pc := 14) C zf_X1_28 rfl rfl h1 dX1_copy_14 ?_
  refine w_gp (fun v => v = f 8 m1 3) rfl (fun v8 q8 => ?_)
  have b8x : zB v8 0 99 := by rw [q8]; exact (hI 8 m1 3)
  refine z_callV (pc := 17) C zk_X1_35 (x_X1_tell _ _ m0 h0 v2 b2x v4 b4x v6 b6x v8 b8x hI) rfl rfl h0 rfl rfl (Nat.le_of_ble_eq_true rfl) dX1_copy_17 (fun r9 g9 q9 => ?_)
  obtain ⟨rfl, hI9, hF9q, hp9_0⟩ := q9
  have hF9 := zFr.tr hF hF9q (by decide)
  simp only [Option.toList, List.cons_append, List.nil_append]
  refine z_aload_n (pc := 20) C dX1_copy_20 rfl ?_
  refine z_aload_n (pc := 21) C dX1_copy_21 rfl ?_
  refine z_getI (pc := 22) C zf_X1_31 rfl rfl h1 dX1_copy_22 ?_
  refine w_gp (fun v => v = g9 8 m1 4) rfl (fun v11 q11 => ?_)
  have b11x : zB v11 0 1 := by rw [q11]; exact (hI9 8 m1 4)
  refine z_putZ (pc := 25) C zf_X1_31 zp_1_4 (z01 b11x) rfl rfl h0 dX1_copy_25 ?_
  refine w_memy hI9 hF9 b11x rfl (fun g12 qm12 hI12 hF12 => ?_)
  exact z_vret (pc := 28) C hr dX1_copy_28 ⟨rfl, hI12, hF12, (by have hs := Ne.symm hp0; intro j hj; subst_vars; rcases (show j = 0 ∨ j = 1 ∨ j = 2 ∨ j = 3 ∨ j = 4 by omega) with rfl | rfl | rfl | rfl | rfl <;> simp [zup, hs]), (by intro n j hn; subst_vars; simp [zup, hn])⟩

set_option maxRecDepth 100000 in
set_option maxHeartbeats 4000000 in
theorem x_X4_lead (d : Nat) (f : zM) (m0 : Nat) (h0 : m0 < zcnt 11) (a1 : Int32) (b1 : zB a1 0 5) (a2 : Int32) (b2 : zB a2 0 5) (hI : zInv f) : ZM d yX4_lead cX4_lead 3 none [zr 11 m0, zi a1, zi a2] f (fun r g => r = none ∧ zInv g ∧ zFr [(11, some 1), (11, some 2)] f g ∧ (g = zup (zup f 11 m0 1 a1) 11 m0 2 a2)) := by
  refine ZM.intro (by decide +kernel) (Nat.le_of_ble_eq_true rfl) ?_
  intro X C hr hn
  have hF : zFr [(11, some 1), (11, some 2)] f f := zFr.rf _ _
  show Z X 0 [some (zr 11 m0), some (zi a1), some (zi a2)] [] f
  refine z_aload_n (pc := 0) C dX4_lead_0 rfl ?_
  refine z_iload_n (pc := 1) C dX4_lead_1 rfl ?_
  refine z_putI (pc := 2) C zf_X4_9 zp_4_1 rfl rfl h0 dX4_lead_2 ?_
  refine w_memy hI hF b1 rfl (fun g1 qm1 hI1 hF1 => ?_)
  refine z_aload_n (pc := 5) C dX4_lead_5 rfl ?_
  refine z_iload_n (pc := 6) C dX4_lead_6 rfl ?_
  refine z_putI (pc := 7) C zf_X4_15 zp_4_2 rfl rfl h0 dX4_lead_7 ?_
  refine w_memy hI1 hF1 b2 rfl (fun g2 qm2 hI2 hF2 => ?_)
  exact z_vret (pc := 10) C hr dX4_lead_10 ⟨rfl, hI2, hF2, (by subst qm2 qm1; rfl)⟩

set_option maxRecDepth 100000 in
set_option maxHeartbeats 4000000 in
theorem x_X4_become (d : Nat) (f : zM) (m0 : Nat) (h0 : m0 < zcnt 11) (a1 : Int32) (b1 : zB a1 0 2) (a2 : Int32) (b2 : zB a2 0 40) (a3 : Int32) (b3 : zB a3 (-2147483648) 2147483647) (hI : zInv f) : ZM d yX4_become cX4_become 4 none [zr 11 m0, zi a1, zi a2, zi a3] f (fun r g => r = none ∧ zInv g ∧ zFr [(11, some 0), (11, some 3), (11, some 4)] f g ∧ (g = zup (zup (zup f 11 m0 0 a1) 11 m0 3 a2) 11 m0 4 a3)) := by
  refine ZM.intro (by decide +kernel) (Nat.le_of_ble_eq_true rfl) ?_
  intro X C hr hn
  have hF : zFr [(11, some 0), (11, some 3), (11, some 4)] f f := zFr.rf _ _
  show Z X 0 [some (zr 11 m0), some (zi a1), some (zi a2), some (zi a3)] [] f
  refine z_aload_n (pc := 0) C dX4_become_0 rfl ?_
  refine z_iload_n (pc := 1) C dX4_become_1 rfl ?_
  refine z_putI (pc := 2) C zf_X4_18 zp_4_0 rfl rfl h0 dX4_become_2 ?_
  refine w_memy hI hF b1 rfl (fun g1 qm1 hI1 hF1 => ?_)
  refine z_aload_n (pc := 5) C dX4_become_5 rfl ?_
  refine z_iload_n (pc := 6) C dX4_become_6 rfl ?_
  refine z_putI (pc := 7) C zf_X4_21 zp_4_3 rfl rfl h0 dX4_become_7 ?_
  refine w_memy hI1 hF1 b2 rfl (fun g2 qm2 hI2 hF2 => ?_)
  refine z_aload_n (pc := 10) C dX4_become_10 rfl ?_
  refine z_iload_n (pc := 11) C dX4_become_11 rfl ?_
  refine z_putI (pc := 12) C zf_X4_24 zp_4_4 rfl rfl h0 dX4_become_12 ?_
  refine w_memy hI2 hF2 b3 rfl (fun g3 qm3 hI3 hF3 => ?_)
  exact z_vret (pc := 15) C hr dX4_become_15 ⟨rfl, hI3, hF3, (by subst qm3 qm2 qm1; rfl)⟩

set_option maxRecDepth 100000 in
set_option maxHeartbeats 4000000 in
theorem x_X4_rule (d : Nat) (f : zM) (m0 : Nat) (h0 : m0 < zcnt 11) (a1 : Int32) (b1 : zB a1 0 31) (a2 : Int32) (b2 : zB a2 0 99) (a3 : Int32) (b3 : zB a3 0 7) (hI : zInv f) : ZM d yX4_rule cX4_rule 4 none [zr 11 m0, zi a1, zi a2, zi a3] f (fun r g => r = none ∧ zInv g ∧ zFr [(11, some 5), (11, some 6), (11, some 7)] f g ∧ (g = zup (zup (zup f 11 m0 5 a1) 11 m0 6 a2) 11 m0 7 a3)) := by
  refine ZM.intro (by decide +kernel) (Nat.le_of_ble_eq_true rfl) ?_
  intro X C hr hn
  have hF : zFr [(11, some 5), (11, some 6), (11, some 7)] f f := zFr.rf _ _
  show Z X 0 [some (zr 11 m0), some (zi a1), some (zi a2), some (zi a3)] [] f
  refine z_aload_n (pc := 0) C dX4_rule_0 rfl ?_
  refine z_iload_n (pc := 1) C dX4_rule_1 rfl ?_
  refine z_putI (pc := 2) C zf_X4_27 zp_4_5 rfl rfl h0 dX4_rule_2 ?_
  refine w_memy hI hF b1 rfl (fun g1 qm1 hI1 hF1 => ?_)
  refine z_aload_n (pc := 5) C dX4_rule_5 rfl ?_
  refine z_iload_n (pc := 6) C dX4_rule_6 rfl ?_
  refine z_putI (pc := 7) C zf_X4_30 zp_4_6 rfl rfl h0 dX4_rule_7 ?_
  refine w_memy hI1 hF1 b2 rfl (fun g2 qm2 hI2 hF2 => ?_)
  refine z_aload_n (pc := 10) C dX4_rule_10 rfl ?_
  refine z_iload_n (pc := 11) C dX4_rule_11 rfl ?_
  refine z_putI (pc := 12) C zf_X4_33 zp_4_7 rfl rfl h0 dX4_rule_12 ?_
  refine w_memy hI2 hF2 b3 rfl (fun g3 qm3 hI3 hF3 => ?_)
  exact z_vret (pc := 15) C hr dX4_rule_15 ⟨rfl, hI3, hF3, (by subst qm3 qm2 qm1; rfl)⟩

set_option maxRecDepth 100000 in
set_option maxHeartbeats 4000000 in
theorem x_X4_copy (d : Nat) (f : zM) (m0 : Nat) (h0 : m0 < zcnt 11) (m1 : Nat) (h1 : m1 < zcnt 11) (hp0 : m0 ≠ m1) (hI : zInv f) : ZM (d + 1) yX4_copy cX4_copy 2 none [zr 11 m0, zr 11 m1] f (fun r g => r = none ∧ zInv g ∧ zFr [(11, some 0), (11, some 1), (11, some 2), (11, some 3), (11, some 4), (11, some 5), (11, some 6), (11, some 7)] f g ∧ (∀ j, j < 8 → g 11 m0 j = f 11 m1 j) ∧ (∀ n j, n ≠ m0 → g 11 n j = f 11 n j)) := by
  refine ZM.intro (by decide +kernel) (Nat.le_of_ble_eq_true rfl) ?_
  intro X C hr hn
  have hF : zFr [(11, some 0), (11, some 1), (11, some 2), (11, some 3), (11, some 4), (11, some 5), (11, some 6), (11, some 7)] f f := zFr.rf _ _
  show Z X 0 [some (zr 11 m0), some (zr 11 m1)] [] f
  refine z_aload_n (pc := 0) C dX4_copy_0 rfl ?_
  refine z_aload_n (pc := 1) C dX4_copy_1 rfl ?_
  refine z_getI (pc := 2) C zf_X4_9 rfl rfl h1 dX4_copy_2 ?_
  refine w_gp (fun v => v = f 11 m1 1) rfl (fun v2 q2 => ?_)
  have b2x : zB v2 0 5 := by rw [q2]; exact (hI 11 m1 1)
  refine z_aload_n (pc := 5) C dX4_copy_5 rfl ?_
  refine z_getI (pc := 6) C zf_X4_15 rfl rfl h1 dX4_copy_6 ?_
  refine w_gp (fun v => v = f 11 m1 2) rfl (fun v4 q4 => ?_)
  have b4x : zB v4 0 5 := by rw [q4]; exact (hI 11 m1 2)
  refine z_callV (pc := 9) C zk_X4_36 (x_X4_lead _ _ m0 h0 v2 b2x v4 b4x hI) rfl rfl h0 rfl rfl (Nat.le_of_ble_eq_true rfl) dX4_copy_9 (fun r5 g5 q5 => ?_)
  obtain ⟨rfl, hI5, hF5q, hp5_0⟩ := q5
  have hF5 := zFr.tr hF hF5q (by decide)
  simp only [Option.toList, List.cons_append, List.nil_append]
  refine z_aload_n (pc := 12) C dX4_copy_12 rfl ?_
  refine z_aload_n (pc := 13) C dX4_copy_13 rfl ?_
  refine z_getI (pc := 14) C zf_X4_18 rfl rfl h1 dX4_copy_14 ?_
  refine w_gp (fun v => v = g5 11 m1 0) rfl (fun v7 q7 => ?_)
  have b7x : zB v7 0 2 := by rw [q7]; exact (hI5 11 m1 0)
  refine z_aload_n (pc := 17) C dX4_copy_17 rfl ?_
  refine z_getI (pc := 18) C zf_X4_21 rfl rfl h1 dX4_copy_18 ?_
  refine w_gp (fun v => v = g5 11 m1 3) rfl (fun v9 q9 => ?_)
  have b9x : zB v9 0 40 := by rw [q9]; exact (hI5 11 m1 3)
  refine z_aload_n (pc := 21) C dX4_copy_21 rfl ?_
  refine z_getI (pc := 22) C zf_X4_24 rfl rfl h1 dX4_copy_22 ?_
  refine w_gp (fun v => v = g5 11 m1 4) rfl (fun v11 q11 => ?_)
  have b11x : zB v11 (-2147483648) 2147483647 := by rw [q11]; exact (hI5 11 m1 4)
  refine z_callV (pc := 25) C zk_X4_40 (x_X4_become _ _ m0 h0 v7 b7x v9 b9x v11 b11x hI5) rfl rfl h0 rfl rfl (Nat.le_of_ble_eq_true rfl) dX4_copy_25 (fun r12 g12 q12 => ?_)
  obtain ⟨rfl, hI12, hF12q, hp12_0⟩ := q12
  have hF12 := zFr.tr hF5 hF12q (by decide)
  simp only [Option.toList, List.cons_append, List.nil_append]
  refine z_aload_n (pc := 28) C dX4_copy_28 rfl ?_
  refine z_aload_n (pc := 29) C dX4_copy_29 rfl ?_
  refine z_getI (pc := 30) C zf_X4_27 rfl rfl h1 dX4_copy_30 ?_
  refine w_gp (fun v => v = g12 11 m1 5) rfl (fun v14 q14 => ?_)
  have b14x : zB v14 0 31 := by rw [q14]; exact (hI12 11 m1 5)
  refine z_aload_n (pc := 33) C dX4_copy_33 rfl ?_
  refine z_getI (pc := 34) C zf_X4_30 rfl rfl h1 dX4_copy_34 ?_
  refine w_gp (fun v => v = g12 11 m1 6) rfl (fun v16 q16 => ?_)
  have b16x : zB v16 0 99 := by rw [q16]; exact (hI12 11 m1 6)
  refine z_aload_n (pc := 37) C dX4_copy_37 rfl ?_
  refine z_getI (pc := 38) C zf_X4_33 rfl rfl h1 dX4_copy_38 ?_
  refine w_gp (fun v => v = g12 11 m1 7) rfl (fun v18 q18 => ?_)
  have b18x : zB v18 0 7 := by rw [q18]; exact (hI12 11 m1 7)
  refine z_callV (pc := 41) C zk_X4_44 (x_X4_rule _ _ m0 h0 v14 b14x v16 b16x v18 b18x hI12) rfl rfl h0 rfl rfl (Nat.le_of_ble_eq_true rfl) dX4_copy_41 (fun r19 g19 q19 => ?_)
  obtain ⟨rfl, hI19, hF19q, hp19_0⟩ := q19
  have hF19 := zFr.tr hF12 hF19q (by decide)
  simp only [Option.toList, List.cons_append, List.nil_append]
  exact z_vret (pc := 44) C hr dX4_copy_44 ⟨rfl, hI19, hF19, (by have hs := Ne.symm hp0; intro j hj; subst_vars; rcases (show j = 0 ∨ j = 1 ∨ j = 2 ∨ j = 3 ∨ j = 4 ∨ j = 5 ∨ j = 6 ∨ j = 7 by omega) with rfl | rfl | rfl | rfl | rfl | rfl | rfl | rfl <;> simp [zup, hs]), (by intro n j hn; subst_vars; simp [zup, hn])⟩

set_option maxRecDepth 100000 in
set_option maxHeartbeats 4000000 in
theorem x_X2_tell (d : Nat) (f : zM) (m0 : Nat) (h0 : m0 < zcnt 12) (a1 : Int32) (b1 : zB a1 0 5) (a2 : Int32) (b2 : zB a2 0 255) (a3 : Int32) (b3 : zB a3 0 99) (hI : zInv f) : ZM d yX2_tell cX2_tell 4 none [zr 12 m0, zi a1, zi a2, zi a3] f (fun r g => r = none ∧ zInv g ∧ zFr [(12, some 0), (12, some 1), (12, some 2)] f g ∧ (g = zup (zup (zup f 12 m0 0 a1) 12 m0 1 a2) 12 m0 2 a3)) := by
  refine ZM.intro (by decide +kernel) (Nat.le_of_ble_eq_true rfl) ?_
  intro X C hr hn
  have hF : zFr [(12, some 0), (12, some 1), (12, some 2)] f f := zFr.rf _ _
  show Z X 0 [some (zr 12 m0), some (zi a1), some (zi a2), some (zi a3)] [] f
  refine z_aload_n (pc := 0) C dX2_tell_0 rfl ?_
  refine z_iload_n (pc := 1) C dX2_tell_1 rfl ?_
  refine z_putI (pc := 2) C zf_X2_7 zp_2_0 rfl rfl h0 dX2_tell_2 ?_
  refine w_memy hI hF b1 rfl (fun g1 qm1 hI1 hF1 => ?_)
  refine z_aload_n (pc := 5) C dX2_tell_5 rfl ?_
  refine z_iload_n (pc := 6) C dX2_tell_6 rfl ?_
  refine z_putI (pc := 7) C zf_X2_13 zp_2_1 rfl rfl h0 dX2_tell_7 ?_
  refine w_memy hI1 hF1 b2 rfl (fun g2 qm2 hI2 hF2 => ?_)
  refine z_aload_n (pc := 10) C dX2_tell_10 rfl ?_
  refine z_iload_n (pc := 11) C dX2_tell_11 rfl ?_
  refine z_putI (pc := 12) C zf_X2_16 zp_2_2 rfl rfl h0 dX2_tell_12 ?_
  refine w_memy hI2 hF2 b3 rfl (fun g3 qm3 hI3 hF3 => ?_)
  exact z_vret (pc := 15) C hr dX2_tell_15 ⟨rfl, hI3, hF3, (by subst qm3 qm2 qm1; rfl)⟩

set_option maxRecDepth 100000 in
set_option maxHeartbeats 4000000 in
theorem x_X3_stand (d : Nat) (f : zM) (m0 : Nat) (h0 : m0 < zcnt 6) (m1 : Nat) (h1 : m1 < zcnt 6) (hp0 : m0 ≠ m1) (hI : zInv f) : ZM d yX3_stand cX3_stand 2 none [zr 6 m0, zr 6 m1] f (fun r g => r = none ∧ zInv g ∧ zFr [(6, some 1), (6, some 4), (6, some 5), (6, some 6)] f g ∧ (g 6 m0 1 = f 6 m1 1 ∧ g 6 m0 4 = f 6 m1 4 ∧ g 6 m0 5 = f 6 m1 5 ∧ g 6 m0 6 = f 6 m1 6) ∧ (∀ n j, n ≠ m0 → g 6 n j = f 6 n j)) := by
  refine ZM.intro (by decide +kernel) (Nat.le_of_ble_eq_true rfl) ?_
  intro X C hr hn
  have hF : zFr [(6, some 1), (6, some 4), (6, some 5), (6, some 6)] f f := zFr.rf _ _
  show Z X 0 [some (zr 6 m0), some (zr 6 m1)] [] f
  refine z_aload_n (pc := 0) C dX3_stand_0 rfl ?_
  refine z_aload_n (pc := 1) C dX3_stand_1 rfl ?_
  refine z_getI (pc := 2) C zf_X3_18 rfl rfl h1 dX3_stand_2 ?_
  refine w_gp (fun v => v = f 6 m1 1) rfl (fun v2 q2 => ?_)
  have b2x : zB v2 0 5 := by rw [q2]; exact (hI 6 m1 1)
  refine z_putI (pc := 5) C zf_X3_18 zp_3_1 rfl rfl h0 dX3_stand_5 ?_
  refine w_memy hI hF b2x rfl (fun g3 qm3 hI3 hF3 => ?_)
  refine z_aload_n (pc := 8) C dX3_stand_8 rfl ?_
  refine z_aload_n (pc := 9) C dX3_stand_9 rfl ?_
  refine z_getI (pc := 10) C zf_X3_21 rfl rfl h1 dX3_stand_10 ?_
  refine w_gp (fun v => v = g3 6 m1 4) rfl (fun v5 q5 => ?_)
  have b5x : zB v5 0 1 := by rw [q5]; exact (hI3 6 m1 4)
  refine z_putZ (pc := 13) C zf_X3_21 zp_3_4 (z01 b5x) rfl rfl h0 dX3_stand_13 ?_
  refine w_memy hI3 hF3 b5x rfl (fun g6 qm6 hI6 hF6 => ?_)
  refine z_aload_n (pc := 16) C dX3_stand_16 rfl ?_
  refine z_aload_n (pc := 17) C dX3_stand_17 rfl ?_
  refine z_getI (pc := 18) C zf_X3_9 rfl rfl h1 dX3_stand_18 ?_
  refine w_gp (fun v => v = g6 6 m1 5) rfl (fun v8 q8 => ?_)
  have b8x : zB v8 (-4) 5 := by rw [q8]; exact (hI6 6 m1 5)
  refine z_putI (pc := 21) C zf_X3_9 zp_3_5 rfl rfl h0 dX3_stand_21 ?_
  refine w_memy hI6 hF6 b8x rfl (fun g9 qm9 hI9 hF9 => ?_)
  refine z_aload_n (pc := 24) C dX3_stand_24 rfl ?_
  refine z_aload_n (pc := 25) C dX3_stand_25 rfl ?_
  refine z_getI (pc := 26) C zf_X3_15 rfl rfl h1 dX3_stand_26 ?_
  refine w_gp (fun v => v = g9 6 m1 6) rfl (fun v11 q11 => ?_)
  have b11x : zB v11 0 255 := by rw [q11]; exact (hI9 6 m1 6)
  refine z_putI (pc := 29) C zf_X3_15 zp_3_6 rfl rfl h0 dX3_stand_29 ?_
  refine w_memy hI9 hF9 b11x rfl (fun g12 qm12 hI12 hF12 => ?_)
  exact z_vret (pc := 32) C hr dX3_stand_32 ⟨rfl, hI12, hF12, (by have hs := Ne.symm hp0; subst_vars; simp [zup, hs]), (by intro n j hn; subst_vars; simp [zup, hn])⟩

set_option maxRecDepth 100000 in
set_option maxHeartbeats 4000000 in
theorem x_X3_copy (d : Nat) (f : zM) (m0 : Nat) (h0 : m0 < zcnt 6) (m1 : Nat) (h1 : m1 < zcnt 6) (hp0 : m0 ≠ m1) (hI : zInv f) : ZM (d + 1) yX3_copy cX3_copy 2 none [zr 6 m0, zr 6 m1] f (fun r g => r = none ∧ zInv g ∧ zFr [(6, some 0), (6, some 1), (6, some 2), (6, some 3), (6, some 4), (6, some 5), (6, some 6)] f g ∧ (∀ j, j < 7 → g 6 m0 j = f 6 m1 j) ∧ (∀ n j, n ≠ m0 → g 6 n j = f 6 n j)) := by
  refine ZM.intro (by decide +kernel) (Nat.le_of_ble_eq_true rfl) ?_
  intro X C hr hn
  have hF : zFr [(6, some 0), (6, some 1), (6, some 2), (6, some 3), (6, some 4), (6, some 5), (6, some 6)] f f := zFr.rf _ _
  show Z X 0 [some (zr 6 m0), some (zr 6 m1)] [] f
  refine z_aload_n (pc := 0) C dX3_copy_0 rfl ?_
  refine z_aload_n (pc := 1) C dX3_copy_1 rfl ?_
  refine z_callV (pc := 2) C zk_X3_25 (x_X3_stand _ _ m0 h0 m1 h1 (by exact hp0) hI) rfl rfl h0 rfl rfl (Nat.le_of_ble_eq_true rfl) dX3_copy_2 (fun r1 g1 q1 => ?_)
  obtain ⟨rfl, hI1, hF1q, hp1_0, hp1_1⟩ := q1
  have hF1 := zFr.tr hF hF1q (by decide)
  simp only [Option.toList, List.cons_append, List.nil_append]
  refine z_aload_n (pc := 5) C dX3_copy_5 rfl ?_
  refine z_aload_n (pc := 6) C dX3_copy_6 rfl ?_
  refine z_getI (pc := 7) C zf_X3_29 rfl rfl h1 dX3_copy_7 ?_
  refine w_gp (fun v => v = g1 6 m1 0) rfl (fun v3 q3 => ?_)
  have b3x : zB v3 0 5 := by rw [q3]; exact (hI1 6 m1 0)
  refine z_putI (pc := 10) C zf_X3_29 zp_3_0 rfl rfl h0 dX3_copy_10 ?_
  refine w_memy hI1 hF1 b3x rfl (fun g4 qm4 hI4 hF4 => ?_)
  refine z_aload_n (pc := 13) C dX3_copy_13 rfl ?_
  refine z_aload_n (pc := 14) C dX3_copy_14 rfl ?_
  refine z_getI (pc := 15) C zf_X3_32 rfl rfl h1 dX3_copy_15 ?_
  refine w_gp (fun v => v = g4 6 m1 2) rfl (fun v6 q6 => ?_)
  have b6x : zB v6 0 99 := by rw [q6]; exact (hI4 6 m1 2)
  refine z_putI (pc := 18) C zf_X3_32 zp_3_2 rfl rfl h0 dX3_copy_18 ?_
  refine w_memy hI4 hF4 b6x rfl (fun g7 qm7 hI7 hF7 => ?_)
  refine z_aload_n (pc := 21) C dX3_copy_21 rfl ?_
  refine z_aload_n (pc := 22) C dX3_copy_22 rfl ?_
  refine z_getI (pc := 23) C zf_X3_35 rfl rfl h1 dX3_copy_23 ?_
  refine w_gp (fun v => v = g7 6 m1 3) rfl (fun v9 q9 => ?_)
  have b9x : zB v9 (-2147483648) 2147483647 := by rw [q9]; exact (hI7 6 m1 3)
  refine z_putI (pc := 26) C zf_X3_35 zp_3_3 rfl rfl h0 dX3_copy_26 ?_
  refine w_memy hI7 hF7 b9x rfl (fun g10 qm10 hI10 hF10 => ?_)
  exact z_vret (pc := 29) C hr dX3_copy_29 ⟨rfl, hI10, hF10, (by
                                                                                          have hs := Ne.symm hp0
                                                                                          have h1 := hp1_0
                                                                                          have h2 := hp1_1
                                                                                          intro j hj
                                                                                          rcases (show j = 0 ∨ j = 1 ∨ j = 2 ∨ j = 3 ∨ j = 4 ∨ j = 5 ∨ j = 6 by omega) with rfl | rfl | rfl | rfl | rfl | rfl | rfl <;> subst_vars <;> simp [zup, hs, h1, h2]), (by have h2 := hp1_1; intro n j hn; subst_vars; simp [zup, hn, h2])⟩

set_option maxRecDepth 100000 in
set_option maxHeartbeats 4000000 in
theorem x_X8_copy_1 (d : Nat) (f : zM)  (hI : zInv f) : ZM (d + 3) yX8_copy cX8_copy 3 none [zr 1 1, zr 1 0] f (fun r g => r = none ∧ zInv g ∧ zFr [(1, some 5), (1, some 6), (1, some 7), (1, some 8), (6, some 0), (6, some 1), (6, some 2), (6, some 3), (6, some 4), (6, some 5), (6, some 6), (7, some 0), (7, some 1), (7, some 2), (7, some 3), (7, some 4), (7, some 5), (8, some 0), (8, some 1), (8, some 2), (8, some 3), (8, some 4), (8, some 5), (8, some 6), (8, some 7), (9, none), (10, none), (11, some 0), (11, some 1), (11, some 2), (11, some 3), (11, some 4), (11, some 5), (11, some 6), (11, some 7), (12, some 0), (12, some 1), (12, some 2)] f g ∧ (g 1 1 5 = f 1 0 5) ∧ (g 1 1 6 = f 1 0 6) ∧ (g 1 1 7 = f 1 0 7) ∧ (g 1 1 8 = f 1 0 8) ∧ (g 1 0 5 = f 1 0 5) ∧ (g 1 0 6 = f 1 0 6) ∧ (g 1 0 7 = f 1 0 7) ∧ (g 1 0 8 = f 1 0 8) ∧ (zcpd f g 7 24 0 (f 1 0 5).toInt.toNat 6 24) ∧ (zcpd f g 8 8 0 (f 1 0 6).toInt.toNat 5 8) ∧ (zcpd f g 11 12 0 (f 1 0 7).toInt.toNat 8 12) ∧ (zcpd f g 12 8 0 (f 1 0 8).toInt.toNat 3 8) ∧ (∀ j, j < 7 → g 6 1 j = f 6 0 j) ∧ (∀ j, j < 7 → g 6 0 j = f 6 0 j) ∧ ((∀ n j, n < 8 → g 8 n j = f 8 n j) ∧ (∀ n j, n < 8 → g 9 n j = f 9 n j) ∧ (∀ n j, n < 8 → g 10 n j = f 10 n j))) := by
  refine ZM.intro (by decide +kernel) (Nat.le_of_ble_eq_true rfl) ?_
  intro X C hr hn
  have hF : zFr [(1, some 5), (1, some 6), (1, some 7), (1, some 8), (6, some 0), (6, some 1), (6, some 2), (6, some 3), (6, some 4), (6, some 5), (6, some 6), (7, some 0), (7, some 1), (7, some 2), (7, some 3), (7, some 4), (7, some 5), (8, some 0), (8, some 1), (8, some 2), (8, some 3), (8, some 4), (8, some 5), (8, some 6), (8, some 7), (9, none), (10, none), (11, some 0), (11, some 1), (11, some 2), (11, some 3), (11, some 4), (11, some 5), (11, some 6), (11, some 7), (12, some 0), (12, some 1), (12, some 2)] f f := zFr.rf _ _
  have ct1_1_5 : zB (f 1 1 5) 0 24 := hI 1 1 5
  have ct1_1_6 : zB (f 1 1 6) 0 8 := hI 1 1 6
  have ct1_1_7 : zB (f 1 1 7) 0 12 := hI 1 1 7
  have ct1_1_8 : zB (f 1 1 8) 0 8 := hI 1 1 8
  have ct1_0_5 : zB (f 1 0 5) 0 24 := hI 1 0 5
  have ct1_0_6 : zB (f 1 0 6) 0 8 := hI 1 0 6
  have ct1_0_7 : zB (f 1 0 7) 0 12 := hI 1 0 7
  have ct1_0_8 : zB (f 1 0 8) 0 8 := hI 1 0 8
  have J : ∀ t : Nat, (∀ a10_2 : Int32, zB a10_2 0 24 → ∀ g : zM, zInv g → zFr [(1, some 5), (1, some 6), (1, some 7), (1, some 8), (6, some 0), (6, some 1), (6, some 2), (6, some 3), (6, some 4), (6, some 5), (6, some 6), (7, some 0), (7, some 1), (7, some 2), (7, some 3), (7, some 4), (7, some 5), (8, some 0), (8, some 1), (8, some 2), (8, some 3), (8, some 4), (8, some 5), (8, some 6), (8, some 7), (9, none), (10, none), (11, some 0), (11, some 1), (11, some 2), (11, some 3), (11, some 4), (11, some 5), (11, some 6), (11, some 7), (12, some 0), (12, some 1), (12, some 2)] f g → zB (g 1 0 5) 0 24 → zB (g 1 0 6) 0 8 → zB (g 1 0 7) 0 12 → zB (g 1 0 8) 0 8 → zB (g 1 1 5) 0 24 → zB (g 1 1 6) 0 8 → zB (g 1 1 7) 0 12 → zB (g 1 1 8) 0 8 → ((g 1 1 5).toInt = (f 1 0 5).toInt) → ((g 1 0 5).toInt = (f 1 0 5).toInt) → ((g 1 0 6).toInt = (f 1 0 6).toInt) → ((g 1 0 7).toInt = (f 1 0 7).toInt) → ((g 1 0 8).toInt = (f 1 0 8).toInt) → (a10_2.toInt ≤ (f 1 0 5).toInt) → (zcpd f g 7 24 0 a10_2.toInt.toNat 6 24) → (zcpd f g 8 8 0 0 5 8) → (zcpd f g 11 12 0 0 8 12) → (zcpd f g 12 8 0 0 3 8) → (∀ n j, g 6 n j = f 6 n j) → ((∀ n j, n < 8 → g 8 n j = f 8 n j) ∧ (∀ n j, n < 8 → g 9 n j = f 9 n j) ∧ (∀ n j, n < 8 → g 10 n j = f 10 n j)) → (8397 + 8400 * (24 - a10_2.toInt) : Int) < t → Z X 10 [some (zr 1 1), some (zr 1 0), some (zi a10_2)] [] g) ∧ (∀ a49_2 : Int32, zB a49_2 0 8 → ∀ g : zM, zInv g → zFr [(1, some 5), (1, some 6), (1, some 7), (1, some 8), (6, some 0), (6, some 1), (6, some 2), (6, some 3), (6, some 4), (6, some 5), (6, some 6), (7, some 0), (7, some 1), (7, some 2), (7, some 3), (7, some 4), (7, some 5), (8, some 0), (8, some 1), (8, some 2), (8, some 3), (8, some 4), (8, some 5), (8, some 6), (8, some 7), (9, none), (10, none), (11, some 0), (11, some 1), (11, some 2), (11, some 3), (11, some 4), (11, some 5), (11, some 6), (11, some 7), (12, some 0), (12, some 1), (12, some 2)] f g → zB (g 1 0 5) 0 24 → zB (g 1 0 6) 0 8 → zB (g 1 0 7) 0 12 → zB (g 1 0 8) 0 8 → zB (g 1 1 5) 0 24 → zB (g 1 1 6) 0 8 → zB (g 1 1 7) 0 12 → zB (g 1 1 8) 0 8 → ((g 1 1 5).toInt = (f 1 0 5).toInt) → ((g 1 0 5).toInt = (f 1 0 5).toInt) → ((g 1 1 6).toInt = (f 1 0 6).toInt) → ((g 1 0 6).toInt = (f 1 0 6).toInt) → ((g 1 0 7).toInt = (f 1 0 7).toInt) → ((g 1 0 8).toInt = (f 1 0 8).toInt) → (a49_2.toInt ≤ (f 1 0 6).toInt) → (zcpd f g 7 24 0 (f 1 0 5).toInt.toNat 6 24) → (zcpd f g 8 8 0 a49_2.toInt.toNat 5 8) → (zcpd f g 11 12 0 0 8 12) → (zcpd f g 12 8 0 0 3 8) → (∀ n j, g 6 n j = f 6 n j) → ((∀ n j, n < 8 → g 8 n j = f 8 n j) ∧ (∀ n j, n < 8 → g 9 n j = f 9 n j) ∧ (∀ n j, n < 8 → g 10 n j = f 10 n j)) → (836 + 840 * (8 - a49_2.toInt) : Int) < t → Z X 49 [some (zr 1 1), some (zr 1 0), some (zi a49_2)] [] g) ∧ (∀ a93_2 : Int32, zB a93_2 0 12 → ∀ g : zM, zInv g → zFr [(1, some 5), (1, some 6), (1, some 7), (1, some 8), (6, some 0), (6, some 1), (6, some 2), (6, some 3), (6, some 4), (6, some 5), (6, some 6), (7, some 0), (7, some 1), (7, some 2), (7, some 3), (7, some 4), (7, some 5), (8, some 0), (8, some 1), (8, some 2), (8, some 3), (8, some 4), (8, some 5), (8, some 6), (8, some 7), (9, none), (10, none), (11, some 0), (11, some 1), (11, some 2), (11, some 3), (11, some 4), (11, some 5), (11, some 6), (11, some 7), (12, some 0), (12, some 1), (12, some 2)] f g → zB (g 1 0 5) 0 24 → zB (g 1 0 6) 0 8 → zB (g 1 0 7) 0 12 → zB (g 1 0 8) 0 8 → zB (g 1 1 5) 0 24 → zB (g 1 1 6) 0 8 → zB (g 1 1 7) 0 12 → zB (g 1 1 8) 0 8 → ((g 1 1 5).toInt = (f 1 0 5).toInt) → ((g 1 0 5).toInt = (f 1 0 5).toInt) → ((g 1 1 6).toInt = (f 1 0 6).toInt) → ((g 1 0 6).toInt = (f 1 0 6).toInt) → ((g 1 1 7).toInt = (f 1 0 7).toInt) → ((g 1 0 7).toInt = (f 1 0 7).toInt) → ((g 1 0 8).toInt = (f 1 0 8).toInt) → (a93_2.toInt ≤ (f 1 0 7).toInt) → (zcpd f g 7 24 0 (f 1 0 5).toInt.toNat 6 24) → (zcpd f g 8 8 0 (f 1 0 6).toInt.toNat 5 8) → (zcpd f g 11 12 0 a93_2.toInt.toNat 8 12) → (zcpd f g 12 8 0 0 3 8) → (∀ n j, g 6 n j = f 6 n j) → ((∀ n j, n < 8 → g 8 n j = f 8 n j) ∧ (∀ n j, n < 8 → g 9 n j = f 9 n j) ∧ (∀ n j, n < 8 → g 10 n j = f 10 n j)) → (55 + 60 * (12 - a93_2.toInt) : Int) < t → Z X 93 [some (zr 1 1), some (zr 1 0), some (zi a93_2)] [] g) ∧ (∀ a132_2 : Int32, zB a132_2 0 8 → ∀ g : zM, zInv g → zFr [(1, some 5), (1, some 6), (1, some 7), (1, some 8), (6, some 0), (6, some 1), (6, some 2), (6, some 3), (6, some 4), (6, some 5), (6, some 6), (7, some 0), (7, some 1), (7, some 2), (7, some 3), (7, some 4), (7, some 5), (8, some 0), (8, some 1), (8, some 2), (8, some 3), (8, some 4), (8, some 5), (8, some 6), (8, some 7), (9, none), (10, none), (11, some 0), (11, some 1), (11, some 2), (11, some 3), (11, some 4), (11, some 5), (11, some 6), (11, some 7), (12, some 0), (12, some 1), (12, some 2)] f g → zB (g 1 0 5) 0 24 → zB (g 1 0 6) 0 8 → zB (g 1 0 7) 0 12 → zB (g 1 0 8) 0 8 → zB (g 1 1 5) 0 24 → zB (g 1 1 6) 0 8 → zB (g 1 1 7) 0 12 → zB (g 1 1 8) 0 8 → ((g 1 1 5).toInt = (f 1 0 5).toInt) → ((g 1 0 5).toInt = (f 1 0 5).toInt) → ((g 1 1 6).toInt = (f 1 0 6).toInt) → ((g 1 0 6).toInt = (f 1 0 6).toInt) → ((g 1 1 7).toInt = (f 1 0 7).toInt) → ((g 1 0 7).toInt = (f 1 0 7).toInt) → ((g 1 1 8).toInt = (f 1 0 8).toInt) → ((g 1 0 8).toInt = (f 1 0 8).toInt) → (a132_2.toInt ≤ (f 1 0 8).toInt) → (zcpd f g 7 24 0 (f 1 0 5).toInt.toNat 6 24) → (zcpd f g 8 8 0 (f 1 0 6).toInt.toNat 5 8) → (zcpd f g 11 12 0 (f 1 0 7).toInt.toNat 8 12) → (zcpd f g 12 8 0 a132_2.toInt.toNat 3 8) → (∀ n j, g 6 n j = f 6 n j) → ((∀ n j, n < 8 → g 8 n j = f 8 n j) ∧ (∀ n j, n < 8 → g 9 n j = f 9 n j) ∧ (∀ n j, n < 8 → g 10 n j = f 10 n j)) → (0 + 6 * (8 - a132_2.toInt) : Int) < t → Z X 132 [some (zr 1 1), some (zr 1 0), some (zi a132_2)] [] g) := by
    intro t
    induction t with
    | zero =>
      refine ⟨?_, ?_, ?_, ?_⟩ <;> (intros; exfalso; omega)
    | succ t ih =>
      obtain ⟨ih0, ih1, ih2, ih3⟩ := ih
      refine ⟨?_, ?_, ?_, ?_⟩
      · skip
        intro a10_2 b10_2 g10_ hI10_ hF10_ f10_1_0_5 f10_1_0_6 f10_1_0_7 f10_1_0_8 f10_1_1_5 f10_1_1_6 f10_1_1_7 f10_1_1_8 hR10_0 hR10_1 hR10_2 hR10_3 hR10_4 hR10_5 hR10_6 hR10_7 hR10_8 hR10_9 hR10_10 hR10_11 hM10_
        refine z_iload_n (pc := 10) C dX8_copy_10 rfl ?_
        refine z_aload_n (pc := 11) C dX8_copy_11 rfl ?_
        refine z_getI (pc := 12) C zf_X8_46 rfl rfl (by decide) dX8_copy_12 ?_
        refine w_gp (fun v => v = g10_ 1 1 5) rfl (fun v1 q1 => ?_)
        have e1 : v1.toInt = (g10_ 1 1 5).toInt := by rw [q1]
        have b1x : zB v1 0 24 := by first | exact zB.eqv e1 f10_1_1_5 | (have q9 := f10_1_1_5; constructor <;> omega)
        refine z_icmp_ge (pc := 15) 39 C dX8_copy_15 (by decide) (fun h15_1 => ?_) (fun h15_1 => ?_)
        · skip
          have rr3 : a10_2.toInt ≥ v1.toInt := by simp only [z32lt, z32le, z32eq] at h15_1; omega
          refine z_aload_n (pc := 39) C dX8_copy_39 rfl ?_
          refine z_aload_n (pc := 40) C dX8_copy_40 rfl ?_
          refine z_getI (pc := 41) C zf_X8_54 rfl rfl (by decide) dX8_copy_41 ?_
          refine w_gp (fun v => v = g10_ 1 0 6) rfl (fun v4 q4 => ?_)
          have e4 : v4.toInt = (g10_ 1 0 6).toInt := by rw [q4]
          have b4x : zB v4 0 8 := by first | exact zB.eqv e4 f10_1_0_6 | (have q9 := f10_1_0_6; constructor <;> omega)
          refine z_putI (pc := 44) C zf_X8_54 zp_8_6 rfl rfl (by decide) dX8_copy_44 ?_
          refine w_memx hI10_ hF10_ b4x rfl (fun g5 qm5 hI5 hF5 hq5 hx5 => ?_)
          have ek5_1_1_5 : (g5 1 1 5).toInt = (g10_ 1 1 5).toInt := by rw [hq5 1 1 5 (by omega)]
          have c5_1_1_5x : zB (g5 1 1 5) 0 24 := by first | exact zB.eqv ek5_1_1_5 f10_1_1_5 | (have q9 := f10_1_1_5; constructor <;> omega)
          have ec5 : (g5 1 1 6).toInt = v4.toInt := by rw [hx5]
          have c5x : zB (g5 1 1 6) 0 8 := by first | exact zB.eqv ec5 b4x | (have q9 := b4x; constructor <;> omega)
          have ek5_1_1_7 : (g5 1 1 7).toInt = (g10_ 1 1 7).toInt := by rw [hq5 1 1 7 (by omega)]
          have c5_1_1_7x : zB (g5 1 1 7) 0 12 := by first | exact zB.eqv ek5_1_1_7 f10_1_1_7 | (have q9 := f10_1_1_7; constructor <;> omega)
          have ek5_1_1_8 : (g5 1 1 8).toInt = (g10_ 1 1 8).toInt := by rw [hq5 1 1 8 (by omega)]
          have c5_1_1_8x : zB (g5 1 1 8) 0 8 := by first | exact zB.eqv ek5_1_1_8 f10_1_1_8 | (have q9 := f10_1_1_8; constructor <;> omega)
          have ek5_1_0_5 : (g5 1 0 5).toInt = (g10_ 1 0 5).toInt := by rw [hq5 1 0 5 (by omega)]
          have c5_1_0_5x : zB (g5 1 0 5) 0 24 := by first | exact zB.eqv ek5_1_0_5 f10_1_0_5 | (have q9 := f10_1_0_5; constructor <;> omega)
          have ek5_1_0_6 : (g5 1 0 6).toInt = (g10_ 1 0 6).toInt := by rw [(show g5 1 0 6 = g10_ 1 0 6 by rw [qm5]; exact zup_ne _ _ (by omega))]
          have c5_1_0_6x : zB (g5 1 0 6) 0 8 := by first | exact zB.eqv ek5_1_0_6 f10_1_0_6 | (have q9 := f10_1_0_6; constructor <;> omega)
          have ek5_1_0_7 : (g5 1 0 7).toInt = (g10_ 1 0 7).toInt := by rw [hq5 1 0 7 (by omega)]
          have c5_1_0_7x : zB (g5 1 0 7) 0 12 := by first | exact zB.eqv ek5_1_0_7 f10_1_0_7 | (have q9 := f10_1_0_7; constructor <;> omega)
          have ek5_1_0_8 : (g5 1 0 8).toInt = (g10_ 1 0 8).toInt := by rw [hq5 1 0 8 (by omega)]
          have c5_1_0_8x : zB (g5 1 0 8) 0 8 := by first | exact zB.eqv ek5_1_0_8 f10_1_0_8 | (have q9 := f10_1_0_8; constructor <;> omega)
          refine z_iconst (pc := 47) (v := 0) C dX8_copy_47 (by decide) ?_
          refine z_istore_n (pc := 48) C dX8_copy_48 (by rw [hn]; decide) rfl ?_
          exact ih1 0 (zB.wk (a' := 0) (b' := 8) (zB.of (x := 0) 0 (by decide)) (by decide) (by decide)) g5 hI5 hF5 c5_1_0_5x c5_1_0_6x c5_1_0_7x c5_1_0_8x c5_1_1_5x c5x c5_1_1_7x c5_1_1_8x (by have qc0 : (0 : Int32).toInt = 0 := (by decide); omega) (by have qc0 : (0 : Int32).toInt = 0 := (by decide); omega) (by have qc0 : (0 : Int32).toInt = 0 := (by decide); omega) (by have qc0 : (0 : Int32).toInt = 0 := (by decide); omega) (by have qc0 : (0 : Int32).toInt = 0 := (by decide); omega) (by have qc0 : (0 : Int32).toInt = 0 := (by decide); omega) (by have qc0 : (0 : Int32).toInt = 0 := (by decide); omega) (by
                                                                                          have hz : (f 1 0 5).toInt.toNat = a10_2.toInt.toNat := by omega
                                                                                          rw [hz]
                                                                                          exact zcpd_keep hR10_6 (fun x j hj => by subst qm5; exact zup_ne _ _ (by omega))) (by
                                                                                          show zcpd f g5 8 8 0 0 5 8
                                                                                          exact zcpd_keep hR10_7 (fun x j hj => by subst qm5; exact zup_ne _ _ (by omega))) (by
                                                                                          exact zcpd_keep hR10_8 (fun x j hj => by subst qm5; exact zup_ne _ _ (by omega))) (by
                                                                                          exact zcpd_keep hR10_9 (fun x j hj => by subst qm5; exact zup_ne _ _ (by omega))) (by intro n j; subst qm5; exact (zup_ne _ _ (by omega)).trans (hR10_10 n j)) (by exact ⟨fun n j q => ((show g5 8 n j = g10_ 8 n j by rw [qm5]; exact zup_ne _ _ (by omega))).trans (hR10_11.1 n j q), fun n j q => ((show g5 9 n j = g10_ 9 n j by rw [qm5]; exact zup_ne _ _ (by omega))).trans (hR10_11.2.1 n j q), fun n j q => ((show g5 10 n j = g10_ 10 n j by rw [qm5]; exact zup_ne _ _ (by omega))).trans (hR10_11.2.2 n j q)⟩) (by have qc0 : (0 : Int32).toInt = 0 := (by decide); omega)
        · skip
          have rr6 : a10_2.toInt < v1.toInt := by simp only [z32lt, z32le, z32eq] at h15_1; omega
          have b7x : zB a10_2 0 23 := by have q1 := b10_2; have q2 := b1x; simp only [z32lt, z32le, z32eq, Int32.reduceToInt, Int32.toInt_zero] at h15_1; constructor <;> omega
          have b8x : zB v1 1 24 := by have q1 := b10_2; have q2 := b1x; simp only [z32lt, z32le, z32eq, Int32.reduceToInt, Int32.toInt_zero] at h15_1; constructor <;> omega
          have c9x : zB (g10_ 1 1 5) 1 24 := by first | assumption | (constructor <;> omega)
          refine z_aload_n (pc := 18) C dX8_copy_18 rfl ?_
          refine z_getR (pc := 19) C zf_X8_11 rfl rfl (by decide) dX8_copy_19 ?_
          refine z_iload_n (pc := 22) C dX8_copy_22 rfl ?_
          refine z_aald (pc := 23) C rfl ⟨rfl, by decide⟩ (by decide) (zIx b7x (by decide) (by decide)) dX8_copy_23 ?_
          refine w_grx (by have hq := zN b7x (by decide); show 24 * 1 + a10_2.toNatClampNeg < 60; omega) (fun m10 q10r h10x => ?_)
          have q10r : m10 = 24 * 1 + a10_2.toNatClampNeg := q10r
          have k10r : a10_2.toNatClampNeg = a10_2.toInt.toNat := rfl
          refine z_aload_n (pc := 24) C dX8_copy_24 rfl ?_
          refine z_getR (pc := 25) C zf_X8_11 rfl rfl (by decide) dX8_copy_25 ?_
          refine z_iload_n (pc := 28) C dX8_copy_28 rfl ?_
          refine z_aald (pc := 29) C rfl ⟨rfl, by decide⟩ (by decide) (zIx b7x (by decide) (by decide)) dX8_copy_29 ?_
          refine w_grx (by have hq := zN b7x (by decide); show 24 * 0 + a10_2.toNatClampNeg < 60; omega) (fun m11 q11r h11x => ?_)
          have q11r : m11 = 24 * 0 + a10_2.toNatClampNeg := q11r
          have k11r : a10_2.toNatClampNeg = a10_2.toInt.toNat := rfl
          refine z_callV (pc := 30) C zk_X8_50 (x_X0_copy _ _ m10 h10x m11 h11x hI10_) rfl rfl h10x rfl rfl (Nat.le_of_ble_eq_true rfl) dX8_copy_30 (fun r12 g12 q12 => ?_)
          obtain ⟨rfl, hI12, hF12q, hp12_0, hp12_1⟩ := q12
          have hF12 := zFr.tr hF10_ hF12q (by decide)
          simp only [Option.toList, List.cons_append, List.nil_append]
          have ek12_1_1_5 : (g12 1 1 5).toInt = (g10_ 1 1 5).toInt := by rw [hF12q 1 1 5 rfl]
          have c12_1_1_5x : zB (g12 1 1 5) 1 24 := by first | exact zB.eqv ek12_1_1_5 c9x | (have q9 := c9x; constructor <;> omega)
          have ek12_1_1_6 : (g12 1 1 6).toInt = (g10_ 1 1 6).toInt := by rw [hF12q 1 1 6 rfl]
          have c12_1_1_6x : zB (g12 1 1 6) 0 8 := by first | exact zB.eqv ek12_1_1_6 f10_1_1_6 | (have q9 := f10_1_1_6; constructor <;> omega)
          have ek12_1_1_7 : (g12 1 1 7).toInt = (g10_ 1 1 7).toInt := by rw [hF12q 1 1 7 rfl]
          have c12_1_1_7x : zB (g12 1 1 7) 0 12 := by first | exact zB.eqv ek12_1_1_7 f10_1_1_7 | (have q9 := f10_1_1_7; constructor <;> omega)
          have ek12_1_1_8 : (g12 1 1 8).toInt = (g10_ 1 1 8).toInt := by rw [hF12q 1 1 8 rfl]
          have c12_1_1_8x : zB (g12 1 1 8) 0 8 := by first | exact zB.eqv ek12_1_1_8 f10_1_1_8 | (have q9 := f10_1_1_8; constructor <;> omega)
          have ek12_1_0_5 : (g12 1 0 5).toInt = (g10_ 1 0 5).toInt := by rw [hF12q 1 0 5 rfl]
          have c12_1_0_5x : zB (g12 1 0 5) 0 24 := by first | exact zB.eqv ek12_1_0_5 f10_1_0_5 | (have q9 := f10_1_0_5; constructor <;> omega)
          have ek12_1_0_6 : (g12 1 0 6).toInt = (g10_ 1 0 6).toInt := by rw [hF12q 1 0 6 rfl]
          have c12_1_0_6x : zB (g12 1 0 6) 0 8 := by first | exact zB.eqv ek12_1_0_6 f10_1_0_6 | (have q9 := f10_1_0_6; constructor <;> omega)
          have ek12_1_0_7 : (g12 1 0 7).toInt = (g10_ 1 0 7).toInt := by rw [hF12q 1 0 7 rfl]
          have c12_1_0_7x : zB (g12 1 0 7) 0 12 := by first | exact zB.eqv ek12_1_0_7 f10_1_0_7 | (have q9 := f10_1_0_7; constructor <;> omega)
          have ek12_1_0_8 : (g12 1 0 8).toInt = (g10_ 1 0 8).toInt := by rw [hF12q 1 0 8 rfl]
          have c12_1_0_8x : zB (g12 1 0 8) 0 8 := by first | exact zB.eqv ek12_1_0_8 f10_1_0_8 | (have q9 := f10_1_0_8; constructor <;> omega)
          refine z_iinc (pc := 33) (v := 1) C dX8_copy_33 rfl (by decide) (by rw [hn]; decide) rfl ?_
          obtain ⟨v13, hv13, e13⟩ : ∃ v : Int32, v = a10_2 + 1 ∧ v.toInt = a10_2.toInt + 1 := ⟨_, rfl, zadd_eb b7x (zB.of (x := 1) 1 (by decide)) (by decide) (by decide)⟩
          rw [← hv13]
          have b13x : zB v13 1 24 := by have q9 := b7x; constructor <;> omega
          refine z_goto (pc := 36) 10 C dX8_copy_36 (by decide) ?_
          exact ih0 v13 (zB.wk (a' := 0) (b' := 24) b13x (by decide) (by decide)) g12 hI12 hF12 c12_1_0_5x c12_1_0_6x c12_1_0_7x c12_1_0_8x (zB.wk c12_1_1_5x (by decide) (by decide)) c12_1_1_6x c12_1_1_7x c12_1_1_8x (by omega) (by omega) (by omega) (by omega) (by omega) (by omega) (by
                                                                                          have hn : (v13).toInt.toNat = a10_2.toInt.toNat + 1 := by omega
                                                                                          rw [hn]
                                                                                          have hm0 : m10 = 24 + a10_2.toInt.toNat := by omega
                                                                                          have hm1 : m11 = 0 + a10_2.toInt.toNat := by omega
                                                                                          refine zcpd_s hR10_6 (by omega) (by omega) (fun j hj => ?_) (fun x j hx hj => ?_)
                                                                                          · rw [← hm0, ← hm1]; exact hp12_0 j hj
                                                                                          · exact hp12_1 x j (by omega)) (by
                                                                                          exact zcpd_keep hR10_7 (fun x j hj => hF12q 8 x j rfl)) (by
                                                                                          exact zcpd_keep hR10_8 (fun x j hj => hF12q 11 x j rfl)) (by
                                                                                          exact zcpd_keep hR10_9 (fun x j hj => hF12q 12 x j rfl)) (by intro n j; exact (hF12q 6 n j rfl).trans (hR10_10 n j)) (by exact ⟨fun n j q => (hF12q 8 n j rfl).trans (hR10_11.1 n j q), fun n j q => (hF12q 9 n j rfl).trans (hR10_11.2.1 n j q), fun n j q => (hF12q 10 n j rfl).trans (hR10_11.2.2 n j q)⟩) (by omega)
      · skip
        intro a49_2 b49_2 g49_ hI49_ hF49_ f49_1_0_5 f49_1_0_6 f49_1_0_7 f49_1_0_8 f49_1_1_5 f49_1_1_6 f49_1_1_7 f49_1_1_8 hR49_0 hR49_1 hR49_2 hR49_3 hR49_4 hR49_5 hR49_6 hR49_7 hR49_8 hR49_9 hR49_10 hR49_11 hR49_12 hM49_
        refine z_iload_n (pc := 49) C dX8_copy_49 rfl ?_
        refine z_aload_n (pc := 50) C dX8_copy_50 rfl ?_
        refine z_getI (pc := 51) C zf_X8_54 rfl rfl (by decide) dX8_copy_51 ?_
        refine w_gp (fun v => v = g49_ 1 1 6) rfl (fun v14 q14 => ?_)
        have e14 : v14.toInt = (g49_ 1 1 6).toInt := by rw [q14]
        have b14x : zB v14 0 8 := by first | exact zB.eqv e14 f49_1_1_6 | (have q9 := f49_1_1_6; constructor <;> omega)
        refine z_icmp_ge (pc := 54) 83 C dX8_copy_54 (by decide) (fun h54_14 => ?_) (fun h54_14 => ?_)
        · skip
          have rr16 : a49_2.toInt ≥ v14.toInt := by simp only [z32lt, z32le, z32eq] at h54_14; omega
          refine z_aload_n (pc := 83) C dX8_copy_83 rfl ?_
          refine z_aload_n (pc := 84) C dX8_copy_84 rfl ?_
          refine z_getI (pc := 85) C zf_X8_64 rfl rfl (by decide) dX8_copy_85 ?_
          refine w_gp (fun v => v = g49_ 1 0 7) rfl (fun v17 q17 => ?_)
          have e17 : v17.toInt = (g49_ 1 0 7).toInt := by rw [q17]
          have b17x : zB v17 0 12 := by first | exact zB.eqv e17 f49_1_0_7 | (have q9 := f49_1_0_7; constructor <;> omega)
          refine z_putI (pc := 88) C zf_X8_64 zp_8_7 rfl rfl (by decide) dX8_copy_88 ?_
          refine w_memx hI49_ hF49_ b17x rfl (fun g18 qm18 hI18 hF18 hq18 hx18 => ?_)
          have ek18_1_1_5 : (g18 1 1 5).toInt = (g49_ 1 1 5).toInt := by rw [hq18 1 1 5 (by omega)]
          have c18_1_1_5x : zB (g18 1 1 5) 0 24 := by first | exact zB.eqv ek18_1_1_5 f49_1_1_5 | (have q9 := f49_1_1_5; constructor <;> omega)
          have ek18_1_1_6 : (g18 1 1 6).toInt = (g49_ 1 1 6).toInt := by rw [hq18 1 1 6 (by omega)]
          have c18_1_1_6x : zB (g18 1 1 6) 0 8 := by first | exact zB.eqv ek18_1_1_6 f49_1_1_6 | (have q9 := f49_1_1_6; constructor <;> omega)
          have ec18 : (g18 1 1 7).toInt = v17.toInt := by rw [hx18]
          have c18x : zB (g18 1 1 7) 0 12 := by first | exact zB.eqv ec18 b17x | (have q9 := b17x; constructor <;> omega)
          have ek18_1_1_8 : (g18 1 1 8).toInt = (g49_ 1 1 8).toInt := by rw [hq18 1 1 8 (by omega)]
          have c18_1_1_8x : zB (g18 1 1 8) 0 8 := by first | exact zB.eqv ek18_1_1_8 f49_1_1_8 | (have q9 := f49_1_1_8; constructor <;> omega)
          have ek18_1_0_5 : (g18 1 0 5).toInt = (g49_ 1 0 5).toInt := by rw [hq18 1 0 5 (by omega)]
          have c18_1_0_5x : zB (g18 1 0 5) 0 24 := by first | exact zB.eqv ek18_1_0_5 f49_1_0_5 | (have q9 := f49_1_0_5; constructor <;> omega)
          have ek18_1_0_6 : (g18 1 0 6).toInt = (g49_ 1 0 6).toInt := by rw [hq18 1 0 6 (by omega)]
          have c18_1_0_6x : zB (g18 1 0 6) 0 8 := by first | exact zB.eqv ek18_1_0_6 f49_1_0_6 | (have q9 := f49_1_0_6; constructor <;> omega)
          have ek18_1_0_7 : (g18 1 0 7).toInt = (g49_ 1 0 7).toInt := by rw [(show g18 1 0 7 = g49_ 1 0 7 by rw [qm18]; exact zup_ne _ _ (by omega))]
          have c18_1_0_7x : zB (g18 1 0 7) 0 12 := by first | exact zB.eqv ek18_1_0_7 f49_1_0_7 | (have q9 := f49_1_0_7; constructor <;> omega)
          have ek18_1_0_8 : (g18 1 0 8).toInt = (g49_ 1 0 8).toInt := by rw [hq18 1 0 8 (by omega)]
          have c18_1_0_8x : zB (g18 1 0 8) 0 8 := by first | exact zB.eqv ek18_1_0_8 f49_1_0_8 | (have q9 := f49_1_0_8; constructor <;> omega)
          refine z_iconst (pc := 91) (v := 0) C dX8_copy_91 (by decide) ?_
          refine z_istore_n (pc := 92) C dX8_copy_92 (by rw [hn]; decide) rfl ?_
          exact ih2 0 (zB.wk (a' := 0) (b' := 12) (zB.of (x := 0) 0 (by decide)) (by decide) (by decide)) g18 hI18 hF18 c18_1_0_5x c18_1_0_6x c18_1_0_7x c18_1_0_8x c18_1_1_5x c18_1_1_6x c18x c18_1_1_8x (by have qc0 : (0 : Int32).toInt = 0 := (by decide); omega) (by have qc0 : (0 : Int32).toInt = 0 := (by decide); omega) (by have qc0 : (0 : Int32).toInt = 0 := (by decide); omega) (by have qc0 : (0 : Int32).toInt = 0 := (by decide); omega) (by have qc0 : (0 : Int32).toInt = 0 := (by decide); omega) (by have qc0 : (0 : Int32).toInt = 0 := (by decide); omega) (by have qc0 : (0 : Int32).toInt = 0 := (by decide); omega) (by have qc0 : (0 : Int32).toInt = 0 := (by decide); omega) (by
                                                                                          exact zcpd_keep hR49_7 (fun x j hj => by subst qm18; exact zup_ne _ _ (by omega))) (by
                                                                                          have hz : (f 1 0 6).toInt.toNat = a49_2.toInt.toNat := by omega
                                                                                          rw [hz]
                                                                                          exact zcpd_keep hR49_8 (fun x j hj => by subst qm18; exact zup_ne _ _ (by omega))) (by
                                                                                          show zcpd f g18 11 12 0 0 8 12
                                                                                          exact zcpd_keep hR49_9 (fun x j hj => by subst qm18; exact zup_ne _ _ (by omega))) (by
                                                                                          exact zcpd_keep hR49_10 (fun x j hj => by subst qm18; exact zup_ne _ _ (by omega))) (by intro n j; subst qm18; exact (zup_ne _ _ (by omega)).trans (hR49_11 n j)) (by exact ⟨fun n j q => ((show g18 8 n j = g49_ 8 n j by rw [qm18]; exact zup_ne _ _ (by omega))).trans (hR49_12.1 n j q), fun n j q => ((show g18 9 n j = g49_ 9 n j by rw [qm18]; exact zup_ne _ _ (by omega))).trans (hR49_12.2.1 n j q), fun n j q => ((show g18 10 n j = g49_ 10 n j by rw [qm18]; exact zup_ne _ _ (by omega))).trans (hR49_12.2.2 n j q)⟩) (by have qc0 : (0 : Int32).toInt = 0 := (by decide); omega)
        · skip
          have rr19 : a49_2.toInt < v14.toInt := by simp only [z32lt, z32le, z32eq] at h54_14; omega
          have b20x : zB a49_2 0 7 := by have q1 := b49_2; have q2 := b14x; simp only [z32lt, z32le, z32eq, Int32.reduceToInt, Int32.toInt_zero] at h54_14; constructor <;> omega
          have b21x : zB v14 1 8 := by have q1 := b49_2; have q2 := b14x; simp only [z32lt, z32le, z32eq, Int32.reduceToInt, Int32.toInt_zero] at h54_14; constructor <;> omega
          have c22x : zB (g49_ 1 1 6) 1 8 := by first | assumption | (constructor <;> omega)
          refine z_aload_n (pc := 57) C dX8_copy_57 rfl ?_
          refine z_getR (pc := 58) C zf_X8_19 rfl rfl (by decide) dX8_copy_58 ?_
          refine z_iload_n (pc := 61) C dX8_copy_61 rfl ?_
          refine z_aald (pc := 62) C rfl ⟨rfl, by decide⟩ (by decide) (zIx b20x (by decide) (by decide)) dX8_copy_62 ?_
          refine w_grx (by have hq := zN b20x (by decide); show 8 * 1 + a49_2.toNatClampNeg < 16; omega) (fun m23 q23r h23x => ?_)
          have q23r : m23 = 8 * 1 + a49_2.toNatClampNeg := q23r
          have k23r : a49_2.toNatClampNeg = a49_2.toInt.toNat := rfl
          refine z_aload_n (pc := 63) C dX8_copy_63 rfl ?_
          refine z_getR (pc := 64) C zf_X8_19 rfl rfl (by decide) dX8_copy_64 ?_
          refine z_iload_n (pc := 67) C dX8_copy_67 rfl ?_
          refine z_aald (pc := 68) C rfl ⟨rfl, by decide⟩ (by decide) (zIx b20x (by decide) (by decide)) dX8_copy_68 ?_
          refine w_grx (by have hq := zN b20x (by decide); show 8 * 0 + a49_2.toNatClampNeg < 16; omega) (fun m24 q24r h24x => ?_)
          have q24r : m24 = 8 * 0 + a49_2.toNatClampNeg := q24r
          have k24r : a49_2.toNatClampNeg = a49_2.toInt.toNat := rfl
          refine z_callV (pc := 69) C zk_X8_57 (x_X1_copy _ _ m23 h23x m24 h24x (by omega) hI49_) rfl rfl h23x rfl rfl (Nat.le_of_ble_eq_true rfl) dX8_copy_69 (fun r25 g25 q25 => ?_)
          obtain ⟨rfl, hI25, hF25q, hp25_0, hp25_1⟩ := q25
          have hF25 := zFr.tr hF49_ hF25q (by decide)
          simp only [Option.toList, List.cons_append, List.nil_append]
          have ek25_1_1_5 : (g25 1 1 5).toInt = (g49_ 1 1 5).toInt := by rw [hF25q 1 1 5 rfl]
          have c25_1_1_5x : zB (g25 1 1 5) 0 24 := by first | exact zB.eqv ek25_1_1_5 f49_1_1_5 | (have q9 := f49_1_1_5; constructor <;> omega)
          have ek25_1_1_6 : (g25 1 1 6).toInt = (g49_ 1 1 6).toInt := by rw [hF25q 1 1 6 rfl]
          have c25_1_1_6x : zB (g25 1 1 6) 1 8 := by first | exact zB.eqv ek25_1_1_6 c22x | (have q9 := c22x; constructor <;> omega)
          have ek25_1_1_7 : (g25 1 1 7).toInt = (g49_ 1 1 7).toInt := by rw [hF25q 1 1 7 rfl]
          have c25_1_1_7x : zB (g25 1 1 7) 0 12 := by first | exact zB.eqv ek25_1_1_7 f49_1_1_7 | (have q9 := f49_1_1_7; constructor <;> omega)
          have ek25_1_1_8 : (g25 1 1 8).toInt = (g49_ 1 1 8).toInt := by rw [hF25q 1 1 8 rfl]
          have c25_1_1_8x : zB (g25 1 1 8) 0 8 := by first | exact zB.eqv ek25_1_1_8 f49_1_1_8 | (have q9 := f49_1_1_8; constructor <;> omega)
          have ek25_1_0_5 : (g25 1 0 5).toInt = (g49_ 1 0 5).toInt := by rw [hF25q 1 0 5 rfl]
          have c25_1_0_5x : zB (g25 1 0 5) 0 24 := by first | exact zB.eqv ek25_1_0_5 f49_1_0_5 | (have q9 := f49_1_0_5; constructor <;> omega)
          have ek25_1_0_6 : (g25 1 0 6).toInt = (g49_ 1 0 6).toInt := by rw [hF25q 1 0 6 rfl]
          have c25_1_0_6x : zB (g25 1 0 6) 0 8 := by first | exact zB.eqv ek25_1_0_6 f49_1_0_6 | (have q9 := f49_1_0_6; constructor <;> omega)
          have ek25_1_0_7 : (g25 1 0 7).toInt = (g49_ 1 0 7).toInt := by rw [hF25q 1 0 7 rfl]
          have c25_1_0_7x : zB (g25 1 0 7) 0 12 := by first | exact zB.eqv ek25_1_0_7 f49_1_0_7 | (have q9 := f49_1_0_7; constructor <;> omega)
          have ek25_1_0_8 : (g25 1 0 8).toInt = (g49_ 1 0 8).toInt := by rw [hF25q 1 0 8 rfl]
          have c25_1_0_8x : zB (g25 1 0 8) 0 8 := by first | exact zB.eqv ek25_1_0_8 f49_1_0_8 | (have q9 := f49_1_0_8; constructor <;> omega)
          refine z_aload_n (pc := 72) C dX8_copy_72 rfl ?_
          refine z_iload_n (pc := 73) C dX8_copy_73 rfl ?_
          refine z_callV (pc := 74) C zk_X8_60 (x_X8_learnAgain_1 _ _ a49_2 b20x hI25) rfl rfl (by decide) rfl rfl (Nat.le_of_ble_eq_true rfl) dX8_copy_74 (fun r26 g26 q26 => ?_)
          obtain ⟨rfl, hI26, hF26q, hp26_0, hp26_1⟩ := q26
          have hF26 := zFr.tr hF25 hF26q (by decide)
          simp only [Option.toList, List.cons_append, List.nil_append]
          have ek26_1_1_5 : (g26 1 1 5).toInt = (g25 1 1 5).toInt := by rw [hF26q 1 1 5 rfl]
          have c26_1_1_5x : zB (g26 1 1 5) 0 24 := by first | exact zB.eqv ek26_1_1_5 c25_1_1_5x | (have q9 := c25_1_1_5x; constructor <;> omega)
          have ek26_1_1_6 : (g26 1 1 6).toInt = (g25 1 1 6).toInt := by rw [hF26q 1 1 6 rfl]
          have c26_1_1_6x : zB (g26 1 1 6) 1 8 := by first | exact zB.eqv ek26_1_1_6 c25_1_1_6x | (have q9 := c25_1_1_6x; constructor <;> omega)
          have ek26_1_1_7 : (g26 1 1 7).toInt = (g25 1 1 7).toInt := by rw [hF26q 1 1 7 rfl]
          have c26_1_1_7x : zB (g26 1 1 7) 0 12 := by first | exact zB.eqv ek26_1_1_7 c25_1_1_7x | (have q9 := c25_1_1_7x; constructor <;> omega)
          have ek26_1_1_8 : (g26 1 1 8).toInt = (g25 1 1 8).toInt := by rw [hF26q 1 1 8 rfl]
          have c26_1_1_8x : zB (g26 1 1 8) 0 8 := by first | exact zB.eqv ek26_1_1_8 c25_1_1_8x | (have q9 := c25_1_1_8x; constructor <;> omega)
          have ek26_1_0_5 : (g26 1 0 5).toInt = (g25 1 0 5).toInt := by rw [hF26q 1 0 5 rfl]
          have c26_1_0_5x : zB (g26 1 0 5) 0 24 := by first | exact zB.eqv ek26_1_0_5 c25_1_0_5x | (have q9 := c25_1_0_5x; constructor <;> omega)
          have ek26_1_0_6 : (g26 1 0 6).toInt = (g25 1 0 6).toInt := by rw [hF26q 1 0 6 rfl]
          have c26_1_0_6x : zB (g26 1 0 6) 0 8 := by first | exact zB.eqv ek26_1_0_6 c25_1_0_6x | (have q9 := c25_1_0_6x; constructor <;> omega)
          have ek26_1_0_7 : (g26 1 0 7).toInt = (g25 1 0 7).toInt := by rw [hF26q 1 0 7 rfl]
          have c26_1_0_7x : zB (g26 1 0 7) 0 12 := by first | exact zB.eqv ek26_1_0_7 c25_1_0_7x | (have q9 := c25_1_0_7x; constructor <;> omega)
          have ek26_1_0_8 : (g26 1 0 8).toInt = (g25 1 0 8).toInt := by rw [hF26q 1 0 8 rfl]
          have c26_1_0_8x : zB (g26 1 0 8) 0 8 := by first | exact zB.eqv ek26_1_0_8 c25_1_0_8x | (have q9 := c25_1_0_8x; constructor <;> omega)
          refine z_iinc (pc := 77) (v := 1) C dX8_copy_77 rfl (by decide) (by rw [hn]; decide) rfl ?_
          obtain ⟨v27, hv27, e27⟩ : ∃ v : Int32, v = a49_2 + 1 ∧ v.toInt = a49_2.toInt + 1 := ⟨_, rfl, zadd_eb b20x (zB.of (x := 1) 1 (by decide)) (by decide) (by decide)⟩
          rw [← hv27]
          have b27x : zB v27 1 8 := by have q9 := b20x; constructor <;> omega
          refine z_goto (pc := 80) 49 C dX8_copy_80 (by decide) ?_
          exact ih1 v27 (zB.wk (a' := 0) (b' := 8) b27x (by decide) (by decide)) g26 hI26 hF26 c26_1_0_5x c26_1_0_6x c26_1_0_7x c26_1_0_8x c26_1_1_5x (zB.wk c26_1_1_6x (by decide) (by decide)) c26_1_1_7x c26_1_1_8x (by omega) (by omega) (by omega) (by omega) (by omega) (by omega) (by omega) (by
                                                                                          exact zcpd_keep hR49_7 (fun x j hj => (hF26q 7 x j rfl).trans (hF25q 7 x j rfl))) (by
                                                                                          have hn : (v27).toInt.toNat = a49_2.toInt.toNat + 1 := by omega
                                                                                          rw [hn]
                                                                                          have hm0 : m23 = 8 + a49_2.toInt.toNat := by omega
                                                                                          have hm1 : m24 = 0 + a49_2.toInt.toNat := by omega
                                                                                          have e0 : ∀ x j, j < 5 → g26 8 x j = g25 8 x j := fun x j hj => hF26q 8 x j (by rcases (show j = 0 ∨ j = 1 ∨ j = 2 ∨ j = 3 ∨ j = 4 by omega) with rfl | rfl | rfl | rfl | rfl <;> rfl)
                                                                                          refine zcpd_s hR49_8 (by omega) (by omega) (fun j hj => ?_) (fun x j hx hj => ?_)
                                                                                          · rw [e0 _ j hj, ← hm0, ← hm1]; exact hp25_0 j hj
                                                                                          · rw [e0 _ j hj]; exact hp25_1 x j (by omega)) (by
                                                                                          exact zcpd_keep hR49_9 (fun x j hj => (hF26q 11 x j rfl).trans (hF25q 11 x j rfl))) (by
                                                                                          exact zcpd_keep hR49_10 (fun x j hj => (hF26q 12 x j rfl).trans (hF25q 12 x j rfl))) (by intro n j; exact ((hF26q 6 n j rfl).trans (hF25q 6 n j rfl)).trans (hR49_11 n j)) (by
                                                                                          have hm0 : m23 = 8 + a49_2.toInt.toNat := by omega
                                                                                          exact ⟨fun n j q => ((hp26_1.1 n j (by omega)).trans (hp25_1 n j (by omega))).trans (hR49_12.1 n j q), fun n j q => ((hp26_1.2.1 n j (by omega)).trans (hF25q 9 n j rfl)).trans (hR49_12.2.1 n j q), fun n j q => ((hp26_1.2.2 n j (by omega)).trans (hF25q 10 n j rfl)).trans (hR49_12.2.2 n j q)⟩) (by omega)
      · skip
        intro a93_2 b93_2 g93_ hI93_ hF93_ f93_1_0_5 f93_1_0_6 f93_1_0_7 f93_1_0_8 f93_1_1_5 f93_1_1_6 f93_1_1_7 f93_1_1_8 hR93_0 hR93_1 hR93_2 hR93_3 hR93_4 hR93_5 hR93_6 hR93_7 hR93_8 hR93_9 hR93_10 hR93_11 hR93_12 hR93_13 hM93_
        refine z_iload_n (pc := 93) C dX8_copy_93 rfl ?_
        refine z_aload_n (pc := 94) C dX8_copy_94 rfl ?_
        refine z_getI (pc := 95) C zf_X8_64 rfl rfl (by decide) dX8_copy_95 ?_
        refine w_gp (fun v => v = g93_ 1 1 7) rfl (fun v28 q28 => ?_)
        have e28 : v28.toInt = (g93_ 1 1 7).toInt := by rw [q28]
        have b28x : zB v28 0 12 := by first | exact zB.eqv e28 f93_1_1_7 | (have q9 := f93_1_1_7; constructor <;> omega)
        refine z_icmp_ge (pc := 98) 122 C dX8_copy_98 (by decide) (fun h98_28 => ?_) (fun h98_28 => ?_)
        · skip
          have rr30 : a93_2.toInt ≥ v28.toInt := by simp only [z32lt, z32le, z32eq] at h98_28; omega
          refine z_aload_n (pc := 122) C dX8_copy_122 rfl ?_
          refine z_aload_n (pc := 123) C dX8_copy_123 rfl ?_
          refine z_getI (pc := 124) C zf_X8_70 rfl rfl (by decide) dX8_copy_124 ?_
          refine w_gp (fun v => v = g93_ 1 0 8) rfl (fun v31 q31 => ?_)
          have e31 : v31.toInt = (g93_ 1 0 8).toInt := by rw [q31]
          have b31x : zB v31 0 8 := by first | exact zB.eqv e31 f93_1_0_8 | (have q9 := f93_1_0_8; constructor <;> omega)
          refine z_putI (pc := 127) C zf_X8_70 zp_8_8 rfl rfl (by decide) dX8_copy_127 ?_
          refine w_memx hI93_ hF93_ b31x rfl (fun g32 qm32 hI32 hF32 hq32 hx32 => ?_)
          have ek32_1_1_5 : (g32 1 1 5).toInt = (g93_ 1 1 5).toInt := by rw [hq32 1 1 5 (by omega)]
          have c32_1_1_5x : zB (g32 1 1 5) 0 24 := by first | exact zB.eqv ek32_1_1_5 f93_1_1_5 | (have q9 := f93_1_1_5; constructor <;> omega)
          have ek32_1_1_6 : (g32 1 1 6).toInt = (g93_ 1 1 6).toInt := by rw [hq32 1 1 6 (by omega)]
          have c32_1_1_6x : zB (g32 1 1 6) 0 8 := by first | exact zB.eqv ek32_1_1_6 f93_1_1_6 | (have q9 := f93_1_1_6; constructor <;> omega)
          have ek32_1_1_7 : (g32 1 1 7).toInt = (g93_ 1 1 7).toInt := by rw [hq32 1 1 7 (by omega)]
          have c32_1_1_7x : zB (g32 1 1 7) 0 12 := by first | exact zB.eqv ek32_1_1_7 f93_1_1_7 | (have q9 := f93_1_1_7; constructor <;> omega)
          have ec32 : (g32 1 1 8).toInt = v31.toInt := by rw [hx32]
          have c32x : zB (g32 1 1 8) 0 8 := by first | exact zB.eqv ec32 b31x | (have q9 := b31x; constructor <;> omega)
          have ek32_1_0_5 : (g32 1 0 5).toInt = (g93_ 1 0 5).toInt := by rw [hq32 1 0 5 (by omega)]
          have c32_1_0_5x : zB (g32 1 0 5) 0 24 := by first | exact zB.eqv ek32_1_0_5 f93_1_0_5 | (have q9 := f93_1_0_5; constructor <;> omega)
          have ek32_1_0_6 : (g32 1 0 6).toInt = (g93_ 1 0 6).toInt := by rw [hq32 1 0 6 (by omega)]
          have c32_1_0_6x : zB (g32 1 0 6) 0 8 := by first | exact zB.eqv ek32_1_0_6 f93_1_0_6 | (have q9 := f93_1_0_6; constructor <;> omega)
          have ek32_1_0_7 : (g32 1 0 7).toInt = (g93_ 1 0 7).toInt := by rw [hq32 1 0 7 (by omega)]
          have c32_1_0_7x : zB (g32 1 0 7) 0 12 := by first | exact zB.eqv ek32_1_0_7 f93_1_0_7 | (have q9 := f93_1_0_7; constructor <;> omega)
          have ek32_1_0_8 : (g32 1 0 8).toInt = (g93_ 1 0 8).toInt := by rw [(show g32 1 0 8 = g93_ 1 0 8 by rw [qm32]; exact zup_ne _ _ (by omega))]
          have c32_1_0_8x : zB (g32 1 0 8) 0 8 := by first | exact zB.eqv ek32_1_0_8 f93_1_0_8 | (have q9 := f93_1_0_8; constructor <;> omega)
          refine z_iconst (pc := 130) (v := 0) C dX8_copy_130 (by decide) ?_
          refine z_istore_n (pc := 131) C dX8_copy_131 (by rw [hn]; decide) rfl ?_
          exact ih3 0 (zB.wk (a' := 0) (b' := 8) (zB.of (x := 0) 0 (by decide)) (by decide) (by decide)) g32 hI32 hF32 c32_1_0_5x c32_1_0_6x c32_1_0_7x c32_1_0_8x c32_1_1_5x c32_1_1_6x c32_1_1_7x c32x (by have qc0 : (0 : Int32).toInt = 0 := (by decide); omega) (by have qc0 : (0 : Int32).toInt = 0 := (by decide); omega) (by have qc0 : (0 : Int32).toInt = 0 := (by decide); omega) (by have qc0 : (0 : Int32).toInt = 0 := (by decide); omega) (by have qc0 : (0 : Int32).toInt = 0 := (by decide); omega) (by have qc0 : (0 : Int32).toInt = 0 := (by decide); omega) (by have qc0 : (0 : Int32).toInt = 0 := (by decide); omega) (by have qc0 : (0 : Int32).toInt = 0 := (by decide); omega) (by have qc0 : (0 : Int32).toInt = 0 := (by decide); omega) (by
                                                                                          exact zcpd_keep hR93_8 (fun x j hj => by subst qm32; exact zup_ne _ _ (by omega))) (by
                                                                                          exact zcpd_keep hR93_9 (fun x j hj => by subst qm32; exact zup_ne _ _ (by omega))) (by
                                                                                          have hz : (f 1 0 7).toInt.toNat = a93_2.toInt.toNat := by omega
                                                                                          rw [hz]
                                                                                          exact zcpd_keep hR93_10 (fun x j hj => by subst qm32; exact zup_ne _ _ (by omega))) (by
                                                                                          show zcpd f g32 12 8 0 0 3 8
                                                                                          exact zcpd_keep hR93_11 (fun x j hj => by subst qm32; exact zup_ne _ _ (by omega))) (by intro n j; subst qm32; exact (zup_ne _ _ (by omega)).trans (hR93_12 n j)) (by exact ⟨fun n j q => ((show g32 8 n j = g93_ 8 n j by rw [qm32]; exact zup_ne _ _ (by omega))).trans (hR93_13.1 n j q), fun n j q => ((show g32 9 n j = g93_ 9 n j by rw [qm32]; exact zup_ne _ _ (by omega))).trans (hR93_13.2.1 n j q), fun n j q => ((show g32 10 n j = g93_ 10 n j by rw [qm32]; exact zup_ne _ _ (by omega))).trans (hR93_13.2.2 n j q)⟩) (by have qc0 : (0 : Int32).toInt = 0 := (by decide); omega)
        · skip
          have rr33 : a93_2.toInt < v28.toInt := by simp only [z32lt, z32le, z32eq] at h98_28; omega
          have b34x : zB a93_2 0 11 := by have q1 := b93_2; have q2 := b28x; simp only [z32lt, z32le, z32eq, Int32.reduceToInt, Int32.toInt_zero] at h98_28; constructor <;> omega
          have b35x : zB v28 1 12 := by have q1 := b93_2; have q2 := b28x; simp only [z32lt, z32le, z32eq, Int32.reduceToInt, Int32.toInt_zero] at h98_28; constructor <;> omega
          have c36x : zB (g93_ 1 1 7) 1 12 := by first | assumption | (constructor <;> omega)
          refine z_aload_n (pc := 101) C dX8_copy_101 rfl ?_
          refine z_getR (pc := 102) C zf_X8_25 rfl rfl (by decide) dX8_copy_102 ?_
          refine z_iload_n (pc := 105) C dX8_copy_105 rfl ?_
          refine z_aald (pc := 106) C rfl ⟨rfl, by decide⟩ (by decide) (zIx b34x (by decide) (by decide)) dX8_copy_106 ?_
          refine w_grx (by have hq := zN b34x (by decide); show 12 * 1 + a93_2.toNatClampNeg < 36; omega) (fun m37 q37r h37x => ?_)
          have q37r : m37 = 12 * 1 + a93_2.toNatClampNeg := q37r
          have k37r : a93_2.toNatClampNeg = a93_2.toInt.toNat := rfl
          refine z_aload_n (pc := 107) C dX8_copy_107 rfl ?_
          refine z_getR (pc := 108) C zf_X8_25 rfl rfl (by decide) dX8_copy_108 ?_
          refine z_iload_n (pc := 111) C dX8_copy_111 rfl ?_
          refine z_aald (pc := 112) C rfl ⟨rfl, by decide⟩ (by decide) (zIx b34x (by decide) (by decide)) dX8_copy_112 ?_
          refine w_grx (by have hq := zN b34x (by decide); show 12 * 0 + a93_2.toNatClampNeg < 36; omega) (fun m38 q38r h38x => ?_)
          have q38r : m38 = 12 * 0 + a93_2.toNatClampNeg := q38r
          have k38r : a93_2.toNatClampNeg = a93_2.toInt.toNat := rfl
          refine z_callV (pc := 113) C zk_X8_67 (x_X4_copy _ _ m37 h37x m38 h38x (by omega) hI93_) rfl rfl h37x rfl rfl (Nat.le_of_ble_eq_true rfl) dX8_copy_113 (fun r39 g39 q39 => ?_)
          obtain ⟨rfl, hI39, hF39q, hp39_0, hp39_1⟩ := q39
          have hF39 := zFr.tr hF93_ hF39q (by decide)
          simp only [Option.toList, List.cons_append, List.nil_append]
          have ek39_1_1_5 : (g39 1 1 5).toInt = (g93_ 1 1 5).toInt := by rw [hF39q 1 1 5 rfl]
          have c39_1_1_5x : zB (g39 1 1 5) 0 24 := by first | exact zB.eqv ek39_1_1_5 f93_1_1_5 | (have q9 := f93_1_1_5; constructor <;> omega)
          have ek39_1_1_6 : (g39 1 1 6).toInt = (g93_ 1 1 6).toInt := by rw [hF39q 1 1 6 rfl]
          have c39_1_1_6x : zB (g39 1 1 6) 0 8 := by first | exact zB.eqv ek39_1_1_6 f93_1_1_6 | (have q9 := f93_1_1_6; constructor <;> omega)
          have ek39_1_1_7 : (g39 1 1 7).toInt = (g93_ 1 1 7).toInt := by rw [hF39q 1 1 7 rfl]
          have c39_1_1_7x : zB (g39 1 1 7) 1 12 := by first | exact zB.eqv ek39_1_1_7 c36x | (have q9 := c36x; constructor <;> omega)
          have ek39_1_1_8 : (g39 1 1 8).toInt = (g93_ 1 1 8).toInt := by rw [hF39q 1 1 8 rfl]
          have c39_1_1_8x : zB (g39 1 1 8) 0 8 := by first | exact zB.eqv ek39_1_1_8 f93_1_1_8 | (have q9 := f93_1_1_8; constructor <;> omega)
          have ek39_1_0_5 : (g39 1 0 5).toInt = (g93_ 1 0 5).toInt := by rw [hF39q 1 0 5 rfl]
          have c39_1_0_5x : zB (g39 1 0 5) 0 24 := by first | exact zB.eqv ek39_1_0_5 f93_1_0_5 | (have q9 := f93_1_0_5; constructor <;> omega)
          have ek39_1_0_6 : (g39 1 0 6).toInt = (g93_ 1 0 6).toInt := by rw [hF39q 1 0 6 rfl]
          have c39_1_0_6x : zB (g39 1 0 6) 0 8 := by first | exact zB.eqv ek39_1_0_6 f93_1_0_6 | (have q9 := f93_1_0_6; constructor <;> omega)
          have ek39_1_0_7 : (g39 1 0 7).toInt = (g93_ 1 0 7).toInt := by rw [hF39q 1 0 7 rfl]
          have c39_1_0_7x : zB (g39 1 0 7) 0 12 := by first | exact zB.eqv ek39_1_0_7 f93_1_0_7 | (have q9 := f93_1_0_7; constructor <;> omega)
          have ek39_1_0_8 : (g39 1 0 8).toInt = (g93_ 1 0 8).toInt := by rw [hF39q 1 0 8 rfl]
          have c39_1_0_8x : zB (g39 1 0 8) 0 8 := by first | exact zB.eqv ek39_1_0_8 f93_1_0_8 | (have q9 := f93_1_0_8; constructor <;> omega)
          refine z_iinc (pc := 116) (v := 1) C dX8_copy_116 rfl (by decide) (by rw [hn]; decide) rfl ?_
          obtain ⟨v40, hv40, e40⟩ : ∃ v : Int32, v = a93_2 + 1 ∧ v.toInt = a93_2.toInt + 1 := ⟨_, rfl, zadd_eb b34x (zB.of (x := 1) 1 (by decide)) (by decide) (by decide)⟩
          rw [← hv40]
          have b40x : zB v40 1 12 := by have q9 := b34x; constructor <;> omega
          refine z_goto (pc := 119) 93 C dX8_copy_119 (by decide) ?_
          exact ih2 v40 (zB.wk (a' := 0) (b' := 12) b40x (by decide) (by decide)) g39 hI39 hF39 c39_1_0_5x c39_1_0_6x c39_1_0_7x c39_1_0_8x c39_1_1_5x c39_1_1_6x (zB.wk c39_1_1_7x (by decide) (by decide)) c39_1_1_8x (by omega) (by omega) (by omega) (by omega) (by omega) (by omega) (by omega) (by omega) (by
                                                                                          exact zcpd_keep hR93_8 (fun x j hj => hF39q 7 x j rfl)) (by
                                                                                          exact zcpd_keep hR93_9 (fun x j hj => hF39q 8 x j rfl)) (by
                                                                                          have hn : (v40).toInt.toNat = a93_2.toInt.toNat + 1 := by omega
                                                                                          rw [hn]
                                                                                          have hm0 : m37 = 12 + a93_2.toInt.toNat := by omega
                                                                                          have hm1 : m38 = 0 + a93_2.toInt.toNat := by omega
                                                                                          refine zcpd_s hR93_10 (by omega) (by omega) (fun j hj => ?_) (fun x j hx hj => ?_)
                                                                                          · rw [← hm0, ← hm1]; exact hp39_0 j hj
                                                                                          · exact hp39_1 x j (by omega)) (by
                                                                                          exact zcpd_keep hR93_11 (fun x j hj => hF39q 12 x j rfl)) (by intro n j; exact (hF39q 6 n j rfl).trans (hR93_12 n j)) (by exact ⟨fun n j q => (hF39q 8 n j rfl).trans (hR93_13.1 n j q), fun n j q => (hF39q 9 n j rfl).trans (hR93_13.2.1 n j q), fun n j q => (hF39q 10 n j rfl).trans (hR93_13.2.2 n j q)⟩) (by omega)
      · skip
        intro a132_2 b132_2 g132_ hI132_ hF132_ f132_1_0_5 f132_1_0_6 f132_1_0_7 f132_1_0_8 f132_1_1_5 f132_1_1_6 f132_1_1_7 f132_1_1_8 hR132_0 hR132_1 hR132_2 hR132_3 hR132_4 hR132_5 hR132_6 hR132_7 hR132_8 hR132_9 hR132_10 hR132_11 hR132_12 hR132_13 hR132_14 hM132_
        refine z_iload_n (pc := 132) C dX8_copy_132 rfl ?_
        refine z_aload_n (pc := 133) C dX8_copy_133 rfl ?_
        refine z_getI (pc := 134) C zf_X8_70 rfl rfl (by decide) dX8_copy_134 ?_
        refine w_gp (fun v => v = g132_ 1 1 8) rfl (fun v41 q41 => ?_)
        have e41 : v41.toInt = (g132_ 1 1 8).toInt := by rw [q41]
        have b41x : zB v41 0 8 := by first | exact zB.eqv e41 f132_1_1_8 | (have q9 := f132_1_1_8; constructor <;> omega)
        refine z_icmp_ge (pc := 137) 182 C dX8_copy_137 (by decide) (fun h137_41 => ?_) (fun h137_41 => ?_)
        · skip
          have rr43 : a132_2.toInt ≥ v41.toInt := by simp only [z32lt, z32le, z32eq] at h137_41; omega
          refine z_aload_n (pc := 182) C dX8_copy_182 rfl ?_
          refine z_getR (pc := 183) C zf_X8_38 rfl rfl (by decide) dX8_copy_183 ?_
          refine z_aload_n (pc := 186) C dX8_copy_186 rfl ?_
          refine z_getR (pc := 187) C zf_X8_38 rfl rfl (by decide) dX8_copy_187 ?_
          refine z_callV (pc := 190) C zk_X8_85 (x_X3_copy _ _ 1 (by decide) 0 (by decide) (by decide) hI132_) rfl rfl (by decide) rfl rfl (Nat.le_of_ble_eq_true rfl) dX8_copy_190 (fun r44 g44 q44 => ?_)
          obtain ⟨rfl, hI44, hF44q, hp44_0, hp44_1⟩ := q44
          have hF44 := zFr.tr hF132_ hF44q (by decide)
          simp only [Option.toList, List.cons_append, List.nil_append]
          have ek44_1_1_5 : (g44 1 1 5).toInt = (g132_ 1 1 5).toInt := by rw [hF44q 1 1 5 rfl]
          have c44_1_1_5x : zB (g44 1 1 5) 0 24 := by first | exact zB.eqv ek44_1_1_5 f132_1_1_5 | (have q9 := f132_1_1_5; constructor <;> omega)
          have ek44_1_1_6 : (g44 1 1 6).toInt = (g132_ 1 1 6).toInt := by rw [hF44q 1 1 6 rfl]
          have c44_1_1_6x : zB (g44 1 1 6) 0 8 := by first | exact zB.eqv ek44_1_1_6 f132_1_1_6 | (have q9 := f132_1_1_6; constructor <;> omega)
          have ek44_1_1_7 : (g44 1 1 7).toInt = (g132_ 1 1 7).toInt := by rw [hF44q 1 1 7 rfl]
          have c44_1_1_7x : zB (g44 1 1 7) 0 12 := by first | exact zB.eqv ek44_1_1_7 f132_1_1_7 | (have q9 := f132_1_1_7; constructor <;> omega)
          have ek44_1_1_8 : (g44 1 1 8).toInt = (g132_ 1 1 8).toInt := by rw [hF44q 1 1 8 rfl]
          have c44_1_1_8x : zB (g44 1 1 8) 0 8 := by first | exact zB.eqv ek44_1_1_8 f132_1_1_8 | (have q9 := f132_1_1_8; constructor <;> omega)
          have ek44_1_0_5 : (g44 1 0 5).toInt = (g132_ 1 0 5).toInt := by rw [hF44q 1 0 5 rfl]
          have c44_1_0_5x : zB (g44 1 0 5) 0 24 := by first | exact zB.eqv ek44_1_0_5 f132_1_0_5 | (have q9 := f132_1_0_5; constructor <;> omega)
          have ek44_1_0_6 : (g44 1 0 6).toInt = (g132_ 1 0 6).toInt := by rw [hF44q 1 0 6 rfl]
          have c44_1_0_6x : zB (g44 1 0 6) 0 8 := by first | exact zB.eqv ek44_1_0_6 f132_1_0_6 | (have q9 := f132_1_0_6; constructor <;> omega)
          have ek44_1_0_7 : (g44 1 0 7).toInt = (g132_ 1 0 7).toInt := by rw [hF44q 1 0 7 rfl]
          have c44_1_0_7x : zB (g44 1 0 7) 0 12 := by first | exact zB.eqv ek44_1_0_7 f132_1_0_7 | (have q9 := f132_1_0_7; constructor <;> omega)
          have ek44_1_0_8 : (g44 1 0 8).toInt = (g132_ 1 0 8).toInt := by rw [hF44q 1 0 8 rfl]
          have c44_1_0_8x : zB (g44 1 0 8) 0 8 := by first | exact zB.eqv ek44_1_0_8 f132_1_0_8 | (have q9 := f132_1_0_8; constructor <;> omega)
          exact z_vret (pc := 193) C hr dX8_copy_193 ⟨rfl, hI44, hF44, (by rw [z32eq]; omega), (by rw [z32eq]; omega), (by rw [z32eq]; omega), (by rw [z32eq]; omega), (by rw [z32eq]; omega), (by rw [z32eq]; omega), (by rw [z32eq]; omega), (by rw [z32eq]; omega), (by
                                                                                          exact zcpd_keep hR132_9 (fun x j hj => hF44q 7 x j rfl)), (by
                                                                                          exact zcpd_keep hR132_10 (fun x j hj => hF44q 8 x j rfl)), (by
                                                                                          exact zcpd_keep hR132_11 (fun x j hj => hF44q 11 x j rfl)), (by
                                                                                          have hz : (f 1 0 8).toInt.toNat = a132_2.toInt.toNat := by omega
                                                                                          rw [hz]
                                                                                          exact zcpd_keep hR132_12 (fun x j hj => hF44q 12 x j rfl)), (by
                                                                                          intro j hj
                                                                                          rw [hp44_0 j hj]
                                                                                          exact hR132_13 0 j), (by
                                                                                          intro j hj
                                                                                          rw [hp44_1 0 j (by decide)]
                                                                                          exact hR132_13 0 j), (by exact ⟨fun n j q => (hF44q 8 n j rfl).trans (hR132_14.1 n j q), fun n j q => (hF44q 9 n j rfl).trans (hR132_14.2.1 n j q), fun n j q => (hF44q 10 n j rfl).trans (hR132_14.2.2 n j q)⟩)⟩
        · skip
          have rr45 : a132_2.toInt < v41.toInt := by simp only [z32lt, z32le, z32eq] at h137_41; omega
          have b46x : zB a132_2 0 7 := by have q1 := b132_2; have q2 := b41x; simp only [z32lt, z32le, z32eq, Int32.reduceToInt, Int32.toInt_zero] at h137_41; constructor <;> omega
          have b47x : zB v41 1 8 := by have q1 := b132_2; have q2 := b41x; simp only [z32lt, z32le, z32eq, Int32.reduceToInt, Int32.toInt_zero] at h137_41; constructor <;> omega
          have c48x : zB (g132_ 1 1 8) 1 8 := by first | assumption | (constructor <;> omega)
          refine z_aload_n (pc := 140) C dX8_copy_140 rfl ?_
          refine z_getR (pc := 141) C zf_X8_31 rfl rfl (by decide) dX8_copy_141 ?_
          refine z_iload_n (pc := 144) C dX8_copy_144 rfl ?_
          refine z_aald (pc := 145) C rfl ⟨rfl, by decide⟩ (by decide) (zIx b46x (by decide) (by decide)) dX8_copy_145 ?_
          refine w_grx (by have hq := zN b46x (by decide); show 8 * 1 + a132_2.toNatClampNeg < 16; omega) (fun m49 q49r h49x => ?_)
          have q49r : m49 = 8 * 1 + a132_2.toNatClampNeg := q49r
          have k49r : a132_2.toNatClampNeg = a132_2.toInt.toNat := rfl
          refine z_aload_n (pc := 146) C dX8_copy_146 rfl ?_
          refine z_getR (pc := 147) C zf_X8_31 rfl rfl (by decide) dX8_copy_147 ?_
          refine z_iload_n (pc := 150) C dX8_copy_150 rfl ?_
          refine z_aald (pc := 151) C rfl ⟨rfl, by decide⟩ (by decide) (zIx b46x (by decide) (by decide)) dX8_copy_151 ?_
          refine w_grx (by have hq := zN b46x (by decide); show 8 * 0 + a132_2.toNatClampNeg < 16; omega) (fun m50 q50r h50x => ?_)
          have q50r : m50 = 8 * 0 + a132_2.toNatClampNeg := q50r
          have k50r : a132_2.toNatClampNeg = a132_2.toInt.toNat := rfl
          refine z_getI (pc := 152) C zf_X8_73 rfl rfl h50x dX8_copy_152 ?_
          refine w_gp (fun v => v = g132_ 12 m50 0) rfl (fun v52 q52 => ?_)
          have b52x : zB v52 0 5 := by rw [q52]; exact (hI132_ 12 m50 0)
          refine z_aload_n (pc := 155) C dX8_copy_155 rfl ?_
          refine z_getR (pc := 156) C zf_X8_31 rfl rfl (by decide) dX8_copy_156 ?_
          refine z_iload_n (pc := 159) C dX8_copy_159 rfl ?_
          refine z_aald (pc := 160) C rfl ⟨rfl, by decide⟩ (by decide) (zIx b46x (by decide) (by decide)) dX8_copy_160 ?_
          refine w_grx (by have hq := zN b46x (by decide); show 8 * 0 + a132_2.toNatClampNeg < 16; omega) (fun m53 q53r h53x => ?_)
          have q53r : m53 = 8 * 0 + a132_2.toNatClampNeg := q53r
          have k53r : a132_2.toNatClampNeg = a132_2.toInt.toNat := rfl
          refine z_getI (pc := 161) C zf_X8_76 rfl rfl h53x dX8_copy_161 ?_
          refine w_gp (fun v => v = g132_ 12 m53 1) rfl (fun v55 q55 => ?_)
          have b55x : zB v55 0 255 := by rw [q55]; exact (hI132_ 12 m53 1)
          refine z_aload_n (pc := 164) C dX8_copy_164 rfl ?_
          refine z_getR (pc := 165) C zf_X8_31 rfl rfl (by decide) dX8_copy_165 ?_
          refine z_iload_n (pc := 168) C dX8_copy_168 rfl ?_
          refine z_aald (pc := 169) C rfl ⟨rfl, by decide⟩ (by decide) (zIx b46x (by decide) (by decide)) dX8_copy_169 ?_
          refine w_grx (by have hq := zN b46x (by decide); show 8 * 0 + a132_2.toNatClampNeg < 16; omega) (fun m56 q56r h56x => ?_)
          have q56r : m56 = 8 * 0 + a132_2.toNatClampNeg := q56r
          have k56r : a132_2.toNatClampNeg = a132_2.toInt.toNat := rfl
          refine z_getI (pc := 170) C zf_X8_78 rfl rfl h56x dX8_copy_170 ?_
          refine w_gp (fun v => v = g132_ 12 m56 2) rfl (fun v58 q58 => ?_)
          have b58x : zB v58 0 99 := by rw [q58]; exact (hI132_ 12 m56 2)
          refine z_callV (pc := 173) C zk_X8_81 (x_X2_tell _ _ m49 h49x v52 b52x v55 b55x v58 b58x hI132_) rfl rfl h49x rfl rfl (Nat.le_of_ble_eq_true rfl) dX8_copy_173 (fun r59 g59 q59 => ?_)
          obtain ⟨rfl, hI59, hF59q, hp59_0⟩ := q59
          have hF59 := zFr.tr hF132_ hF59q (by decide)
          simp only [Option.toList, List.cons_append, List.nil_append]
          have ek59_1_1_5 : (g59 1 1 5).toInt = (g132_ 1 1 5).toInt := by rw [hF59q 1 1 5 rfl]
          have c59_1_1_5x : zB (g59 1 1 5) 0 24 := by first | exact zB.eqv ek59_1_1_5 f132_1_1_5 | (have q9 := f132_1_1_5; constructor <;> omega)
          have ek59_1_1_6 : (g59 1 1 6).toInt = (g132_ 1 1 6).toInt := by rw [hF59q 1 1 6 rfl]
          have c59_1_1_6x : zB (g59 1 1 6) 0 8 := by first | exact zB.eqv ek59_1_1_6 f132_1_1_6 | (have q9 := f132_1_1_6; constructor <;> omega)
          have ek59_1_1_7 : (g59 1 1 7).toInt = (g132_ 1 1 7).toInt := by rw [hF59q 1 1 7 rfl]
          have c59_1_1_7x : zB (g59 1 1 7) 0 12 := by first | exact zB.eqv ek59_1_1_7 f132_1_1_7 | (have q9 := f132_1_1_7; constructor <;> omega)
          have ek59_1_1_8 : (g59 1 1 8).toInt = (g132_ 1 1 8).toInt := by rw [hF59q 1 1 8 rfl]
          have c59_1_1_8x : zB (g59 1 1 8) 1 8 := by first | exact zB.eqv ek59_1_1_8 c48x | (have q9 := c48x; constructor <;> omega)
          have ek59_1_0_5 : (g59 1 0 5).toInt = (g132_ 1 0 5).toInt := by rw [hF59q 1 0 5 rfl]
          have c59_1_0_5x : zB (g59 1 0 5) 0 24 := by first | exact zB.eqv ek59_1_0_5 f132_1_0_5 | (have q9 := f132_1_0_5; constructor <;> omega)
          have ek59_1_0_6 : (g59 1 0 6).toInt = (g132_ 1 0 6).toInt := by rw [hF59q 1 0 6 rfl]
          have c59_1_0_6x : zB (g59 1 0 6) 0 8 := by first | exact zB.eqv ek59_1_0_6 f132_1_0_6 | (have q9 := f132_1_0_6; constructor <;> omega)
          have ek59_1_0_7 : (g59 1 0 7).toInt = (g132_ 1 0 7).toInt := by rw [hF59q 1 0 7 rfl]
          have c59_1_0_7x : zB (g59 1 0 7) 0 12 := by first | exact zB.eqv ek59_1_0_7 f132_1_0_7 | (have q9 := f132_1_0_7; constructor <;> omega)
          have ek59_1_0_8 : (g59 1 0 8).toInt = (g132_ 1 0 8).toInt := by rw [hF59q 1 0 8 rfl]
          have c59_1_0_8x : zB (g59 1 0 8) 0 8 := by first | exact zB.eqv ek59_1_0_8 f132_1_0_8 | (have q9 := f132_1_0_8; constructor <;> omega)
          refine z_iinc (pc := 176) (v := 1) C dX8_copy_176 rfl (by decide) (by rw [hn]; decide) rfl ?_
          obtain ⟨v60, hv60, e60⟩ : ∃ v : Int32, v = a132_2 + 1 ∧ v.toInt = a132_2.toInt + 1 := ⟨_, rfl, zadd_eb b46x (zB.of (x := 1) 1 (by decide)) (by decide) (by decide)⟩
          rw [← hv60]
          have b60x : zB v60 1 8 := by have q9 := b46x; constructor <;> omega
          refine z_goto (pc := 179) 132 C dX8_copy_179 (by decide) ?_
          exact ih3 v60 (zB.wk (a' := 0) (b' := 8) b60x (by decide) (by decide)) g59 hI59 hF59 c59_1_0_5x c59_1_0_6x c59_1_0_7x c59_1_0_8x c59_1_1_5x c59_1_1_6x c59_1_1_7x (zB.wk c59_1_1_8x (by decide) (by decide)) (by omega) (by omega) (by omega) (by omega) (by omega) (by omega) (by omega) (by omega) (by omega) (by
                                                                                          exact zcpd_keep hR132_9 (fun x j hj => hF59q 7 x j rfl)) (by
                                                                                          exact zcpd_keep hR132_10 (fun x j hj => hF59q 8 x j rfl)) (by
                                                                                          exact zcpd_keep hR132_11 (fun x j hj => hF59q 11 x j rfl)) (by
                                                                                          have hn : (v60).toInt.toNat = a132_2.toInt.toNat + 1 := by omega
                                                                                          rw [hn]
                                                                                          have hm0 : m49 = 8 + a132_2.toInt.toNat := by omega
                                                                                          have hg := hp59_0
                                                                                          have w1 : m50 = 0 + a132_2.toInt.toNat := by omega
                                                                                          have w2 : m53 = 0 + a132_2.toInt.toNat := by omega
                                                                                          have w3 : m56 = 0 + a132_2.toInt.toNat := by omega
                                                                                          have q1 := q52
                                                                                          have q2 := q55
                                                                                          have q3 := q58
                                                                                          rw [w1] at q1
                                                                                          rw [w2] at q2
                                                                                          rw [w3] at q3
                                                                                          refine zcpd_s hR132_12 (by omega) (by omega) (fun j hj => ?_) (fun x j hx hj => ?_)
                                                                                          · rw [← hm0, hg]
                                                                                            rcases (show j = 0 ∨ j = 1 ∨ j = 2 by omega) with rfl | rfl | rfl
                                                                                            · simpa [zup] using q1
                                                                                            · simpa [zup] using q2
                                                                                            · simpa [zup] using q3
                                                                                          · rw [hg, zup_ne _ _ (by omega), zup_ne _ _ (by omega), zup_ne _ _ (by omega)]) (by intro n j; exact (hF59q 6 n j rfl).trans (hR132_13 n j)) (by exact ⟨fun n j q => (hF59q 8 n j rfl).trans (hR132_14.1 n j q), fun n j q => (hF59q 9 n j rfl).trans (hR132_14.2.1 n j q), fun n j q => (hF59q 10 n j rfl).trans (hR132_14.2.2 n j q)⟩) (by omega)
  obtain ⟨J0, J1, J2, J3⟩ := J 218409
  show Z X 0 [some (zr 1 1), some (zr 1 0), none] [] f
  refine z_aload_n (pc := 0) C dX8_copy_0 rfl ?_
  refine z_aload_n (pc := 1) C dX8_copy_1 rfl ?_
  refine z_getI (pc := 2) C zf_X8_46 rfl rfl (by decide) dX8_copy_2 ?_
  refine w_gp (fun v => v = f 1 0 5) rfl (fun v61 q61 => ?_)
  have e61 : v61.toInt = (f 1 0 5).toInt := by rw [q61]
  have b61x : zB v61 0 24 := by first | exact zB.eqv e61 ct1_0_5 | (have q9 := ct1_0_5; constructor <;> omega)
  refine z_putI (pc := 5) C zf_X8_46 zp_8_5 rfl rfl (by decide) dX8_copy_5 ?_
  refine w_memx hI hF b61x rfl (fun g62 qm62 hI62 hF62 hq62 hx62 => ?_)
  have ec62 : (g62 1 1 5).toInt = v61.toInt := by rw [hx62]
  have c62x : zB (g62 1 1 5) 0 24 := by first | exact zB.eqv ec62 b61x | (have q9 := b61x; constructor <;> omega)
  have ek62_1_1_6 : (g62 1 1 6).toInt = (f 1 1 6).toInt := by rw [hq62 1 1 6 (by omega)]
  have c62_1_1_6x : zB (g62 1 1 6) 0 8 := by first | exact zB.eqv ek62_1_1_6 ct1_1_6 | (have q9 := ct1_1_6; constructor <;> omega)
  have ek62_1_1_7 : (g62 1 1 7).toInt = (f 1 1 7).toInt := by rw [hq62 1 1 7 (by omega)]
  have c62_1_1_7x : zB (g62 1 1 7) 0 12 := by first | exact zB.eqv ek62_1_1_7 ct1_1_7 | (have q9 := ct1_1_7; constructor <;> omega)
  have ek62_1_1_8 : (g62 1 1 8).toInt = (f 1 1 8).toInt := by rw [hq62 1 1 8 (by omega)]
  have c62_1_1_8x : zB (g62 1 1 8) 0 8 := by first | exact zB.eqv ek62_1_1_8 ct1_1_8 | (have q9 := ct1_1_8; constructor <;> omega)
  have ek62_1_0_5 : (g62 1 0 5).toInt = (f 1 0 5).toInt := by rw [(show g62 1 0 5 = f 1 0 5 by rw [qm62]; exact zup_ne _ _ (by omega))]
  have c62_1_0_5x : zB (g62 1 0 5) 0 24 := by first | exact zB.eqv ek62_1_0_5 ct1_0_5 | (have q9 := ct1_0_5; constructor <;> omega)
  have ek62_1_0_6 : (g62 1 0 6).toInt = (f 1 0 6).toInt := by rw [hq62 1 0 6 (by omega)]
  have c62_1_0_6x : zB (g62 1 0 6) 0 8 := by first | exact zB.eqv ek62_1_0_6 ct1_0_6 | (have q9 := ct1_0_6; constructor <;> omega)
  have ek62_1_0_7 : (g62 1 0 7).toInt = (f 1 0 7).toInt := by rw [hq62 1 0 7 (by omega)]
  have c62_1_0_7x : zB (g62 1 0 7) 0 12 := by first | exact zB.eqv ek62_1_0_7 ct1_0_7 | (have q9 := ct1_0_7; constructor <;> omega)
  have ek62_1_0_8 : (g62 1 0 8).toInt = (f 1 0 8).toInt := by rw [hq62 1 0 8 (by omega)]
  have c62_1_0_8x : zB (g62 1 0 8) 0 8 := by first | exact zB.eqv ek62_1_0_8 ct1_0_8 | (have q9 := ct1_0_8; constructor <;> omega)
  refine z_iconst (pc := 8) (v := 0) C dX8_copy_8 (by decide) ?_
  refine z_istore_n (pc := 9) C dX8_copy_9 (by rw [hn]; decide) rfl ?_
  exact J0 0 (zB.wk (a' := 0) (b' := 24) (zB.of (x := 0) 0 (by decide)) (by decide) (by decide)) g62 hI62 hF62 c62_1_0_5x c62_1_0_6x c62_1_0_7x c62_1_0_8x c62x c62_1_1_6x c62_1_1_7x c62_1_1_8x (by have qc0 : (0 : Int32).toInt = 0 := (by decide); omega) (by have qc0 : (0 : Int32).toInt = 0 := (by decide); omega) (by have qc0 : (0 : Int32).toInt = 0 := (by decide); omega) (by have qc0 : (0 : Int32).toInt = 0 := (by decide); omega) (by have qc0 : (0 : Int32).toInt = 0 := (by decide); omega) (by have qc0 : (0 : Int32).toInt = 0 := (by decide); omega) (by exact zcpd_0 (fun x j hj => by subst qm62; exact zup_ne _ _ (by omega))) (by exact zcpd_0 (fun x j hj => by subst qm62; exact zup_ne _ _ (by omega))) (by exact zcpd_0 (fun x j hj => by subst qm62; exact zup_ne _ _ (by omega))) (by exact zcpd_0 (fun x j hj => by subst qm62; exact zup_ne _ _ (by omega))) (by intro n j; subst qm62; exact zup_ne _ _ (by omega)) (by exact ⟨fun n j _ => (by rw [qm62]; exact zup_ne _ _ (by omega)), fun n j _ => (by rw [qm62]; exact zup_ne _ _ (by omega)), fun n j _ => (by rw [qm62]; exact zup_ne _ _ (by omega))⟩) (by have qc0 : (0 : Int32).toInt = 0 := (by decide); omega)

set_option maxRecDepth 100000 in
set_option maxHeartbeats 4000000 in
theorem x_X8_copy (d : Nat) (f : zM)  (hI : zInv f) : ZM (d + 3) yX8_copy cX8_copy 3 none [zr 1 0, zr 1 1] f (fun r g => r = none ∧ zInv g ∧ zFr [(1, some 5), (1, some 6), (1, some 7), (1, some 8), (6, some 0), (6, some 1), (6, some 2), (6, some 3), (6, some 4), (6, some 5), (6, some 6), (7, some 0), (7, some 1), (7, some 2), (7, some 3), (7, some 4), (7, some 5), (8, some 0), (8, some 1), (8, some 2), (8, some 3), (8, some 4), (8, some 5), (8, some 6), (8, some 7), (9, none), (10, none), (11, some 0), (11, some 1), (11, some 2), (11, some 3), (11, some 4), (11, some 5), (11, some 6), (11, some 7), (12, some 0), (12, some 1), (12, some 2)] f g ∧ (g 1 0 5 = f 1 1 5) ∧ (g 1 0 6 = f 1 1 6) ∧ (g 1 0 7 = f 1 1 7) ∧ (g 1 0 8 = f 1 1 8) ∧ (g 1 1 5 = f 1 1 5) ∧ (g 1 1 6 = f 1 1 6) ∧ (g 1 1 7 = f 1 1 7) ∧ (g 1 1 8 = f 1 1 8) ∧ (zcpd f g 7 0 24 (f 1 1 5).toInt.toNat 6 24) ∧ (zcpd f g 8 0 8 (f 1 1 6).toInt.toNat 5 8) ∧ (zcpd f g 11 0 12 (f 1 1 7).toInt.toNat 8 12) ∧ (zcpd f g 12 0 8 (f 1 1 8).toInt.toNat 3 8) ∧ (∀ j, j < 7 → g 6 0 j = f 6 1 j) ∧ (∀ j, j < 7 → g 6 1 j = f 6 1 j) ∧ (∀ i, i < (f 1 1 6).toInt.toNat → zLk g i (fun k j => g 7 k j) (g 1 0 5).toInt.toNat)) := by
  refine ZM.intro (by decide +kernel) (Nat.le_of_ble_eq_true rfl) ?_
  intro X C hr hn
  have hF : zFr [(1, some 5), (1, some 6), (1, some 7), (1, some 8), (6, some 0), (6, some 1), (6, some 2), (6, some 3), (6, some 4), (6, some 5), (6, some 6), (7, some 0), (7, some 1), (7, some 2), (7, some 3), (7, some 4), (7, some 5), (8, some 0), (8, some 1), (8, some 2), (8, some 3), (8, some 4), (8, some 5), (8, some 6), (8, some 7), (9, none), (10, none), (11, some 0), (11, some 1), (11, some 2), (11, some 3), (11, some 4), (11, some 5), (11, some 6), (11, some 7), (12, some 0), (12, some 1), (12, some 2)] f f := zFr.rf _ _
  have ct1_0_5 : zB (f 1 0 5) 0 24 := hI 1 0 5
  have ct1_0_6 : zB (f 1 0 6) 0 8 := hI 1 0 6
  have ct1_0_7 : zB (f 1 0 7) 0 12 := hI 1 0 7
  have ct1_0_8 : zB (f 1 0 8) 0 8 := hI 1 0 8
  have ct1_1_5 : zB (f 1 1 5) 0 24 := hI 1 1 5
  have ct1_1_6 : zB (f 1 1 6) 0 8 := hI 1 1 6
  have ct1_1_7 : zB (f 1 1 7) 0 12 := hI 1 1 7
  have ct1_1_8 : zB (f 1 1 8) 0 8 := hI 1 1 8
  have J : ∀ t : Nat, (∀ a10_2 : Int32, zB a10_2 0 24 → ∀ g : zM, zInv g → zFr [(1, some 5), (1, some 6), (1, some 7), (1, some 8), (6, some 0), (6, some 1), (6, some 2), (6, some 3), (6, some 4), (6, some 5), (6, some 6), (7, some 0), (7, some 1), (7, some 2), (7, some 3), (7, some 4), (7, some 5), (8, some 0), (8, some 1), (8, some 2), (8, some 3), (8, some 4), (8, some 5), (8, some 6), (8, some 7), (9, none), (10, none), (11, some 0), (11, some 1), (11, some 2), (11, some 3), (11, some 4), (11, some 5), (11, some 6), (11, some 7), (12, some 0), (12, some 1), (12, some 2)] f g → zB (g 1 0 5) 0 24 → zB (g 1 0 6) 0 8 → zB (g 1 0 7) 0 12 → zB (g 1 0 8) 0 8 → zB (g 1 1 5) 0 24 → zB (g 1 1 6) 0 8 → zB (g 1 1 7) 0 12 → zB (g 1 1 8) 0 8 → ((g 1 0 5).toInt = (f 1 1 5).toInt) → ((g 1 1 5).toInt = (f 1 1 5).toInt) → ((g 1 1 6).toInt = (f 1 1 6).toInt) → ((g 1 1 7).toInt = (f 1 1 7).toInt) → ((g 1 1 8).toInt = (f 1 1 8).toInt) → (a10_2.toInt ≤ (f 1 1 5).toInt) → (zcpd f g 7 0 24 a10_2.toInt.toNat 6 24) → (zcpd f g 8 0 8 0 5 8) → (zcpd f g 11 0 12 0 8 12) → (zcpd f g 12 0 8 0 3 8) → (∀ n j, g 6 n j = f 6 n j) → (8397 + 8400 * (24 - a10_2.toInt) : Int) < t → Z X 10 [some (zr 1 0), some (zr 1 1), some (zi a10_2)] [] g) ∧ (∀ a49_2 : Int32, zB a49_2 0 8 → ∀ g : zM, zInv g → zFr [(1, some 5), (1, some 6), (1, some 7), (1, some 8), (6, some 0), (6, some 1), (6, some 2), (6, some 3), (6, some 4), (6, some 5), (6, some 6), (7, some 0), (7, some 1), (7, some 2), (7, some 3), (7, some 4), (7, some 5), (8, some 0), (8, some 1), (8, some 2), (8, some 3), (8, some 4), (8, some 5), (8, some 6), (8, some 7), (9, none), (10, none), (11, some 0), (11, some 1), (11, some 2), (11, some 3), (11, some 4), (11, some 5), (11, some 6), (11, some 7), (12, some 0), (12, some 1), (12, some 2)] f g → zB (g 1 0 5) 0 24 → zB (g 1 0 6) 0 8 → zB (g 1 0 7) 0 12 → zB (g 1 0 8) 0 8 → zB (g 1 1 5) 0 24 → zB (g 1 1 6) 0 8 → zB (g 1 1 7) 0 12 → zB (g 1 1 8) 0 8 → ((g 1 0 5).toInt = (f 1 1 5).toInt) → ((g 1 1 5).toInt = (f 1 1 5).toInt) → ((g 1 0 6).toInt = (f 1 1 6).toInt) → ((g 1 1 6).toInt = (f 1 1 6).toInt) → ((g 1 1 7).toInt = (f 1 1 7).toInt) → ((g 1 1 8).toInt = (f 1 1 8).toInt) → (a49_2.toInt ≤ (f 1 1 6).toInt) → (zcpd f g 7 0 24 (f 1 1 5).toInt.toNat 6 24) → (zcpd f g 8 0 8 a49_2.toInt.toNat 5 8) → (zcpd f g 11 0 12 0 8 12) → (zcpd f g 12 0 8 0 3 8) → (∀ n j, g 6 n j = f 6 n j) → (∀ i, i < a49_2.toInt.toNat → zLk g i (fun k j => g 7 k j) (g 1 0 5).toInt.toNat) → (836 + 840 * (8 - a49_2.toInt) : Int) < t → Z X 49 [some (zr 1 0), some (zr 1 1), some (zi a49_2)] [] g) ∧ (∀ a93_2 : Int32, zB a93_2 0 12 → ∀ g : zM, zInv g → zFr [(1, some 5), (1, some 6), (1, some 7), (1, some 8), (6, some 0), (6, some 1), (6, some 2), (6, some 3), (6, some 4), (6, some 5), (6, some 6), (7, some 0), (7, some 1), (7, some 2), (7, some 3), (7, some 4), (7, some 5), (8, some 0), (8, some 1), (8, some 2), (8, some 3), (8, some 4), (8, some 5), (8, some 6), (8, some 7), (9, none), (10, none), (11, some 0), (11, some 1), (11, some 2), (11, some 3), (11, some 4), (11, some 5), (11, some 6), (11, some 7), (12, some 0), (12, some 1), (12, some 2)] f g → zB (g 1 0 5) 0 24 → zB (g 1 0 6) 0 8 → zB (g 1 0 7) 0 12 → zB (g 1 0 8) 0 8 → zB (g 1 1 5) 0 24 → zB (g 1 1 6) 0 8 → zB (g 1 1 7) 0 12 → zB (g 1 1 8) 0 8 → ((g 1 0 5).toInt = (f 1 1 5).toInt) → ((g 1 1 5).toInt = (f 1 1 5).toInt) → ((g 1 0 6).toInt = (f 1 1 6).toInt) → ((g 1 1 6).toInt = (f 1 1 6).toInt) → ((g 1 0 7).toInt = (f 1 1 7).toInt) → ((g 1 1 7).toInt = (f 1 1 7).toInt) → ((g 1 1 8).toInt = (f 1 1 8).toInt) → (a93_2.toInt ≤ (f 1 1 7).toInt) → (zcpd f g 7 0 24 (f 1 1 5).toInt.toNat 6 24) → (zcpd f g 8 0 8 (f 1 1 6).toInt.toNat 5 8) → (zcpd f g 11 0 12 a93_2.toInt.toNat 8 12) → (zcpd f g 12 0 8 0 3 8) → (∀ n j, g 6 n j = f 6 n j) → (∀ i, i < (f 1 1 6).toInt.toNat → zLk g i (fun k j => g 7 k j) (g 1 0 5).toInt.toNat) → (55 + 60 * (12 - a93_2.toInt) : Int) < t → Z X 93 [some (zr 1 0), some (zr 1 1), some (zi a93_2)] [] g) ∧ (∀ a132_2 : Int32, zB a132_2 0 8 → ∀ g : zM, zInv g → zFr [(1, some 5), (1, some 6), (1, some 7), (1, some 8), (6, some 0), (6, some 1), (6, some 2), (6, some 3), (6, some 4), (6, some 5), (6, some 6), (7, some 0), (7, some 1), (7, some 2), (7, some 3), (7, some 4), (7, some 5), (8, some 0), (8, some 1), (8, some 2), (8, some 3), (8, some 4), (8, some 5), (8, some 6), (8, some 7), (9, none), (10, none), (11, some 0), (11, some 1), (11, some 2), (11, some 3), (11, some 4), (11, some 5), (11, some 6), (11, some 7), (12, some 0), (12, some 1), (12, some 2)] f g → zB (g 1 0 5) 0 24 → zB (g 1 0 6) 0 8 → zB (g 1 0 7) 0 12 → zB (g 1 0 8) 0 8 → zB (g 1 1 5) 0 24 → zB (g 1 1 6) 0 8 → zB (g 1 1 7) 0 12 → zB (g 1 1 8) 0 8 → ((g 1 0 5).toInt = (f 1 1 5).toInt) → ((g 1 1 5).toInt = (f 1 1 5).toInt) → ((g 1 0 6).toInt = (f 1 1 6).toInt) → ((g 1 1 6).toInt = (f 1 1 6).toInt) → ((g 1 0 7).toInt = (f 1 1 7).toInt) → ((g 1 1 7).toInt = (f 1 1 7).toInt) → ((g 1 0 8).toInt = (f 1 1 8).toInt) → ((g 1 1 8).toInt = (f 1 1 8).toInt) → (a132_2.toInt ≤ (f 1 1 8).toInt) → (zcpd f g 7 0 24 (f 1 1 5).toInt.toNat 6 24) → (zcpd f g 8 0 8 (f 1 1 6).toInt.toNat 5 8) → (zcpd f g 11 0 12 (f 1 1 7).toInt.toNat 8 12) → (zcpd f g 12 0 8 a132_2.toInt.toNat 3 8) → (∀ n j, g 6 n j = f 6 n j) → (∀ i, i < (f 1 1 6).toInt.toNat → zLk g i (fun k j => g 7 k j) (g 1 0 5).toInt.toNat) → (0 + 6 * (8 - a132_2.toInt) : Int) < t → Z X 132 [some (zr 1 0), some (zr 1 1), some (zi a132_2)] [] g) := by
    intro t
    induction t with
    | zero =>
      refine ⟨?_, ?_, ?_, ?_⟩ <;> (intros; exfalso; omega)
    | succ t ih =>
      obtain ⟨ih0, ih1, ih2, ih3⟩ := ih
      refine ⟨?_, ?_, ?_, ?_⟩
      · skip
        intro a10_2 b10_2 g10_ hI10_ hF10_ f10_1_0_5 f10_1_0_6 f10_1_0_7 f10_1_0_8 f10_1_1_5 f10_1_1_6 f10_1_1_7 f10_1_1_8 hR10_0 hR10_1 hR10_2 hR10_3 hR10_4 hR10_5 hR10_6 hR10_7 hR10_8 hR10_9 hR10_10 hM10_
        refine z_iload_n (pc := 10) C dX8_copy_10 rfl ?_
        refine z_aload_n (pc := 11) C dX8_copy_11 rfl ?_
        refine z_getI (pc := 12) C zf_X8_46 rfl rfl (by decide) dX8_copy_12 ?_
        refine w_gp (fun v => v = g10_ 1 0 5) rfl (fun v1 q1 => ?_)
        have e1 : v1.toInt = (g10_ 1 0 5).toInt := by rw [q1]
        have b1x : zB v1 0 24 := by first | exact zB.eqv e1 f10_1_0_5 | (have q9 := f10_1_0_5; constructor <;> omega)
        refine z_icmp_ge (pc := 15) 39 C dX8_copy_15 (by decide) (fun h15_1 => ?_) (fun h15_1 => ?_)
        · skip
          have rr3 : a10_2.toInt ≥ v1.toInt := by simp only [z32lt, z32le, z32eq] at h15_1; omega
          refine z_aload_n (pc := 39) C dX8_copy_39 rfl ?_
          refine z_aload_n (pc := 40) C dX8_copy_40 rfl ?_
          refine z_getI (pc := 41) C zf_X8_54 rfl rfl (by decide) dX8_copy_41 ?_
          refine w_gp (fun v => v = g10_ 1 1 6) rfl (fun v4 q4 => ?_)
          have e4 : v4.toInt = (g10_ 1 1 6).toInt := by rw [q4]
          have b4x : zB v4 0 8 := by first | exact zB.eqv e4 f10_1_1_6 | (have q9 := f10_1_1_6; constructor <;> omega)
          refine z_putI (pc := 44) C zf_X8_54 zp_8_6 rfl rfl (by decide) dX8_copy_44 ?_
          refine w_memx hI10_ hF10_ b4x rfl (fun g5 qm5 hI5 hF5 hq5 hx5 => ?_)
          have ek5_1_0_5 : (g5 1 0 5).toInt = (g10_ 1 0 5).toInt := by rw [hq5 1 0 5 (by omega)]
          have c5_1_0_5x : zB (g5 1 0 5) 0 24 := by first | exact zB.eqv ek5_1_0_5 f10_1_0_5 | (have q9 := f10_1_0_5; constructor <;> omega)
          have ec5 : (g5 1 0 6).toInt = v4.toInt := by rw [hx5]
          have c5x : zB (g5 1 0 6) 0 8 := by first | exact zB.eqv ec5 b4x | (have q9 := b4x; constructor <;> omega)
          have ek5_1_0_7 : (g5 1 0 7).toInt = (g10_ 1 0 7).toInt := by rw [hq5 1 0 7 (by omega)]
          have c5_1_0_7x : zB (g5 1 0 7) 0 12 := by first | exact zB.eqv ek5_1_0_7 f10_1_0_7 | (have q9 := f10_1_0_7; constructor <;> omega)
          have ek5_1_0_8 : (g5 1 0 8).toInt = (g10_ 1 0 8).toInt := by rw [hq5 1 0 8 (by omega)]
          have c5_1_0_8x : zB (g5 1 0 8) 0 8 := by first | exact zB.eqv ek5_1_0_8 f10_1_0_8 | (have q9 := f10_1_0_8; constructor <;> omega)
          have ek5_1_1_5 : (g5 1 1 5).toInt = (g10_ 1 1 5).toInt := by rw [hq5 1 1 5 (by omega)]
          have c5_1_1_5x : zB (g5 1 1 5) 0 24 := by first | exact zB.eqv ek5_1_1_5 f10_1_1_5 | (have q9 := f10_1_1_5; constructor <;> omega)
          have ek5_1_1_6 : (g5 1 1 6).toInt = (g10_ 1 1 6).toInt := by rw [(show g5 1 1 6 = g10_ 1 1 6 by rw [qm5]; exact zup_ne _ _ (by omega))]
          have c5_1_1_6x : zB (g5 1 1 6) 0 8 := by first | exact zB.eqv ek5_1_1_6 f10_1_1_6 | (have q9 := f10_1_1_6; constructor <;> omega)
          have ek5_1_1_7 : (g5 1 1 7).toInt = (g10_ 1 1 7).toInt := by rw [hq5 1 1 7 (by omega)]
          have c5_1_1_7x : zB (g5 1 1 7) 0 12 := by first | exact zB.eqv ek5_1_1_7 f10_1_1_7 | (have q9 := f10_1_1_7; constructor <;> omega)
          have ek5_1_1_8 : (g5 1 1 8).toInt = (g10_ 1 1 8).toInt := by rw [hq5 1 1 8 (by omega)]
          have c5_1_1_8x : zB (g5 1 1 8) 0 8 := by first | exact zB.eqv ek5_1_1_8 f10_1_1_8 | (have q9 := f10_1_1_8; constructor <;> omega)
          refine z_iconst (pc := 47) (v := 0) C dX8_copy_47 (by decide) ?_
          refine z_istore_n (pc := 48) C dX8_copy_48 (by rw [hn]; decide) rfl ?_
          exact ih1 0 (zB.wk (a' := 0) (b' := 8) (zB.of (x := 0) 0 (by decide)) (by decide) (by decide)) g5 hI5 hF5 c5_1_0_5x c5x c5_1_0_7x c5_1_0_8x c5_1_1_5x c5_1_1_6x c5_1_1_7x c5_1_1_8x (by have qc0 : (0 : Int32).toInt = 0 := (by decide); omega) (by have qc0 : (0 : Int32).toInt = 0 := (by decide); omega) (by have qc0 : (0 : Int32).toInt = 0 := (by decide); omega) (by have qc0 : (0 : Int32).toInt = 0 := (by decide); omega) (by have qc0 : (0 : Int32).toInt = 0 := (by decide); omega) (by have qc0 : (0 : Int32).toInt = 0 := (by decide); omega) (by have qc0 : (0 : Int32).toInt = 0 := (by decide); omega) (by
                                                                                          have hz : (f 1 1 5).toInt.toNat = a10_2.toInt.toNat := by omega
                                                                                          rw [hz]
                                                                                          exact zcpd_keep hR10_6 (fun x j hj => by subst qm5; exact zup_ne _ _ (by omega))) (by
                                                                                          show zcpd f g5 8 0 8 0 5 8
                                                                                          exact zcpd_keep hR10_7 (fun x j hj => by subst qm5; exact zup_ne _ _ (by omega))) (by
                                                                                          exact zcpd_keep hR10_8 (fun x j hj => by subst qm5; exact zup_ne _ _ (by omega))) (by
                                                                                          exact zcpd_keep hR10_9 (fun x j hj => by subst qm5; exact zup_ne _ _ (by omega))) (by intro n j; subst qm5; exact (zup_ne _ _ (by omega)).trans (hR10_10 n j)) (by intro i hi; exact absurd hi (Nat.not_lt_zero i)) (by have qc0 : (0 : Int32).toInt = 0 := (by decide); omega)
        · skip
          have rr6 : a10_2.toInt < v1.toInt := by simp only [z32lt, z32le, z32eq] at h15_1; omega
          have b7x : zB a10_2 0 23 := by have q1 := b10_2; have q2 := b1x; simp only [z32lt, z32le, z32eq, Int32.reduceToInt, Int32.toInt_zero] at h15_1; constructor <;> omega
          have b8x : zB v1 1 24 := by have q1 := b10_2; have q2 := b1x; simp only [z32lt, z32le, z32eq, Int32.reduceToInt, Int32.toInt_zero] at h15_1; constructor <;> omega
          have c9x : zB (g10_ 1 0 5) 1 24 := by first | assumption | (constructor <;> omega)
          refine z_aload_n (pc := 18) C dX8_copy_18 rfl ?_
          refine z_getR (pc := 19) C zf_X8_11 rfl rfl (by decide) dX8_copy_19 ?_
          refine z_iload_n (pc := 22) C dX8_copy_22 rfl ?_
          refine z_aald (pc := 23) C rfl ⟨rfl, by decide⟩ (by decide) (zIx b7x (by decide) (by decide)) dX8_copy_23 ?_
          refine w_grx (by have hq := zN b7x (by decide); show 24 * 0 + a10_2.toNatClampNeg < 60; omega) (fun m10 q10r h10x => ?_)
          have q10r : m10 = 24 * 0 + a10_2.toNatClampNeg := q10r
          have k10r : a10_2.toNatClampNeg = a10_2.toInt.toNat := rfl
          refine z_aload_n (pc := 24) C dX8_copy_24 rfl ?_
          refine z_getR (pc := 25) C zf_X8_11 rfl rfl (by decide) dX8_copy_25 ?_
          refine z_iload_n (pc := 28) C dX8_copy_28 rfl ?_
          refine z_aald (pc := 29) C rfl ⟨rfl, by decide⟩ (by decide) (zIx b7x (by decide) (by decide)) dX8_copy_29 ?_
          refine w_grx (by have hq := zN b7x (by decide); show 24 * 1 + a10_2.toNatClampNeg < 60; omega) (fun m11 q11r h11x => ?_)
          have q11r : m11 = 24 * 1 + a10_2.toNatClampNeg := q11r
          have k11r : a10_2.toNatClampNeg = a10_2.toInt.toNat := rfl
          refine z_callV (pc := 30) C zk_X8_50 (x_X0_copy _ _ m10 h10x m11 h11x hI10_) rfl rfl h10x rfl rfl (Nat.le_of_ble_eq_true rfl) dX8_copy_30 (fun r12 g12 q12 => ?_)
          obtain ⟨rfl, hI12, hF12q, hp12_0, hp12_1⟩ := q12
          have hF12 := zFr.tr hF10_ hF12q (by decide)
          simp only [Option.toList, List.cons_append, List.nil_append]
          have ek12_1_0_5 : (g12 1 0 5).toInt = (g10_ 1 0 5).toInt := by rw [hF12q 1 0 5 rfl]
          have c12_1_0_5x : zB (g12 1 0 5) 1 24 := by first | exact zB.eqv ek12_1_0_5 c9x | (have q9 := c9x; constructor <;> omega)
          have ek12_1_0_6 : (g12 1 0 6).toInt = (g10_ 1 0 6).toInt := by rw [hF12q 1 0 6 rfl]
          have c12_1_0_6x : zB (g12 1 0 6) 0 8 := by first | exact zB.eqv ek12_1_0_6 f10_1_0_6 | (have q9 := f10_1_0_6; constructor <;> omega)
          have ek12_1_0_7 : (g12 1 0 7).toInt = (g10_ 1 0 7).toInt := by rw [hF12q 1 0 7 rfl]
          have c12_1_0_7x : zB (g12 1 0 7) 0 12 := by first | exact zB.eqv ek12_1_0_7 f10_1_0_7 | (have q9 := f10_1_0_7; constructor <;> omega)
          have ek12_1_0_8 : (g12 1 0 8).toInt = (g10_ 1 0 8).toInt := by rw [hF12q 1 0 8 rfl]
          have c12_1_0_8x : zB (g12 1 0 8) 0 8 := by first | exact zB.eqv ek12_1_0_8 f10_1_0_8 | (have q9 := f10_1_0_8; constructor <;> omega)
          have ek12_1_1_5 : (g12 1 1 5).toInt = (g10_ 1 1 5).toInt := by rw [hF12q 1 1 5 rfl]
          have c12_1_1_5x : zB (g12 1 1 5) 0 24 := by first | exact zB.eqv ek12_1_1_5 f10_1_1_5 | (have q9 := f10_1_1_5; constructor <;> omega)
          have ek12_1_1_6 : (g12 1 1 6).toInt = (g10_ 1 1 6).toInt := by rw [hF12q 1 1 6 rfl]
          have c12_1_1_6x : zB (g12 1 1 6) 0 8 := by first | exact zB.eqv ek12_1_1_6 f10_1_1_6 | (have q9 := f10_1_1_6; constructor <;> omega)
          have ek12_1_1_7 : (g12 1 1 7).toInt = (g10_ 1 1 7).toInt := by rw [hF12q 1 1 7 rfl]
          have c12_1_1_7x : zB (g12 1 1 7) 0 12 := by first | exact zB.eqv ek12_1_1_7 f10_1_1_7 | (have q9 := f10_1_1_7; constructor <;> omega)
          have ek12_1_1_8 : (g12 1 1 8).toInt = (g10_ 1 1 8).toInt := by rw [hF12q 1 1 8 rfl]
          have c12_1_1_8x : zB (g12 1 1 8) 0 8 := by first | exact zB.eqv ek12_1_1_8 f10_1_1_8 | (have q9 := f10_1_1_8; constructor <;> omega)
          refine z_iinc (pc := 33) (v := 1) C dX8_copy_33 rfl (by decide) (by rw [hn]; decide) rfl ?_
          obtain ⟨v13, hv13, e13⟩ : ∃ v : Int32, v = a10_2 + 1 ∧ v.toInt = a10_2.toInt + 1 := ⟨_, rfl, zadd_eb b7x (zB.of (x := 1) 1 (by decide)) (by decide) (by decide)⟩
          rw [← hv13]
          have b13x : zB v13 1 24 := by have q9 := b7x; constructor <;> omega
          refine z_goto (pc := 36) 10 C dX8_copy_36 (by decide) ?_
          exact ih0 v13 (zB.wk (a' := 0) (b' := 24) b13x (by decide) (by decide)) g12 hI12 hF12 (zB.wk c12_1_0_5x (by decide) (by decide)) c12_1_0_6x c12_1_0_7x c12_1_0_8x c12_1_1_5x c12_1_1_6x c12_1_1_7x c12_1_1_8x (by omega) (by omega) (by omega) (by omega) (by omega) (by omega) (by
                                                                                          have hn : (v13).toInt.toNat = a10_2.toInt.toNat + 1 := by omega
                                                                                          rw [hn]
                                                                                          have hm0 : m10 = 0 + a10_2.toInt.toNat := by omega
                                                                                          have hm1 : m11 = 24 + a10_2.toInt.toNat := by omega
                                                                                          refine zcpd_s hR10_6 (by omega) (by omega) (fun j hj => ?_) (fun x j hx hj => ?_)
                                                                                          · rw [← hm0, ← hm1]; exact hp12_0 j hj
                                                                                          · exact hp12_1 x j (by omega)) (by
                                                                                          exact zcpd_keep hR10_7 (fun x j hj => hF12q 8 x j rfl)) (by
                                                                                          exact zcpd_keep hR10_8 (fun x j hj => hF12q 11 x j rfl)) (by
                                                                                          exact zcpd_keep hR10_9 (fun x j hj => hF12q 12 x j rfl)) (by intro n j; exact (hF12q 6 n j rfl).trans (hR10_10 n j)) (by omega)
      · skip
        intro a49_2 b49_2 g49_ hI49_ hF49_ f49_1_0_5 f49_1_0_6 f49_1_0_7 f49_1_0_8 f49_1_1_5 f49_1_1_6 f49_1_1_7 f49_1_1_8 hR49_0 hR49_1 hR49_2 hR49_3 hR49_4 hR49_5 hR49_6 hR49_7 hR49_8 hR49_9 hR49_10 hR49_11 hR49_12 hM49_
        refine z_iload_n (pc := 49) C dX8_copy_49 rfl ?_
        refine z_aload_n (pc := 50) C dX8_copy_50 rfl ?_
        refine z_getI (pc := 51) C zf_X8_54 rfl rfl (by decide) dX8_copy_51 ?_
        refine w_gp (fun v => v = g49_ 1 0 6) rfl (fun v14 q14 => ?_)
        have e14 : v14.toInt = (g49_ 1 0 6).toInt := by rw [q14]
        have b14x : zB v14 0 8 := by first | exact zB.eqv e14 f49_1_0_6 | (have q9 := f49_1_0_6; constructor <;> omega)
        refine z_icmp_ge (pc := 54) 83 C dX8_copy_54 (by decide) (fun h54_14 => ?_) (fun h54_14 => ?_)
        · skip
          have rr16 : a49_2.toInt ≥ v14.toInt := by simp only [z32lt, z32le, z32eq] at h54_14; omega
          refine z_aload_n (pc := 83) C dX8_copy_83 rfl ?_
          refine z_aload_n (pc := 84) C dX8_copy_84 rfl ?_
          refine z_getI (pc := 85) C zf_X8_64 rfl rfl (by decide) dX8_copy_85 ?_
          refine w_gp (fun v => v = g49_ 1 1 7) rfl (fun v17 q17 => ?_)
          have e17 : v17.toInt = (g49_ 1 1 7).toInt := by rw [q17]
          have b17x : zB v17 0 12 := by first | exact zB.eqv e17 f49_1_1_7 | (have q9 := f49_1_1_7; constructor <;> omega)
          refine z_putI (pc := 88) C zf_X8_64 zp_8_7 rfl rfl (by decide) dX8_copy_88 ?_
          refine w_memx hI49_ hF49_ b17x rfl (fun g18 qm18 hI18 hF18 hq18 hx18 => ?_)
          have ek18_1_0_5 : (g18 1 0 5).toInt = (g49_ 1 0 5).toInt := by rw [hq18 1 0 5 (by omega)]
          have c18_1_0_5x : zB (g18 1 0 5) 0 24 := by first | exact zB.eqv ek18_1_0_5 f49_1_0_5 | (have q9 := f49_1_0_5; constructor <;> omega)
          have ek18_1_0_6 : (g18 1 0 6).toInt = (g49_ 1 0 6).toInt := by rw [hq18 1 0 6 (by omega)]
          have c18_1_0_6x : zB (g18 1 0 6) 0 8 := by first | exact zB.eqv ek18_1_0_6 f49_1_0_6 | (have q9 := f49_1_0_6; constructor <;> omega)
          have ec18 : (g18 1 0 7).toInt = v17.toInt := by rw [hx18]
          have c18x : zB (g18 1 0 7) 0 12 := by first | exact zB.eqv ec18 b17x | (have q9 := b17x; constructor <;> omega)
          have ek18_1_0_8 : (g18 1 0 8).toInt = (g49_ 1 0 8).toInt := by rw [hq18 1 0 8 (by omega)]
          have c18_1_0_8x : zB (g18 1 0 8) 0 8 := by first | exact zB.eqv ek18_1_0_8 f49_1_0_8 | (have q9 := f49_1_0_8; constructor <;> omega)
          have ek18_1_1_5 : (g18 1 1 5).toInt = (g49_ 1 1 5).toInt := by rw [hq18 1 1 5 (by omega)]
          have c18_1_1_5x : zB (g18 1 1 5) 0 24 := by first | exact zB.eqv ek18_1_1_5 f49_1_1_5 | (have q9 := f49_1_1_5; constructor <;> omega)
          have ek18_1_1_6 : (g18 1 1 6).toInt = (g49_ 1 1 6).toInt := by rw [hq18 1 1 6 (by omega)]
          have c18_1_1_6x : zB (g18 1 1 6) 0 8 := by first | exact zB.eqv ek18_1_1_6 f49_1_1_6 | (have q9 := f49_1_1_6; constructor <;> omega)
          have ek18_1_1_7 : (g18 1 1 7).toInt = (g49_ 1 1 7).toInt := by rw [(show g18 1 1 7 = g49_ 1 1 7 by rw [qm18]; exact zup_ne _ _ (by omega))]
          have c18_1_1_7x : zB (g18 1 1 7) 0 12 := by first | exact zB.eqv ek18_1_1_7 f49_1_1_7 | (have q9 := f49_1_1_7; constructor <;> omega)
          have ek18_1_1_8 : (g18 1 1 8).toInt = (g49_ 1 1 8).toInt := by rw [hq18 1 1 8 (by omega)]
          have c18_1_1_8x : zB (g18 1 1 8) 0 8 := by first | exact zB.eqv ek18_1_1_8 f49_1_1_8 | (have q9 := f49_1_1_8; constructor <;> omega)
          refine z_iconst (pc := 91) (v := 0) C dX8_copy_91 (by decide) ?_
          refine z_istore_n (pc := 92) C dX8_copy_92 (by rw [hn]; decide) rfl ?_
          exact ih2 0 (zB.wk (a' := 0) (b' := 12) (zB.of (x := 0) 0 (by decide)) (by decide) (by decide)) g18 hI18 hF18 c18_1_0_5x c18_1_0_6x c18x c18_1_0_8x c18_1_1_5x c18_1_1_6x c18_1_1_7x c18_1_1_8x (by have qc0 : (0 : Int32).toInt = 0 := (by decide); omega) (by have qc0 : (0 : Int32).toInt = 0 := (by decide); omega) (by have qc0 : (0 : Int32).toInt = 0 := (by decide); omega) (by have qc0 : (0 : Int32).toInt = 0 := (by decide); omega) (by have qc0 : (0 : Int32).toInt = 0 := (by decide); omega) (by have qc0 : (0 : Int32).toInt = 0 := (by decide); omega) (by have qc0 : (0 : Int32).toInt = 0 := (by decide); omega) (by have qc0 : (0 : Int32).toInt = 0 := (by decide); omega) (by
                                                                                          exact zcpd_keep hR49_7 (fun x j hj => by subst qm18; exact zup_ne _ _ (by omega))) (by
                                                                                          have hz : (f 1 1 6).toInt.toNat = a49_2.toInt.toNat := by omega
                                                                                          rw [hz]
                                                                                          exact zcpd_keep hR49_8 (fun x j hj => by subst qm18; exact zup_ne _ _ (by omega))) (by
                                                                                          show zcpd f g18 11 0 12 0 8 12
                                                                                          exact zcpd_keep hR49_9 (fun x j hj => by subst qm18; exact zup_ne _ _ (by omega))) (by
                                                                                          exact zcpd_keep hR49_10 (fun x j hj => by subst qm18; exact zup_ne _ _ (by omega))) (by intro n j; subst qm18; exact (zup_ne _ _ (by omega)).trans (hR49_11 n j)) (by
                                                                                          intro i hi
                                                                                          have hp := hR49_12 i (by omega)
                                                                                          rw [show g18 1 0 5 = _ from (show g18 1 0 5 = g49_ 1 0 5 by rw [qm18]; exact zup_ne _ _ (by omega))]
                                                                                          exact zLk_c (zLk_k hp (fun j hj => (show g18 8 i j = g49_ 8 i j by rw [qm18]; exact zup_ne _ _ (by omega))) (fun l hl => (show g18 9 i l = g49_ 9 i l by rw [qm18]; exact zup_ne _ _ (by omega))) (fun l hl => (show g18 10 i l = g49_ 10 i l by rw [qm18]; exact zup_ne _ _ (by omega)))) (fun k j _ _ => ((show g18 7 k j = g49_ 7 k j by rw [qm18]; exact zup_ne _ _ (by omega))).symm)) (by have qc0 : (0 : Int32).toInt = 0 := (by decide); omega)
        · skip
          have rr19 : a49_2.toInt < v14.toInt := by simp only [z32lt, z32le, z32eq] at h54_14; omega
          have b20x : zB a49_2 0 7 := by have q1 := b49_2; have q2 := b14x; simp only [z32lt, z32le, z32eq, Int32.reduceToInt, Int32.toInt_zero] at h54_14; constructor <;> omega
          have b21x : zB v14 1 8 := by have q1 := b49_2; have q2 := b14x; simp only [z32lt, z32le, z32eq, Int32.reduceToInt, Int32.toInt_zero] at h54_14; constructor <;> omega
          have c22x : zB (g49_ 1 0 6) 1 8 := by first | assumption | (constructor <;> omega)
          refine z_aload_n (pc := 57) C dX8_copy_57 rfl ?_
          refine z_getR (pc := 58) C zf_X8_19 rfl rfl (by decide) dX8_copy_58 ?_
          refine z_iload_n (pc := 61) C dX8_copy_61 rfl ?_
          refine z_aald (pc := 62) C rfl ⟨rfl, by decide⟩ (by decide) (zIx b20x (by decide) (by decide)) dX8_copy_62 ?_
          refine w_grx (by have hq := zN b20x (by decide); show 8 * 0 + a49_2.toNatClampNeg < 16; omega) (fun m23 q23r h23x => ?_)
          have q23r : m23 = 8 * 0 + a49_2.toNatClampNeg := q23r
          have k23r : a49_2.toNatClampNeg = a49_2.toInt.toNat := rfl
          refine z_aload_n (pc := 63) C dX8_copy_63 rfl ?_
          refine z_getR (pc := 64) C zf_X8_19 rfl rfl (by decide) dX8_copy_64 ?_
          refine z_iload_n (pc := 67) C dX8_copy_67 rfl ?_
          refine z_aald (pc := 68) C rfl ⟨rfl, by decide⟩ (by decide) (zIx b20x (by decide) (by decide)) dX8_copy_68 ?_
          refine w_grx (by have hq := zN b20x (by decide); show 8 * 1 + a49_2.toNatClampNeg < 16; omega) (fun m24 q24r h24x => ?_)
          have q24r : m24 = 8 * 1 + a49_2.toNatClampNeg := q24r
          have k24r : a49_2.toNatClampNeg = a49_2.toInt.toNat := rfl
          refine z_callV (pc := 69) C zk_X8_57 (x_X1_copy _ _ m23 h23x m24 h24x (by omega) hI49_) rfl rfl h23x rfl rfl (Nat.le_of_ble_eq_true rfl) dX8_copy_69 (fun r25 g25 q25 => ?_)
          obtain ⟨rfl, hI25, hF25q, hp25_0, hp25_1⟩ := q25
          have hF25 := zFr.tr hF49_ hF25q (by decide)
          simp only [Option.toList, List.cons_append, List.nil_append]
          have ek25_1_0_5 : (g25 1 0 5).toInt = (g49_ 1 0 5).toInt := by rw [hF25q 1 0 5 rfl]
          have c25_1_0_5x : zB (g25 1 0 5) 0 24 := by first | exact zB.eqv ek25_1_0_5 f49_1_0_5 | (have q9 := f49_1_0_5; constructor <;> omega)
          have ek25_1_0_6 : (g25 1 0 6).toInt = (g49_ 1 0 6).toInt := by rw [hF25q 1 0 6 rfl]
          have c25_1_0_6x : zB (g25 1 0 6) 1 8 := by first | exact zB.eqv ek25_1_0_6 c22x | (have q9 := c22x; constructor <;> omega)
          have ek25_1_0_7 : (g25 1 0 7).toInt = (g49_ 1 0 7).toInt := by rw [hF25q 1 0 7 rfl]
          have c25_1_0_7x : zB (g25 1 0 7) 0 12 := by first | exact zB.eqv ek25_1_0_7 f49_1_0_7 | (have q9 := f49_1_0_7; constructor <;> omega)
          have ek25_1_0_8 : (g25 1 0 8).toInt = (g49_ 1 0 8).toInt := by rw [hF25q 1 0 8 rfl]
          have c25_1_0_8x : zB (g25 1 0 8) 0 8 := by first | exact zB.eqv ek25_1_0_8 f49_1_0_8 | (have q9 := f49_1_0_8; constructor <;> omega)
          have ek25_1_1_5 : (g25 1 1 5).toInt = (g49_ 1 1 5).toInt := by rw [hF25q 1 1 5 rfl]
          have c25_1_1_5x : zB (g25 1 1 5) 0 24 := by first | exact zB.eqv ek25_1_1_5 f49_1_1_5 | (have q9 := f49_1_1_5; constructor <;> omega)
          have ek25_1_1_6 : (g25 1 1 6).toInt = (g49_ 1 1 6).toInt := by rw [hF25q 1 1 6 rfl]
          have c25_1_1_6x : zB (g25 1 1 6) 0 8 := by first | exact zB.eqv ek25_1_1_6 f49_1_1_6 | (have q9 := f49_1_1_6; constructor <;> omega)
          have ek25_1_1_7 : (g25 1 1 7).toInt = (g49_ 1 1 7).toInt := by rw [hF25q 1 1 7 rfl]
          have c25_1_1_7x : zB (g25 1 1 7) 0 12 := by first | exact zB.eqv ek25_1_1_7 f49_1_1_7 | (have q9 := f49_1_1_7; constructor <;> omega)
          have ek25_1_1_8 : (g25 1 1 8).toInt = (g49_ 1 1 8).toInt := by rw [hF25q 1 1 8 rfl]
          have c25_1_1_8x : zB (g25 1 1 8) 0 8 := by first | exact zB.eqv ek25_1_1_8 f49_1_1_8 | (have q9 := f49_1_1_8; constructor <;> omega)
          refine z_aload_n (pc := 72) C dX8_copy_72 rfl ?_
          refine z_iload_n (pc := 73) C dX8_copy_73 rfl ?_
          refine z_callV (pc := 74) C zk_X8_60 (x_X8_learnAgain _ _ a49_2 b20x hI25) rfl rfl (by decide) rfl rfl (Nat.le_of_ble_eq_true rfl) dX8_copy_74 (fun r26 g26 q26 => ?_)
          obtain ⟨rfl, hI26, hF26q, hp26_0, hp26_1⟩ := q26
          have hF26 := zFr.tr hF25 hF26q (by decide)
          simp only [Option.toList, List.cons_append, List.nil_append]
          have ek26_1_0_5 : (g26 1 0 5).toInt = (g25 1 0 5).toInt := by rw [hF26q 1 0 5 rfl]
          have c26_1_0_5x : zB (g26 1 0 5) 0 24 := by first | exact zB.eqv ek26_1_0_5 c25_1_0_5x | (have q9 := c25_1_0_5x; constructor <;> omega)
          have ek26_1_0_6 : (g26 1 0 6).toInt = (g25 1 0 6).toInt := by rw [hF26q 1 0 6 rfl]
          have c26_1_0_6x : zB (g26 1 0 6) 1 8 := by first | exact zB.eqv ek26_1_0_6 c25_1_0_6x | (have q9 := c25_1_0_6x; constructor <;> omega)
          have ek26_1_0_7 : (g26 1 0 7).toInt = (g25 1 0 7).toInt := by rw [hF26q 1 0 7 rfl]
          have c26_1_0_7x : zB (g26 1 0 7) 0 12 := by first | exact zB.eqv ek26_1_0_7 c25_1_0_7x | (have q9 := c25_1_0_7x; constructor <;> omega)
          have ek26_1_0_8 : (g26 1 0 8).toInt = (g25 1 0 8).toInt := by rw [hF26q 1 0 8 rfl]
          have c26_1_0_8x : zB (g26 1 0 8) 0 8 := by first | exact zB.eqv ek26_1_0_8 c25_1_0_8x | (have q9 := c25_1_0_8x; constructor <;> omega)
          have ek26_1_1_5 : (g26 1 1 5).toInt = (g25 1 1 5).toInt := by rw [hF26q 1 1 5 rfl]
          have c26_1_1_5x : zB (g26 1 1 5) 0 24 := by first | exact zB.eqv ek26_1_1_5 c25_1_1_5x | (have q9 := c25_1_1_5x; constructor <;> omega)
          have ek26_1_1_6 : (g26 1 1 6).toInt = (g25 1 1 6).toInt := by rw [hF26q 1 1 6 rfl]
          have c26_1_1_6x : zB (g26 1 1 6) 0 8 := by first | exact zB.eqv ek26_1_1_6 c25_1_1_6x | (have q9 := c25_1_1_6x; constructor <;> omega)
          have ek26_1_1_7 : (g26 1 1 7).toInt = (g25 1 1 7).toInt := by rw [hF26q 1 1 7 rfl]
          have c26_1_1_7x : zB (g26 1 1 7) 0 12 := by first | exact zB.eqv ek26_1_1_7 c25_1_1_7x | (have q9 := c25_1_1_7x; constructor <;> omega)
          have ek26_1_1_8 : (g26 1 1 8).toInt = (g25 1 1 8).toInt := by rw [hF26q 1 1 8 rfl]
          have c26_1_1_8x : zB (g26 1 1 8) 0 8 := by first | exact zB.eqv ek26_1_1_8 c25_1_1_8x | (have q9 := c25_1_1_8x; constructor <;> omega)
          refine z_iinc (pc := 77) (v := 1) C dX8_copy_77 rfl (by decide) (by rw [hn]; decide) rfl ?_
          obtain ⟨v27, hv27, e27⟩ : ∃ v : Int32, v = a49_2 + 1 ∧ v.toInt = a49_2.toInt + 1 := ⟨_, rfl, zadd_eb b20x (zB.of (x := 1) 1 (by decide)) (by decide) (by decide)⟩
          rw [← hv27]
          have b27x : zB v27 1 8 := by have q9 := b20x; constructor <;> omega
          refine z_goto (pc := 80) 49 C dX8_copy_80 (by decide) ?_
          exact ih1 v27 (zB.wk (a' := 0) (b' := 8) b27x (by decide) (by decide)) g26 hI26 hF26 c26_1_0_5x (zB.wk c26_1_0_6x (by decide) (by decide)) c26_1_0_7x c26_1_0_8x c26_1_1_5x c26_1_1_6x c26_1_1_7x c26_1_1_8x (by omega) (by omega) (by omega) (by omega) (by omega) (by omega) (by omega) (by
                                                                                          exact zcpd_keep hR49_7 (fun x j hj => (hF26q 7 x j rfl).trans (hF25q 7 x j rfl))) (by
                                                                                          have hn : (v27).toInt.toNat = a49_2.toInt.toNat + 1 := by omega
                                                                                          rw [hn]
                                                                                          have hm0 : m23 = 0 + a49_2.toInt.toNat := by omega
                                                                                          have hm1 : m24 = 8 + a49_2.toInt.toNat := by omega
                                                                                          have e0 : ∀ x j, j < 5 → g26 8 x j = g25 8 x j := fun x j hj => hF26q 8 x j (by rcases (show j = 0 ∨ j = 1 ∨ j = 2 ∨ j = 3 ∨ j = 4 by omega) with rfl | rfl | rfl | rfl | rfl <;> rfl)
                                                                                          refine zcpd_s hR49_8 (by omega) (by omega) (fun j hj => ?_) (fun x j hx hj => ?_)
                                                                                          · rw [e0 _ j hj, ← hm0, ← hm1]; exact hp25_0 j hj
                                                                                          · rw [e0 _ j hj]; exact hp25_1 x j (by omega)) (by
                                                                                          exact zcpd_keep hR49_9 (fun x j hj => (hF26q 11 x j rfl).trans (hF25q 11 x j rfl))) (by
                                                                                          exact zcpd_keep hR49_10 (fun x j hj => (hF26q 12 x j rfl).trans (hF25q 12 x j rfl))) (by intro n j; exact ((hF26q 6 n j rfl).trans (hF25q 6 n j rfl)).trans (hR49_11 n j)) (by
                                                                                          intro i hi
                                                                                          have hm0 : m23 = a49_2.toInt.toNat := by omega
                                                                                          have h5 : g26 1 0 5 = g25 1 0 5 := hF26q 1 0 5 rfl
                                                                                          have h7 : ∀ k j, g26 7 k j = g25 7 k j := fun k j => hF26q 7 k j rfl
                                                                                          have g5 : g25 1 0 5 = g49_ 1 0 5 := hF25q 1 0 5 rfl
                                                                                          have g7 : ∀ k j, g25 7 k j = g49_ 7 k j := fun k j => hF25q 7 k j rfl
                                                                                          by_cases q : i = a49_2.toInt.toNat
                                                                                          · rw [q, h5]
                                                                                            exact zLk_c hp26_0 (fun k j _ _ => (h7 k j).symm)
                                                                                          · have hp := hR49_12 i (by omega)
                                                                                            rw [h5, g5]
                                                                                            exact zLk_c (zLk_k hp (fun j hj => (hp26_1.1 i j q).trans (hp25_1 i j (by omega))) (fun l hl => (hp26_1.2.1 i l q).trans (hF25q 9 i l rfl)) (fun l hl => (hp26_1.2.2 i l q).trans (hF25q 10 i l rfl))) (fun k j _ _ => ((h7 k j).trans (g7 k j)).symm)) (by omega)
      · skip
        intro a93_2 b93_2 g93_ hI93_ hF93_ f93_1_0_5 f93_1_0_6 f93_1_0_7 f93_1_0_8 f93_1_1_5 f93_1_1_6 f93_1_1_7 f93_1_1_8 hR93_0 hR93_1 hR93_2 hR93_3 hR93_4 hR93_5 hR93_6 hR93_7 hR93_8 hR93_9 hR93_10 hR93_11 hR93_12 hR93_13 hM93_
        refine z_iload_n (pc := 93) C dX8_copy_93 rfl ?_
        refine z_aload_n (pc := 94) C dX8_copy_94 rfl ?_
        refine z_getI (pc := 95) C zf_X8_64 rfl rfl (by decide) dX8_copy_95 ?_
        refine w_gp (fun v => v = g93_ 1 0 7) rfl (fun v28 q28 => ?_)
        have e28 : v28.toInt = (g93_ 1 0 7).toInt := by rw [q28]
        have b28x : zB v28 0 12 := by first | exact zB.eqv e28 f93_1_0_7 | (have q9 := f93_1_0_7; constructor <;> omega)
        refine z_icmp_ge (pc := 98) 122 C dX8_copy_98 (by decide) (fun h98_28 => ?_) (fun h98_28 => ?_)
        · skip
          have rr30 : a93_2.toInt ≥ v28.toInt := by simp only [z32lt, z32le, z32eq] at h98_28; omega
          refine z_aload_n (pc := 122) C dX8_copy_122 rfl ?_
          refine z_aload_n (pc := 123) C dX8_copy_123 rfl ?_
          refine z_getI (pc := 124) C zf_X8_70 rfl rfl (by decide) dX8_copy_124 ?_
          refine w_gp (fun v => v = g93_ 1 1 8) rfl (fun v31 q31 => ?_)
          have e31 : v31.toInt = (g93_ 1 1 8).toInt := by rw [q31]
          have b31x : zB v31 0 8 := by first | exact zB.eqv e31 f93_1_1_8 | (have q9 := f93_1_1_8; constructor <;> omega)
          refine z_putI (pc := 127) C zf_X8_70 zp_8_8 rfl rfl (by decide) dX8_copy_127 ?_
          refine w_memx hI93_ hF93_ b31x rfl (fun g32 qm32 hI32 hF32 hq32 hx32 => ?_)
          have ek32_1_0_5 : (g32 1 0 5).toInt = (g93_ 1 0 5).toInt := by rw [hq32 1 0 5 (by omega)]
          have c32_1_0_5x : zB (g32 1 0 5) 0 24 := by first | exact zB.eqv ek32_1_0_5 f93_1_0_5 | (have q9 := f93_1_0_5; constructor <;> omega)
          have ek32_1_0_6 : (g32 1 0 6).toInt = (g93_ 1 0 6).toInt := by rw [hq32 1 0 6 (by omega)]
          have c32_1_0_6x : zB (g32 1 0 6) 0 8 := by first | exact zB.eqv ek32_1_0_6 f93_1_0_6 | (have q9 := f93_1_0_6; constructor <;> omega)
          have ek32_1_0_7 : (g32 1 0 7).toInt = (g93_ 1 0 7).toInt := by rw [hq32 1 0 7 (by omega)]
          have c32_1_0_7x : zB (g32 1 0 7) 0 12 := by first | exact zB.eqv ek32_1_0_7 f93_1_0_7 | (have q9 := f93_1_0_7; constructor <;> omega)
          have ec32 : (g32 1 0 8).toInt = v31.toInt := by rw [hx32]
          have c32x : zB (g32 1 0 8) 0 8 := by first | exact zB.eqv ec32 b31x | (have q9 := b31x; constructor <;> omega)
          have ek32_1_1_5 : (g32 1 1 5).toInt = (g93_ 1 1 5).toInt := by rw [hq32 1 1 5 (by omega)]
          have c32_1_1_5x : zB (g32 1 1 5) 0 24 := by first | exact zB.eqv ek32_1_1_5 f93_1_1_5 | (have q9 := f93_1_1_5; constructor <;> omega)
          have ek32_1_1_6 : (g32 1 1 6).toInt = (g93_ 1 1 6).toInt := by rw [hq32 1 1 6 (by omega)]
          have c32_1_1_6x : zB (g32 1 1 6) 0 8 := by first | exact zB.eqv ek32_1_1_6 f93_1_1_6 | (have q9 := f93_1_1_6; constructor <;> omega)
          have ek32_1_1_7 : (g32 1 1 7).toInt = (g93_ 1 1 7).toInt := by rw [hq32 1 1 7 (by omega)]
          have c32_1_1_7x : zB (g32 1 1 7) 0 12 := by first | exact zB.eqv ek32_1_1_7 f93_1_1_7 | (have q9 := f93_1_1_7; constructor <;> omega)
          have ek32_1_1_8 : (g32 1 1 8).toInt = (g93_ 1 1 8).toInt := by rw [(show g32 1 1 8 = g93_ 1 1 8 by rw [qm32]; exact zup_ne _ _ (by omega))]
          have c32_1_1_8x : zB (g32 1 1 8) 0 8 := by first | exact zB.eqv ek32_1_1_8 f93_1_1_8 | (have q9 := f93_1_1_8; constructor <;> omega)
          refine z_iconst (pc := 130) (v := 0) C dX8_copy_130 (by decide) ?_
          refine z_istore_n (pc := 131) C dX8_copy_131 (by rw [hn]; decide) rfl ?_
          exact ih3 0 (zB.wk (a' := 0) (b' := 8) (zB.of (x := 0) 0 (by decide)) (by decide) (by decide)) g32 hI32 hF32 c32_1_0_5x c32_1_0_6x c32_1_0_7x c32x c32_1_1_5x c32_1_1_6x c32_1_1_7x c32_1_1_8x (by have qc0 : (0 : Int32).toInt = 0 := (by decide); omega) (by have qc0 : (0 : Int32).toInt = 0 := (by decide); omega) (by have qc0 : (0 : Int32).toInt = 0 := (by decide); omega) (by have qc0 : (0 : Int32).toInt = 0 := (by decide); omega) (by have qc0 : (0 : Int32).toInt = 0 := (by decide); omega) (by have qc0 : (0 : Int32).toInt = 0 := (by decide); omega) (by have qc0 : (0 : Int32).toInt = 0 := (by decide); omega) (by have qc0 : (0 : Int32).toInt = 0 := (by decide); omega) (by have qc0 : (0 : Int32).toInt = 0 := (by decide); omega) (by
                                                                                          exact zcpd_keep hR93_8 (fun x j hj => by subst qm32; exact zup_ne _ _ (by omega))) (by
                                                                                          exact zcpd_keep hR93_9 (fun x j hj => by subst qm32; exact zup_ne _ _ (by omega))) (by
                                                                                          have hz : (f 1 1 7).toInt.toNat = a93_2.toInt.toNat := by omega
                                                                                          rw [hz]
                                                                                          exact zcpd_keep hR93_10 (fun x j hj => by subst qm32; exact zup_ne _ _ (by omega))) (by
                                                                                          show zcpd f g32 12 0 8 0 3 8
                                                                                          exact zcpd_keep hR93_11 (fun x j hj => by subst qm32; exact zup_ne _ _ (by omega))) (by intro n j; subst qm32; exact (zup_ne _ _ (by omega)).trans (hR93_12 n j)) (by
                                                                                          intro i hi
                                                                                          have hp := hR93_13 i (by omega)
                                                                                          rw [show g32 1 0 5 = _ from (show g32 1 0 5 = g93_ 1 0 5 by rw [qm32]; exact zup_ne _ _ (by omega))]
                                                                                          exact zLk_c (zLk_k hp (fun j hj => (show g32 8 i j = g93_ 8 i j by rw [qm32]; exact zup_ne _ _ (by omega))) (fun l hl => (show g32 9 i l = g93_ 9 i l by rw [qm32]; exact zup_ne _ _ (by omega))) (fun l hl => (show g32 10 i l = g93_ 10 i l by rw [qm32]; exact zup_ne _ _ (by omega)))) (fun k j _ _ => ((show g32 7 k j = g93_ 7 k j by rw [qm32]; exact zup_ne _ _ (by omega))).symm)) (by have qc0 : (0 : Int32).toInt = 0 := (by decide); omega)
        · skip
          have rr33 : a93_2.toInt < v28.toInt := by simp only [z32lt, z32le, z32eq] at h98_28; omega
          have b34x : zB a93_2 0 11 := by have q1 := b93_2; have q2 := b28x; simp only [z32lt, z32le, z32eq, Int32.reduceToInt, Int32.toInt_zero] at h98_28; constructor <;> omega
          have b35x : zB v28 1 12 := by have q1 := b93_2; have q2 := b28x; simp only [z32lt, z32le, z32eq, Int32.reduceToInt, Int32.toInt_zero] at h98_28; constructor <;> omega
          have c36x : zB (g93_ 1 0 7) 1 12 := by first | assumption | (constructor <;> omega)
          refine z_aload_n (pc := 101) C dX8_copy_101 rfl ?_
          refine z_getR (pc := 102) C zf_X8_25 rfl rfl (by decide) dX8_copy_102 ?_
          refine z_iload_n (pc := 105) C dX8_copy_105 rfl ?_
          refine z_aald (pc := 106) C rfl ⟨rfl, by decide⟩ (by decide) (zIx b34x (by decide) (by decide)) dX8_copy_106 ?_
          refine w_grx (by have hq := zN b34x (by decide); show 12 * 0 + a93_2.toNatClampNeg < 36; omega) (fun m37 q37r h37x => ?_)
          have q37r : m37 = 12 * 0 + a93_2.toNatClampNeg := q37r
          have k37r : a93_2.toNatClampNeg = a93_2.toInt.toNat := rfl
          refine z_aload_n (pc := 107) C dX8_copy_107 rfl ?_
          refine z_getR (pc := 108) C zf_X8_25 rfl rfl (by decide) dX8_copy_108 ?_
          refine z_iload_n (pc := 111) C dX8_copy_111 rfl ?_
          refine z_aald (pc := 112) C rfl ⟨rfl, by decide⟩ (by decide) (zIx b34x (by decide) (by decide)) dX8_copy_112 ?_
          refine w_grx (by have hq := zN b34x (by decide); show 12 * 1 + a93_2.toNatClampNeg < 36; omega) (fun m38 q38r h38x => ?_)
          have q38r : m38 = 12 * 1 + a93_2.toNatClampNeg := q38r
          have k38r : a93_2.toNatClampNeg = a93_2.toInt.toNat := rfl
          refine z_callV (pc := 113) C zk_X8_67 (x_X4_copy _ _ m37 h37x m38 h38x (by omega) hI93_) rfl rfl h37x rfl rfl (Nat.le_of_ble_eq_true rfl) dX8_copy_113 (fun r39 g39 q39 => ?_)
          obtain ⟨rfl, hI39, hF39q, hp39_0, hp39_1⟩ := q39
          have hF39 := zFr.tr hF93_ hF39q (by decide)
          simp only [Option.toList, List.cons_append, List.nil_append]
          have ek39_1_0_5 : (g39 1 0 5).toInt = (g93_ 1 0 5).toInt := by rw [hF39q 1 0 5 rfl]
          have c39_1_0_5x : zB (g39 1 0 5) 0 24 := by first | exact zB.eqv ek39_1_0_5 f93_1_0_5 | (have q9 := f93_1_0_5; constructor <;> omega)
          have ek39_1_0_6 : (g39 1 0 6).toInt = (g93_ 1 0 6).toInt := by rw [hF39q 1 0 6 rfl]
          have c39_1_0_6x : zB (g39 1 0 6) 0 8 := by first | exact zB.eqv ek39_1_0_6 f93_1_0_6 | (have q9 := f93_1_0_6; constructor <;> omega)
          have ek39_1_0_7 : (g39 1 0 7).toInt = (g93_ 1 0 7).toInt := by rw [hF39q 1 0 7 rfl]
          have c39_1_0_7x : zB (g39 1 0 7) 1 12 := by first | exact zB.eqv ek39_1_0_7 c36x | (have q9 := c36x; constructor <;> omega)
          have ek39_1_0_8 : (g39 1 0 8).toInt = (g93_ 1 0 8).toInt := by rw [hF39q 1 0 8 rfl]
          have c39_1_0_8x : zB (g39 1 0 8) 0 8 := by first | exact zB.eqv ek39_1_0_8 f93_1_0_8 | (have q9 := f93_1_0_8; constructor <;> omega)
          have ek39_1_1_5 : (g39 1 1 5).toInt = (g93_ 1 1 5).toInt := by rw [hF39q 1 1 5 rfl]
          have c39_1_1_5x : zB (g39 1 1 5) 0 24 := by first | exact zB.eqv ek39_1_1_5 f93_1_1_5 | (have q9 := f93_1_1_5; constructor <;> omega)
          have ek39_1_1_6 : (g39 1 1 6).toInt = (g93_ 1 1 6).toInt := by rw [hF39q 1 1 6 rfl]
          have c39_1_1_6x : zB (g39 1 1 6) 0 8 := by first | exact zB.eqv ek39_1_1_6 f93_1_1_6 | (have q9 := f93_1_1_6; constructor <;> omega)
          have ek39_1_1_7 : (g39 1 1 7).toInt = (g93_ 1 1 7).toInt := by rw [hF39q 1 1 7 rfl]
          have c39_1_1_7x : zB (g39 1 1 7) 0 12 := by first | exact zB.eqv ek39_1_1_7 f93_1_1_7 | (have q9 := f93_1_1_7; constructor <;> omega)
          have ek39_1_1_8 : (g39 1 1 8).toInt = (g93_ 1 1 8).toInt := by rw [hF39q 1 1 8 rfl]
          have c39_1_1_8x : zB (g39 1 1 8) 0 8 := by first | exact zB.eqv ek39_1_1_8 f93_1_1_8 | (have q9 := f93_1_1_8; constructor <;> omega)
          refine z_iinc (pc := 116) (v := 1) C dX8_copy_116 rfl (by decide) (by rw [hn]; decide) rfl ?_
          obtain ⟨v40, hv40, e40⟩ : ∃ v : Int32, v = a93_2 + 1 ∧ v.toInt = a93_2.toInt + 1 := ⟨_, rfl, zadd_eb b34x (zB.of (x := 1) 1 (by decide)) (by decide) (by decide)⟩
          rw [← hv40]
          have b40x : zB v40 1 12 := by have q9 := b34x; constructor <;> omega
          refine z_goto (pc := 119) 93 C dX8_copy_119 (by decide) ?_
          exact ih2 v40 (zB.wk (a' := 0) (b' := 12) b40x (by decide) (by decide)) g39 hI39 hF39 c39_1_0_5x c39_1_0_6x (zB.wk c39_1_0_7x (by decide) (by decide)) c39_1_0_8x c39_1_1_5x c39_1_1_6x c39_1_1_7x c39_1_1_8x (by omega) (by omega) (by omega) (by omega) (by omega) (by omega) (by omega) (by omega) (by
                                                                                          exact zcpd_keep hR93_8 (fun x j hj => hF39q 7 x j rfl)) (by
                                                                                          exact zcpd_keep hR93_9 (fun x j hj => hF39q 8 x j rfl)) (by
                                                                                          have hn : (v40).toInt.toNat = a93_2.toInt.toNat + 1 := by omega
                                                                                          rw [hn]
                                                                                          have hm0 : m37 = 0 + a93_2.toInt.toNat := by omega
                                                                                          have hm1 : m38 = 12 + a93_2.toInt.toNat := by omega
                                                                                          refine zcpd_s hR93_10 (by omega) (by omega) (fun j hj => ?_) (fun x j hx hj => ?_)
                                                                                          · rw [← hm0, ← hm1]; exact hp39_0 j hj
                                                                                          · exact hp39_1 x j (by omega)) (by
                                                                                          exact zcpd_keep hR93_11 (fun x j hj => hF39q 12 x j rfl)) (by intro n j; exact (hF39q 6 n j rfl).trans (hR93_12 n j)) (by
                                                                                          intro i hi
                                                                                          have hp := hR93_13 i (by omega)
                                                                                          rw [show g39 1 0 5 = _ from hF39q 1 0 5 rfl]
                                                                                          exact zLk_c (zLk_k hp (fun j hj => hF39q 8 i j rfl) (fun l hl => hF39q 9 i l rfl) (fun l hl => hF39q 10 i l rfl)) (fun k j _ _ => (hF39q 7 k j rfl).symm)) (by omega)
      · skip
        intro a132_2 b132_2 g132_ hI132_ hF132_ f132_1_0_5 f132_1_0_6 f132_1_0_7 f132_1_0_8 f132_1_1_5 f132_1_1_6 f132_1_1_7 f132_1_1_8 hR132_0 hR132_1 hR132_2 hR132_3 hR132_4 hR132_5 hR132_6 hR132_7 hR132_8 hR132_9 hR132_10 hR132_11 hR132_12 hR132_13 hR132_14 hM132_
        refine z_iload_n (pc := 132) C dX8_copy_132 rfl ?_
        refine z_aload_n (pc := 133) C dX8_copy_133 rfl ?_
        refine z_getI (pc := 134) C zf_X8_70 rfl rfl (by decide) dX8_copy_134 ?_
        refine w_gp (fun v => v = g132_ 1 0 8) rfl (fun v41 q41 => ?_)
        have e41 : v41.toInt = (g132_ 1 0 8).toInt := by rw [q41]
        have b41x : zB v41 0 8 := by first | exact zB.eqv e41 f132_1_0_8 | (have q9 := f132_1_0_8; constructor <;> omega)
        refine z_icmp_ge (pc := 137) 182 C dX8_copy_137 (by decide) (fun h137_41 => ?_) (fun h137_41 => ?_)
        · skip
          have rr43 : a132_2.toInt ≥ v41.toInt := by simp only [z32lt, z32le, z32eq] at h137_41; omega
          refine z_aload_n (pc := 182) C dX8_copy_182 rfl ?_
          refine z_getR (pc := 183) C zf_X8_38 rfl rfl (by decide) dX8_copy_183 ?_
          refine z_aload_n (pc := 186) C dX8_copy_186 rfl ?_
          refine z_getR (pc := 187) C zf_X8_38 rfl rfl (by decide) dX8_copy_187 ?_
          refine z_callV (pc := 190) C zk_X8_85 (x_X3_copy _ _ 0 (by decide) 1 (by decide) (by decide) hI132_) rfl rfl (by decide) rfl rfl (Nat.le_of_ble_eq_true rfl) dX8_copy_190 (fun r44 g44 q44 => ?_)
          obtain ⟨rfl, hI44, hF44q, hp44_0, hp44_1⟩ := q44
          have hF44 := zFr.tr hF132_ hF44q (by decide)
          simp only [Option.toList, List.cons_append, List.nil_append]
          have ek44_1_0_5 : (g44 1 0 5).toInt = (g132_ 1 0 5).toInt := by rw [hF44q 1 0 5 rfl]
          have c44_1_0_5x : zB (g44 1 0 5) 0 24 := by first | exact zB.eqv ek44_1_0_5 f132_1_0_5 | (have q9 := f132_1_0_5; constructor <;> omega)
          have ek44_1_0_6 : (g44 1 0 6).toInt = (g132_ 1 0 6).toInt := by rw [hF44q 1 0 6 rfl]
          have c44_1_0_6x : zB (g44 1 0 6) 0 8 := by first | exact zB.eqv ek44_1_0_6 f132_1_0_6 | (have q9 := f132_1_0_6; constructor <;> omega)
          have ek44_1_0_7 : (g44 1 0 7).toInt = (g132_ 1 0 7).toInt := by rw [hF44q 1 0 7 rfl]
          have c44_1_0_7x : zB (g44 1 0 7) 0 12 := by first | exact zB.eqv ek44_1_0_7 f132_1_0_7 | (have q9 := f132_1_0_7; constructor <;> omega)
          have ek44_1_0_8 : (g44 1 0 8).toInt = (g132_ 1 0 8).toInt := by rw [hF44q 1 0 8 rfl]
          have c44_1_0_8x : zB (g44 1 0 8) 0 8 := by first | exact zB.eqv ek44_1_0_8 f132_1_0_8 | (have q9 := f132_1_0_8; constructor <;> omega)
          have ek44_1_1_5 : (g44 1 1 5).toInt = (g132_ 1 1 5).toInt := by rw [hF44q 1 1 5 rfl]
          have c44_1_1_5x : zB (g44 1 1 5) 0 24 := by first | exact zB.eqv ek44_1_1_5 f132_1_1_5 | (have q9 := f132_1_1_5; constructor <;> omega)
          have ek44_1_1_6 : (g44 1 1 6).toInt = (g132_ 1 1 6).toInt := by rw [hF44q 1 1 6 rfl]
          have c44_1_1_6x : zB (g44 1 1 6) 0 8 := by first | exact zB.eqv ek44_1_1_6 f132_1_1_6 | (have q9 := f132_1_1_6; constructor <;> omega)
          have ek44_1_1_7 : (g44 1 1 7).toInt = (g132_ 1 1 7).toInt := by rw [hF44q 1 1 7 rfl]
          have c44_1_1_7x : zB (g44 1 1 7) 0 12 := by first | exact zB.eqv ek44_1_1_7 f132_1_1_7 | (have q9 := f132_1_1_7; constructor <;> omega)
          have ek44_1_1_8 : (g44 1 1 8).toInt = (g132_ 1 1 8).toInt := by rw [hF44q 1 1 8 rfl]
          have c44_1_1_8x : zB (g44 1 1 8) 0 8 := by first | exact zB.eqv ek44_1_1_8 f132_1_1_8 | (have q9 := f132_1_1_8; constructor <;> omega)
          exact z_vret (pc := 193) C hr dX8_copy_193 ⟨rfl, hI44, hF44, (by rw [z32eq]; omega), (by rw [z32eq]; omega), (by rw [z32eq]; omega), (by rw [z32eq]; omega), (by rw [z32eq]; omega), (by rw [z32eq]; omega), (by rw [z32eq]; omega), (by rw [z32eq]; omega), (by
                                                                                          exact zcpd_keep hR132_9 (fun x j hj => hF44q 7 x j rfl)), (by
                                                                                          exact zcpd_keep hR132_10 (fun x j hj => hF44q 8 x j rfl)), (by
                                                                                          exact zcpd_keep hR132_11 (fun x j hj => hF44q 11 x j rfl)), (by
                                                                                          have hz : (f 1 1 8).toInt.toNat = a132_2.toInt.toNat := by omega
                                                                                          rw [hz]
                                                                                          exact zcpd_keep hR132_12 (fun x j hj => hF44q 12 x j rfl)), (by
                                                                                          intro j hj
                                                                                          rw [hp44_0 j hj]
                                                                                          exact hR132_13 1 j), (by
                                                                                          intro j hj
                                                                                          rw [hp44_1 1 j (by decide)]
                                                                                          exact hR132_13 1 j), (by
                                                                                          intro i hi
                                                                                          have hp := hR132_14 i (by omega)
                                                                                          rw [show g44 1 0 5 = _ from hF44q 1 0 5 rfl]
                                                                                          exact zLk_c (zLk_k hp (fun j hj => hF44q 8 i j rfl) (fun l hl => hF44q 9 i l rfl) (fun l hl => hF44q 10 i l rfl)) (fun k j _ _ => (hF44q 7 k j rfl).symm))⟩
        · skip
          have rr45 : a132_2.toInt < v41.toInt := by simp only [z32lt, z32le, z32eq] at h137_41; omega
          have b46x : zB a132_2 0 7 := by have q1 := b132_2; have q2 := b41x; simp only [z32lt, z32le, z32eq, Int32.reduceToInt, Int32.toInt_zero] at h137_41; constructor <;> omega
          have b47x : zB v41 1 8 := by have q1 := b132_2; have q2 := b41x; simp only [z32lt, z32le, z32eq, Int32.reduceToInt, Int32.toInt_zero] at h137_41; constructor <;> omega
          have c48x : zB (g132_ 1 0 8) 1 8 := by first | assumption | (constructor <;> omega)
          refine z_aload_n (pc := 140) C dX8_copy_140 rfl ?_
          refine z_getR (pc := 141) C zf_X8_31 rfl rfl (by decide) dX8_copy_141 ?_
          refine z_iload_n (pc := 144) C dX8_copy_144 rfl ?_
          refine z_aald (pc := 145) C rfl ⟨rfl, by decide⟩ (by decide) (zIx b46x (by decide) (by decide)) dX8_copy_145 ?_
          refine w_grx (by have hq := zN b46x (by decide); show 8 * 0 + a132_2.toNatClampNeg < 16; omega) (fun m49 q49r h49x => ?_)
          have q49r : m49 = 8 * 0 + a132_2.toNatClampNeg := q49r
          have k49r : a132_2.toNatClampNeg = a132_2.toInt.toNat := rfl
          refine z_aload_n (pc := 146) C dX8_copy_146 rfl ?_
          refine z_getR (pc := 147) C zf_X8_31 rfl rfl (by decide) dX8_copy_147 ?_
          refine z_iload_n (pc := 150) C dX8_copy_150 rfl ?_
          refine z_aald (pc := 151) C rfl ⟨rfl, by decide⟩ (by decide) (zIx b46x (by decide) (by decide)) dX8_copy_151 ?_
          refine w_grx (by have hq := zN b46x (by decide); show 8 * 1 + a132_2.toNatClampNeg < 16; omega) (fun m50 q50r h50x => ?_)
          have q50r : m50 = 8 * 1 + a132_2.toNatClampNeg := q50r
          have k50r : a132_2.toNatClampNeg = a132_2.toInt.toNat := rfl
          refine z_getI (pc := 152) C zf_X8_73 rfl rfl h50x dX8_copy_152 ?_
          refine w_gp (fun v => v = g132_ 12 m50 0) rfl (fun v52 q52 => ?_)
          have b52x : zB v52 0 5 := by rw [q52]; exact (hI132_ 12 m50 0)
          refine z_aload_n (pc := 155) C dX8_copy_155 rfl ?_
          refine z_getR (pc := 156) C zf_X8_31 rfl rfl (by decide) dX8_copy_156 ?_
          refine z_iload_n (pc := 159) C dX8_copy_159 rfl ?_
          refine z_aald (pc := 160) C rfl ⟨rfl, by decide⟩ (by decide) (zIx b46x (by decide) (by decide)) dX8_copy_160 ?_
          refine w_grx (by have hq := zN b46x (by decide); show 8 * 1 + a132_2.toNatClampNeg < 16; omega) (fun m53 q53r h53x => ?_)
          have q53r : m53 = 8 * 1 + a132_2.toNatClampNeg := q53r
          have k53r : a132_2.toNatClampNeg = a132_2.toInt.toNat := rfl
          refine z_getI (pc := 161) C zf_X8_76 rfl rfl h53x dX8_copy_161 ?_
          refine w_gp (fun v => v = g132_ 12 m53 1) rfl (fun v55 q55 => ?_)
          have b55x : zB v55 0 255 := by rw [q55]; exact (hI132_ 12 m53 1)
          refine z_aload_n (pc := 164) C dX8_copy_164 rfl ?_
          refine z_getR (pc := 165) C zf_X8_31 rfl rfl (by decide) dX8_copy_165 ?_
          refine z_iload_n (pc := 168) C dX8_copy_168 rfl ?_
          refine z_aald (pc := 169) C rfl ⟨rfl, by decide⟩ (by decide) (zIx b46x (by decide) (by decide)) dX8_copy_169 ?_
          refine w_grx (by have hq := zN b46x (by decide); show 8 * 1 + a132_2.toNatClampNeg < 16; omega) (fun m56 q56r h56x => ?_)
          have q56r : m56 = 8 * 1 + a132_2.toNatClampNeg := q56r
          have k56r : a132_2.toNatClampNeg = a132_2.toInt.toNat := rfl
          refine z_getI (pc := 170) C zf_X8_78 rfl rfl h56x dX8_copy_170 ?_
          refine w_gp (fun v => v = g132_ 12 m56 2) rfl (fun v58 q58 => ?_)
          have b58x : zB v58 0 99 := by rw [q58]; exact (hI132_ 12 m56 2)
          refine z_callV (pc := 173) C zk_X8_81 (x_X2_tell _ _ m49 h49x v52 b52x v55 b55x v58 b58x hI132_) rfl rfl h49x rfl rfl (Nat.le_of_ble_eq_true rfl) dX8_copy_173 (fun r59 g59 q59 => ?_)
          obtain ⟨rfl, hI59, hF59q, hp59_0⟩ := q59
          have hF59 := zFr.tr hF132_ hF59q (by decide)
          simp only [Option.toList, List.cons_append, List.nil_append]
          have ek59_1_0_5 : (g59 1 0 5).toInt = (g132_ 1 0 5).toInt := by rw [hF59q 1 0 5 rfl]
          have c59_1_0_5x : zB (g59 1 0 5) 0 24 := by first | exact zB.eqv ek59_1_0_5 f132_1_0_5 | (have q9 := f132_1_0_5; constructor <;> omega)
          have ek59_1_0_6 : (g59 1 0 6).toInt = (g132_ 1 0 6).toInt := by rw [hF59q 1 0 6 rfl]
          have c59_1_0_6x : zB (g59 1 0 6) 0 8 := by first | exact zB.eqv ek59_1_0_6 f132_1_0_6 | (have q9 := f132_1_0_6; constructor <;> omega)
          have ek59_1_0_7 : (g59 1 0 7).toInt = (g132_ 1 0 7).toInt := by rw [hF59q 1 0 7 rfl]
          have c59_1_0_7x : zB (g59 1 0 7) 0 12 := by first | exact zB.eqv ek59_1_0_7 f132_1_0_7 | (have q9 := f132_1_0_7; constructor <;> omega)
          have ek59_1_0_8 : (g59 1 0 8).toInt = (g132_ 1 0 8).toInt := by rw [hF59q 1 0 8 rfl]
          have c59_1_0_8x : zB (g59 1 0 8) 1 8 := by first | exact zB.eqv ek59_1_0_8 c48x | (have q9 := c48x; constructor <;> omega)
          have ek59_1_1_5 : (g59 1 1 5).toInt = (g132_ 1 1 5).toInt := by rw [hF59q 1 1 5 rfl]
          have c59_1_1_5x : zB (g59 1 1 5) 0 24 := by first | exact zB.eqv ek59_1_1_5 f132_1_1_5 | (have q9 := f132_1_1_5; constructor <;> omega)
          have ek59_1_1_6 : (g59 1 1 6).toInt = (g132_ 1 1 6).toInt := by rw [hF59q 1 1 6 rfl]
          have c59_1_1_6x : zB (g59 1 1 6) 0 8 := by first | exact zB.eqv ek59_1_1_6 f132_1_1_6 | (have q9 := f132_1_1_6; constructor <;> omega)
          have ek59_1_1_7 : (g59 1 1 7).toInt = (g132_ 1 1 7).toInt := by rw [hF59q 1 1 7 rfl]
          have c59_1_1_7x : zB (g59 1 1 7) 0 12 := by first | exact zB.eqv ek59_1_1_7 f132_1_1_7 | (have q9 := f132_1_1_7; constructor <;> omega)
          have ek59_1_1_8 : (g59 1 1 8).toInt = (g132_ 1 1 8).toInt := by rw [hF59q 1 1 8 rfl]
          have c59_1_1_8x : zB (g59 1 1 8) 0 8 := by first | exact zB.eqv ek59_1_1_8 f132_1_1_8 | (have q9 := f132_1_1_8; constructor <;> omega)
          refine z_iinc (pc := 176) (v := 1) C dX8_copy_176 rfl (by decide) (by rw [hn]; decide) rfl ?_
          obtain ⟨v60, hv60, e60⟩ : ∃ v : Int32, v = a132_2 + 1 ∧ v.toInt = a132_2.toInt + 1 := ⟨_, rfl, zadd_eb b46x (zB.of (x := 1) 1 (by decide)) (by decide) (by decide)⟩
          rw [← hv60]
          have b60x : zB v60 1 8 := by have q9 := b46x; constructor <;> omega
          refine z_goto (pc := 179) 132 C dX8_copy_179 (by decide) ?_
          exact ih3 v60 (zB.wk (a' := 0) (b' := 8) b60x (by decide) (by decide)) g59 hI59 hF59 c59_1_0_5x c59_1_0_6x c59_1_0_7x (zB.wk c59_1_0_8x (by decide) (by decide)) c59_1_1_5x c59_1_1_6x c59_1_1_7x c59_1_1_8x (by omega) (by omega) (by omega) (by omega) (by omega) (by omega) (by omega) (by omega) (by omega) (by
                                                                                          exact zcpd_keep hR132_9 (fun x j hj => hF59q 7 x j rfl)) (by
                                                                                          exact zcpd_keep hR132_10 (fun x j hj => hF59q 8 x j rfl)) (by
                                                                                          exact zcpd_keep hR132_11 (fun x j hj => hF59q 11 x j rfl)) (by
                                                                                          have hn : (v60).toInt.toNat = a132_2.toInt.toNat + 1 := by omega
                                                                                          rw [hn]
                                                                                          have hm0 : m49 = 0 + a132_2.toInt.toNat := by omega
                                                                                          have hg := hp59_0
                                                                                          have w1 : m50 = 8 + a132_2.toInt.toNat := by omega
                                                                                          have w2 : m53 = 8 + a132_2.toInt.toNat := by omega
                                                                                          have w3 : m56 = 8 + a132_2.toInt.toNat := by omega
                                                                                          have q1 := q52
                                                                                          have q2 := q55
                                                                                          have q3 := q58
                                                                                          rw [w1] at q1
                                                                                          rw [w2] at q2
                                                                                          rw [w3] at q3
                                                                                          refine zcpd_s hR132_12 (by omega) (by omega) (fun j hj => ?_) (fun x j hx hj => ?_)
                                                                                          · rw [← hm0, hg]
                                                                                            rcases (show j = 0 ∨ j = 1 ∨ j = 2 by omega) with rfl | rfl | rfl
                                                                                            · simpa [zup] using q1
                                                                                            · simpa [zup] using q2
                                                                                            · simpa [zup] using q3
                                                                                          · rw [hg, zup_ne _ _ (by omega), zup_ne _ _ (by omega), zup_ne _ _ (by omega)]) (by intro n j; exact (hF59q 6 n j rfl).trans (hR132_13 n j)) (by
                                                                                          intro i hi
                                                                                          have hp := hR132_14 i (by omega)
                                                                                          rw [show g59 1 0 5 = _ from hF59q 1 0 5 rfl]
                                                                                          exact zLk_c (zLk_k hp (fun j hj => hF59q 8 i j rfl) (fun l hl => hF59q 9 i l rfl) (fun l hl => hF59q 10 i l rfl)) (fun k j _ _ => (hF59q 7 k j rfl).symm)) (by omega)
  obtain ⟨J0, J1, J2, J3⟩ := J 218409
  show Z X 0 [some (zr 1 0), some (zr 1 1), none] [] f
  refine z_aload_n (pc := 0) C dX8_copy_0 rfl ?_
  refine z_aload_n (pc := 1) C dX8_copy_1 rfl ?_
  refine z_getI (pc := 2) C zf_X8_46 rfl rfl (by decide) dX8_copy_2 ?_
  refine w_gp (fun v => v = f 1 1 5) rfl (fun v61 q61 => ?_)
  have e61 : v61.toInt = (f 1 1 5).toInt := by rw [q61]
  have b61x : zB v61 0 24 := by first | exact zB.eqv e61 ct1_1_5 | (have q9 := ct1_1_5; constructor <;> omega)
  refine z_putI (pc := 5) C zf_X8_46 zp_8_5 rfl rfl (by decide) dX8_copy_5 ?_
  refine w_memx hI hF b61x rfl (fun g62 qm62 hI62 hF62 hq62 hx62 => ?_)
  have ec62 : (g62 1 0 5).toInt = v61.toInt := by rw [hx62]
  have c62x : zB (g62 1 0 5) 0 24 := by first | exact zB.eqv ec62 b61x | (have q9 := b61x; constructor <;> omega)
  have ek62_1_0_6 : (g62 1 0 6).toInt = (f 1 0 6).toInt := by rw [hq62 1 0 6 (by omega)]
  have c62_1_0_6x : zB (g62 1 0 6) 0 8 := by first | exact zB.eqv ek62_1_0_6 ct1_0_6 | (have q9 := ct1_0_6; constructor <;> omega)
  have ek62_1_0_7 : (g62 1 0 7).toInt = (f 1 0 7).toInt := by rw [hq62 1 0 7 (by omega)]
  have c62_1_0_7x : zB (g62 1 0 7) 0 12 := by first | exact zB.eqv ek62_1_0_7 ct1_0_7 | (have q9 := ct1_0_7; constructor <;> omega)
  have ek62_1_0_8 : (g62 1 0 8).toInt = (f 1 0 8).toInt := by rw [hq62 1 0 8 (by omega)]
  have c62_1_0_8x : zB (g62 1 0 8) 0 8 := by first | exact zB.eqv ek62_1_0_8 ct1_0_8 | (have q9 := ct1_0_8; constructor <;> omega)
  have ek62_1_1_5 : (g62 1 1 5).toInt = (f 1 1 5).toInt := by rw [(show g62 1 1 5 = f 1 1 5 by rw [qm62]; exact zup_ne _ _ (by omega))]
  have c62_1_1_5x : zB (g62 1 1 5) 0 24 := by first | exact zB.eqv ek62_1_1_5 ct1_1_5 | (have q9 := ct1_1_5; constructor <;> omega)
  have ek62_1_1_6 : (g62 1 1 6).toInt = (f 1 1 6).toInt := by rw [hq62 1 1 6 (by omega)]
  have c62_1_1_6x : zB (g62 1 1 6) 0 8 := by first | exact zB.eqv ek62_1_1_6 ct1_1_6 | (have q9 := ct1_1_6; constructor <;> omega)
  have ek62_1_1_7 : (g62 1 1 7).toInt = (f 1 1 7).toInt := by rw [hq62 1 1 7 (by omega)]
  have c62_1_1_7x : zB (g62 1 1 7) 0 12 := by first | exact zB.eqv ek62_1_1_7 ct1_1_7 | (have q9 := ct1_1_7; constructor <;> omega)
  have ek62_1_1_8 : (g62 1 1 8).toInt = (f 1 1 8).toInt := by rw [hq62 1 1 8 (by omega)]
  have c62_1_1_8x : zB (g62 1 1 8) 0 8 := by first | exact zB.eqv ek62_1_1_8 ct1_1_8 | (have q9 := ct1_1_8; constructor <;> omega)
  refine z_iconst (pc := 8) (v := 0) C dX8_copy_8 (by decide) ?_
  refine z_istore_n (pc := 9) C dX8_copy_9 (by rw [hn]; decide) rfl ?_
  exact J0 0 (zB.wk (a' := 0) (b' := 24) (zB.of (x := 0) 0 (by decide)) (by decide) (by decide)) g62 hI62 hF62 c62x c62_1_0_6x c62_1_0_7x c62_1_0_8x c62_1_1_5x c62_1_1_6x c62_1_1_7x c62_1_1_8x (by have qc0 : (0 : Int32).toInt = 0 := (by decide); omega) (by have qc0 : (0 : Int32).toInt = 0 := (by decide); omega) (by have qc0 : (0 : Int32).toInt = 0 := (by decide); omega) (by have qc0 : (0 : Int32).toInt = 0 := (by decide); omega) (by have qc0 : (0 : Int32).toInt = 0 := (by decide); omega) (by have qc0 : (0 : Int32).toInt = 0 := (by decide); omega) (by exact zcpd_0 (fun x j hj => by subst qm62; exact zup_ne _ _ (by omega))) (by exact zcpd_0 (fun x j hj => by subst qm62; exact zup_ne _ _ (by omega))) (by exact zcpd_0 (fun x j hj => by subst qm62; exact zup_ne _ _ (by omega))) (by exact zcpd_0 (fun x j hj => by subst qm62; exact zup_ne _ _ (by omega))) (by intro n j; subst qm62; exact zup_ne _ _ (by omega)) (by have qc0 : (0 : Int32).toInt = 0 := (by decide); omega)
