/-! ===== weak rows: values with bounds, memory with an invariant ===== -/
abbrev zB (x : Int32) (a b : Int) : Prop := a ≤ x.toInt ∧ x.toInt ≤ b
theorem zB_any (x : Int32) : zB x (-2147483648) 2147483647 := ⟨by have := x.le_toInt; omega, by have := x.toInt_lt; omega⟩
theorem zB.wk {x : Int32} {a b a' b' : Int} (h : zB x a b) (h1 : a' ≤ a) (h2 : b ≤ b') : zB x a' b' := ⟨Int.le_trans h1 h.1, Int.le_trans h.2 h2⟩
theorem zB.of {x : Int32} (k : Int) (h : x.toInt = k) : zB x k k := ⟨Int.le_of_eq h.symm, Int.le_of_eq h⟩
theorem zB.eqv {x y : Int32} {a b : Int} (e : x.toInt = y.toInt) (h : zB y a b) : zB x a b := by rw [zB, e]; exact h
theorem z_bmod {n : Int} (h1 : -2147483648 ≤ n) (h2 : n ≤ 2147483647) : n.bmod (2 ^ 32) = n := Int.bmod_eq_of_le (by omega) (by omega)
theorem zadd_e {x y : Int32} (h1 : -2147483648 ≤ x.toInt + y.toInt) (h2 : x.toInt + y.toInt ≤ 2147483647) : (x + y).toInt = x.toInt + y.toInt := by
  rw [Int32.toInt_add]; exact z_bmod h1 h2
theorem zsub_e {x y : Int32} (h1 : -2147483648 ≤ x.toInt - y.toInt) (h2 : x.toInt - y.toInt ≤ 2147483647) : (x - y).toInt = x.toInt - y.toInt := by
  rw [Int32.toInt_sub]; exact z_bmod h1 h2
theorem zmul_e {x y : Int32} (h1 : -2147483648 ≤ x.toInt * y.toInt) (h2 : x.toInt * y.toInt ≤ 2147483647) : (x * y).toInt = x.toInt * y.toInt := by
  rw [Int32.toInt_mul]; exact z_bmod h1 h2
theorem zB_nat {x : Int32} {a b : Int} (h : zB x a b) (h0 : 0 ≤ a) : x.toBitVec.toNat = x.toInt.toNat := by
  have h1 : 0 ≤ x.toInt := Int.le_trans h0 h.1
  have h2 : x.toInt = x.toBitVec.toInt := rfl
  rw [h2] at h1 ⊢
  have h3 : 2 * x.toBitVec.toNat < 2 ^ 32 := by
    rw [BitVec.toInt_eq_toNat_cond] at h1
    split at h1
    · assumption
    · have := x.toBitVec.isLt
      omega
  rw [BitVec.toInt_eq_toNat_of_lt h3]
  rfl
theorem zB_ofNat {x : Int32} {n : Nat} (h : x.toBitVec.toNat = n) (hn : n < 2 ^ 31) : x.toInt = (n : Int) := by
  show x.toBitVec.toInt = _
  rw [BitVec.toInt_eq_toNat_of_lt (by omega), h]
theorem zand_b {x y : Int32} {a b c d : Int} (hx : zB x a b) (hy : zB y c d) (hc : 0 ≤ c) : zB (x &&& y) 0 d := by
  have e2 := zB_nat hy hc
  have e : (x &&& y).toBitVec.toNat = x.toBitVec.toNat &&& y.toBitVec.toNat := by
    rw [Int32.toBitVec_and, BitVec.toNat_and]
  have hle : x.toBitVec.toNat &&& y.toBitVec.toNat ≤ y.toBitVec.toNat := Nat.and_le_right
  have hd : y.toBitVec.toNat < 2 ^ 31 := by
    rw [e2]; have := y.toInt_lt; omega
  have := zB_ofNat e (by omega)
  have hle2 : x.toBitVec.toNat &&& y.toBitVec.toNat ≤ y.toInt.toNat := Nat.le_trans hle (Nat.le_of_eq e2)
  have h1 := hy.1
  have h2 := hy.2
  constructor <;> omega
theorem zand_bl {x y : Int32} {a b c d : Int} (hx : zB x a b) (hy : zB y c d) (ha : 0 ≤ a) : zB (x &&& y) 0 b := by
  rw [Int32.and_comm]; exact zand_b hy hx ha
theorem zor_b {x y : Int32} {a b c d : Int} (k : Nat) (hx : zB x a b) (hy : zB y c d) (ha : 0 ≤ a) (hc : 0 ≤ c) (hk : k ≤ 31) (hb : b < 2 ^ k) (hd : d < 2 ^ k) : zB (x ||| y) 0 (2 ^ k - 1) := by
  have e1 := zB_nat hx ha
  have e2 := zB_nat hy hc
  have e : (x ||| y).toBitVec.toNat = x.toBitVec.toNat ||| y.toBitVec.toNat := by
    rw [Int32.toBitVec_or, BitVec.toNat_or]
  have hx1 := hx.1; have hx2 := hx.2; have hy1 := hy.1; have hy2 := hy.2
  have c1 : ((2 ^ k : Nat) : Int) = 2 ^ k := by push_cast; rfl
  have f1 : x.toBitVec.toNat < 2 ^ k := by rw [e1]; omega
  have f2 : y.toBitVec.toNat < 2 ^ k := by rw [e2]; omega
  have f3 := Nat.or_lt_two_pow f1 f2
  have f4 : 2 ^ k ≤ 2 ^ 31 := Nat.pow_le_pow_right (by decide) hk
  have f5 := zB_ofNat e (by omega)
  constructor <;> omega
theorem zshl_b {x : Int32} {b : Int} (hx : zB x 0 b) (k : Nat) (hk : k ≤ 30) (hb : b ≤ k) : zB ((1 : Int32) <<< (x &&& 31)) 0 (2 ^ k) := by
  have h2 : x.toInt.toNat ≤ k := by have := hx.1; have := hx.2; omega
  obtain ⟨e1, e2⟩ := nI_ofI (x := x) hx.1
  rw [e1]
  generalize x.toInt.toNat = n at h2 ⊢
  have key : ∀ q : Fin 31, zB ((1 : Int32) <<< (nI q.val &&& 31)) 0 (2 ^ q.val) := by decide
  have hq := key ⟨n, by omega⟩
  refine ⟨hq.1, Int.le_trans hq.2 ?_⟩
  have c1 : ((2 ^ n : Nat) : Int) = 2 ^ n := by push_cast; rfl
  have c2 : ((2 ^ k : Nat) : Int) = 2 ^ k := by push_cast; rfl
  have c3 : 2 ^ n ≤ 2 ^ k := Nat.pow_le_pow_right (by decide) h2
  show (2 : Int) ^ n ≤ 2 ^ k
  omega
theorem zdiv_e {x y : Int32} (hx : 0 ≤ x.toInt) (hy : 0 < y.toInt) : (x / y).toInt = x.toInt / y.toInt := by
  have h1 := x.toInt_lt
  have h2 : 0 ≤ x.toInt / y.toInt := Int.ediv_nonneg hx (Int.le_of_lt hy)
  have h3 : x.toInt / y.toInt ≤ x.toInt := Int.ediv_le_self _ hx
  rw [Int32.toInt_div, Int.tdiv_eq_ediv_of_nonneg hx]
  exact z_bmod (by omega) (by omega)
theorem zrem_e {x y : Int32} (hx : 0 ≤ x.toInt) (hy : 0 < y.toInt) : (x - x / y * y).toInt = x.toInt % y.toInt := by
  have h1 := x.toInt_lt
  have e1 := zdiv_e hx hy
  have h2 : 0 ≤ x.toInt / y.toInt := Int.ediv_nonneg hx (Int.le_of_lt hy)
  have h4 := Int.mul_ediv_add_emod x.toInt y.toInt
  have h5 : x.toInt / y.toInt * y.toInt = y.toInt * (x.toInt / y.toInt) := Int.mul_comm _ _
  have h6 := Int.emod_nonneg x.toInt (show y.toInt ≠ 0 by omega)
  have h7 : 0 ≤ y.toInt * (x.toInt / y.toInt) := Int.mul_nonneg (Int.le_of_lt hy) h2
  have e2 : (x / y * y).toInt = x.toInt / y.toInt * y.toInt := by
    rw [← e1]
    refine zmul_e ?_ ?_ <;> rw [e1] <;> omega
  rw [zsub_e (by rw [e2]; omega) (by rw [e2]; omega), e2]
  omega
/-! the invariant -/
def zrgC : Nat → Int × Int
  | 0 => (0, 5)
  | 1 => (0, 63)
  | 2 => (0, 63)
  | 3 => (0, 40)
  | 4 => (0, 40)
  | _ => (0, 1)
def zrgD : Nat → Int × Int
  | 0 => (0, 63)
  | 1 => (0, 63)
  | 2 => (0, 5)
  | 3 => (0, 99)
  | _ => (0, 1)
def zrgP : Nat → Int × Int
  | 0 => (0, 2)
  | 1 => (0, 5)
  | 2 => (0, 5)
  | 3 => (0, 40)
  | 4 => (-2147483648, 2147483647)
  | 5 => (0, 31)
  | 6 => (0, 99)
  | _ => (0, 7)
def zrgK : Nat → Int × Int
  | 0 => (0, 5)
  | 1 => (0, 255)
  | _ => (0, 99)
def zrgM : Nat → Int × Int
  | 0 => (0, 5)
  | 1 => (0, 5)
  | 2 => (0, 99)
  | 3 => (0, 1)
  | 4 => (-4, 5)
  | 5 => (0, 255)
  | _ => (-2147483648, 2147483647)
def zrgN : Nat → Int × Int
  | 0 => (0, 24)
  | 1 => (0, 8)
  | 2 => (0, 12)
  | _ => (0, 8)
def zrg (k j : Nat) : Int × Int := match k with
  | 0 => (0, 1)
  | 1 => match j with
    | 5 => (0, 24)
    | 6 => (0, 8)
    | 7 => (0, 12)
    | _ => (0, 8)
  | 6 => match j with
    | 0 => (0, 5)
    | 1 => (0, 5)
    | 2 => (0, 99)
    | 4 => (0, 1)
    | 5 => (-4, 5)
    | 6 => (0, 255)
    | _ => (-2147483648, 2147483647)
  | 7 => zrgC j
  | 8 => match j with
    | 0 => (0, 63)
    | 1 => (0, 63)
    | 2 => (0, 5)
    | 3 => (0, 99)
    | 4 => (0, 1)
    | 7 => (0, 63)
    | _ => (0, 16777215)
  | 9 => (0, 40)
  | 10 => (0, 40)
  | 11 => match j with
    | 0 => (0, 2)
    | 1 => (0, 5)
    | 2 => (0, 5)
    | 3 => (0, 40)
    | 4 => (-2147483648, 2147483647)
    | 5 => (0, 31)
    | 6 => (0, 99)
    | 7 => (0, 7)
    | _ => (0, 255)
  | 12 => match j with
    | 0 => (0, 5)
    | 1 => (0, 255)
    | 2 => (0, 99)
    | 3 => (0, 255)
    | 4 => (0, 40)
    | _ => (0, 1)
  | 13 => match j with
    | 6 => (0, 3073)
    | _ => (-2147483648, 2147483647)
  | 15 => (0, 3071)
  | 16 => (0, 3072)
  | 17 => (0, 2000)
  | 18 => match j with
    | 3 => (0, 120)
    | 4 => (0, 12)
    | 5 => (0, 12)
    | 6 => (0, 120)
    | _ => (-1, 120)
  | 19 => (0, 255)
  | 23 => match j with
    | 1 => (-1, 2)
    | _ => (0, 16)
  | 25 => match j with
    | 0 => (0, 24)
    | 2 => (0, 8)
    | 4 => (0, 12)
    | 6 => (0, 8)
    | 13 => (0, 21504)
    | 16 => (0, 120)
    | 17 => (0, 120)
    | 18 => (0, 12)
    | 20 => (0, 12)
    | 22 => (0, 1)
    | _ => (0, 320)
  | 26 => zrgC (j % 6)
  | 27 => zrgD (j % 5)
  | 28 => zrgP (j % 8)
  | 29 => zrgK (j % 3)
  | 30 => zrgM j
  | 31 => (0, 255)
  | 32 => (-4, 21503)
  | 33 => (-4, 11)
  | 34 => (0, 21503)
  | 35 => (0, 20000)
  | 36 => (0, 255)
  | 37 => zrgC (j % 6)
  | 38 => zrgP (j % 8)
  | 39 => if j < 4 then zrgN j else if j < 148 then zrgC ((j - 4) % 6) else if j < 188 then zrgD ((j - 148) % 5) else if j < 284 then zrgP ((j - 188) % 8) else if j < 308 then zrgK ((j - 284) % 3) else if j < 315 then zrgM (j - 308) else (0, 0)
  | 40 => zrgN j
  | 41 => (-1, 2)
  | 42 => (0, 16)
  | _ => (-2147483648, 2147483647)
def zInv (f : zM) : Prop := ∀ k n j, (zrg k j).1 ≤ (f k n j).toInt ∧ (f k n j).toInt ≤ (zrg k j).2
theorem zInv.up {f : zM} (h : zInv f) {k n j : Nat} {x : Int32} (hx : (zrg k j).1 ≤ x.toInt ∧ x.toInt ≤ (zrg k j).2) : zInv (zup f k n j x) := by
  intro a b c
  unfold zup
  split
  · rename_i q
    obtain ⟨rfl, rfl, rfl⟩ := q
    exact hx
  · exact h a b c
/-- the cells that may have changed -/
def zS : List (Nat × Option Nat) → Nat → Nat → Bool
  | [], _, _ => false
  | q :: r, k, j => (q.1 == k && (match q.2 with | none => true | some i => i == j)) || zS r k j
def zFr (S : List (Nat × Option Nat)) (f0 f : zM) : Prop := ∀ k n j, zS S k j = false → f k n j = f0 k n j
theorem zFr.rf (S : List (Nat × Option Nat)) (f : zM) : zFr S f f := fun _ _ _ _ => rfl
theorem zFr.up {S : List (Nat × Option Nat)} {f0 f : zM} (h : zFr S f0 f) {k n j : Nat} {x : Int32} (hs : zS S k j = true) : zFr S f0 (zup f k n j x) := by
  intro a b c hq
  rw [zup_ne f x (fun q => by obtain ⟨rfl, _, rfl⟩ := q; rw [hs] at hq; cases hq)]
  exact h a b c hq
theorem zS_mem {S : List (Nat × Option Nat)} {k j : Nat} : zS S k j = true ↔ ∃ q ∈ S, q.1 = k ∧ (q.2 = none ∨ q.2 = some j) := by
  induction S with
  | nil => simp [zS]
  | cons q r ih =>
    simp only [zS, Bool.or_eq_true, Bool.and_eq_true, beq_iff_eq, ih, List.mem_cons]
    constructor
    · rintro (⟨h1, h2⟩ | ⟨p, h1, h2⟩)
      · refine ⟨q, Or.inl rfl, h1, ?_⟩
        rcases hq : q.2 with _ | i
        · exact Or.inl rfl
        · rw [hq] at h2; simp at h2; exact Or.inr (by rw [h2])
      · exact ⟨p, Or.inr h1, h2⟩
    · rintro ⟨p, rfl | h1, h2, h3⟩
      · refine Or.inl ⟨h2, ?_⟩
        rcases h3 with h3 | h3 <;> rw [h3] <;> simp
      · exact Or.inr ⟨p, h1, h2, h3⟩
theorem zFr.tr {S T : List (Nat × Option Nat)} {f0 f g : zM} (h : zFr S f0 f) (h2 : zFr T f g) (hs : ∀ q ∈ T, q ∈ S ∨ (q.1, none) ∈ S) : zFr S f0 g := by
  intro k n j hq
  have hT : zS T k j = false := by
    rcases hb : zS T k j with _ | _
    · rfl
    · obtain ⟨q, q1, q2, q3⟩ := zS_mem.mp hb
      have : zS S k j = true := by
        rcases hs q q1 with h | h
        · exact zS_mem.mpr ⟨q, h, q2, q3⟩
        · exact zS_mem.mpr ⟨_, h, q2, Or.inl rfl⟩
      rw [this] at hq; cases hq
  rw [h2 k n j hT, h k n j hq]
section WR
variable {X : zX} {pc : Nat} {L : List (Option zV)} {st : List zV} {f : zM}
theorem w_gp {x : Int32} (P : Int32 → Prop) (h : P x) (kk : ∀ v : Int32, P v → Z X pc L (zi v :: st) f) : Z X pc L (zi x :: st) f := kk x h
theorem w_gb {x : Int32} (a b : Int) (h : a ≤ x.toInt ∧ x.toInt ≤ b) (kk : ∀ v : Int32, zB v a b → Z X pc L (zi v :: st) f) : Z X pc L (zi x :: st) f := kk x h
theorem w_gr {k n : Nat} (h : n < zcnt k) (kk : ∀ m : Nat, m < zcnt k → Z X pc L (zr k m :: st) f) : Z X pc L (zr k n :: st) f := kk n h
theorem w_mem {S : List (Nat × Option Nat)} {f0 : zM} {k n j : Nat} {x : Int32} (hI : zInv f) (hF : zFr S f0 f) (hx : (zrg k j).1 ≤ x.toInt ∧ x.toInt ≤ (zrg k j).2) (hs : zS S k j = true) (kk : ∀ g, zInv g → zFr S f0 g → Z X pc L st g) : Z X pc L st (zup f k n j x) := kk _ (hI.up hx) (hF.up hs)
theorem w_mem2 {S : List (Nat × Option Nat)} {f0 : zM} {k n j : Nat} {x : Int32} (hI : zInv f) (hF : zFr S f0 f) (hx : (zrg k j).1 ≤ x.toInt ∧ x.toInt ≤ (zrg k j).2) (hs : zS S k j = true) (kk : ∀ g, zInv g → zFr S f0 g → (∀ a b c, ¬ (a = k ∧ c = j) → g a b c = f a b c) → g k n j = x → Z X pc L st g) : Z X pc L st (zup f k n j x) := kk _ (hI.up hx) (hF.up hs) (fun a b c h => zup_ne f x (fun q => h ⟨q.1, q.2.2⟩)) (zup_same f k n j x)
theorem zlv_none (ad : Nat → Nat → Nat) (L : List (Option zV)) (i : Nat) : ∀ q ∈ zlv ad 0 (L.set i none), q ∈ zlv ad 0 L := by
  intro q hq
  obtain ⟨j, w, h1, h2⟩ := zlv_of ad _ 0 q hq
  by_cases hj : i = j
  · subst hj
    have hl : i < (L.set i none).length := (List.getElem?_eq_some_iff.mp h1).1
    rw [List.length_set] at hl
    rw [List.getElem?_set_self hl] at h1
    cases h1
  · rw [List.getElem?_set_ne hj] at h1
    rw [h2]
    exact zlv_mem ad L 0 j w h1
theorem w_drop (i : Nat) (kk : Z X pc (L.set i none) st f) : Z X pc L st f := by
  obtain ⟨p, l, e, R, s, m, args, below, meth, c, nL, D, cA, ad, lo, cells, slots, Tg⟩ := X
  intro H locs ls hP hS hl
  exact kk H locs ls hP hS (lv_less hl (zlv_none ad L i))
def zmask (ks : List Nat) (L : List (Option zV)) : List (Option zV) := match ks with
  | [] => L
  | k :: r => zmask r (L.set k none)
theorem w_mask : ∀ (ks : List Nat) {L : List (Option zV)} (_ : Z X pc (zmask ks L) st f), Z X pc L st f
  | [], _, kk => kk
  | k :: r, _, kk => w_drop k (w_mask r kk)
end WR
theorem zadd_eb {x y : Int32} {a b c d : Int} (hx : zB x a b) (hy : zB y c d) (h1 : -2147483648 ≤ a + c) (h2 : b + d ≤ 2147483647) : (x + y).toInt = x.toInt + y.toInt := zadd_e (by have := hx.1; have := hy.1; omega) (by have := hx.2; have := hy.2; omega)
theorem zsub_eb {x y : Int32} {a b c d : Int} (hx : zB x a b) (hy : zB y c d) (h1 : -2147483648 ≤ a - d) (h2 : b - c ≤ 2147483647) : (x - y).toInt = x.toInt - y.toInt := zsub_e (by have := hx.1; have := hy.2; omega) (by have := hx.2; have := hy.1; omega)
/-- a constant times a value -/
theorem zmul_kb {x y : Int32} (k : Int) {c d : Int} (hx : x.toInt = k) (hk : 0 ≤ k) (hy : zB y c d) (h0 : -2147483648 ≤ k * c) (h1 : k * d ≤ 2147483647) : (x * y).toInt = k * y.toInt := by
  have h2 : k * c ≤ k * y.toInt := Int.mul_le_mul_of_nonneg_left hy.1 hk
  have h3 : k * y.toInt ≤ k * d := Int.mul_le_mul_of_nonneg_left hy.2 hk
  rw [zmul_e (by rw [hx]; omega) (by rw [hx]; omega), hx]
theorem zmul_bb {v y : Int32} {k c d : Int} (e : v.toInt = k * y.toInt) (hk : 0 ≤ k) (hy : zB y c d) : zB v (k * c) (k * d) := ⟨by rw [e]; exact Int.mul_le_mul_of_nonneg_left hy.1 hk, by rw [e]; exact Int.mul_le_mul_of_nonneg_left hy.2 hk⟩
theorem zN {x : Int32} {a b : Int} (h : zB x a b) (h0 : 0 ≤ a) : (x.toNatClampNeg : Int) ≤ b := by
  have e : x.toNatClampNeg = x.toInt.toNat := rfl
  have := h.1; have := h.2
  omega
theorem zIx {x : Int32} {a b : Int} {n : Nat} (h : zB x a b) (h0 : 0 ≤ a) (h1 : b < n) : vp_in x n := (zidx (Int.le_trans h0 h.1) (Int.lt_of_le_of_lt h.2 h1)).1
theorem zin64 {x : Int32} {a b : Int64} {lo hi : Int} (h : a.toInt ≤ x.toInt64.toInt ∧ x.toInt64.toInt ≤ b.toInt) (h1 : a.toInt = lo) (h2 : b.toInt = hi) : zB x lo hi := by
  rw [z64, h1, h2] at h; exact h
theorem zin64v {x y : Int32} {a : Int64} {lo c d : Int} (h : a.toInt ≤ x.toInt64.toInt ∧ x.toInt64.toInt ≤ y.toInt64.toInt) (h1 : a.toInt = lo) (hy : zB y c d) : zB x lo d := by
  rw [z64, z64, h1] at h; exact ⟨h.1, Int.le_trans h.2 hy.2⟩
theorem z01 {x : Int32} (h : zB x 0 1) : x = 0 ∨ x = 1 := by
  have h1 := h.1; have h2 := h.2
  rcases (show x.toInt = 0 ∨ x.toInt = 1 by omega) with q | q
  · exact Or.inl ((z32eq x 0).mpr q)
  · exact Or.inr ((z32eq x 1).mpr q)
theorem zltc {x c : Int32} {k : Int} (h : 0 ≤ x.toInt ∧ x.toInt < c.toInt) (hc : c.toInt ≤ k) : zB x 0 (k - 1) := ⟨h.1, by have := h.2; omega⟩
theorem zdiv_b {x y : Int32} (k : Int) {a b : Int} (hx : zB x a b) (hy : y.toInt = k) (hk : 0 < k) (ha : 0 ≤ a) : zB (x / y) (a / k) (b / k) := by
  have h0 : 0 ≤ x.toInt := Int.le_trans ha hx.1
  have e := zdiv_e (x := x) (y := y) h0 (by omega)
  rw [hy] at e
  refine ⟨?_, ?_⟩
  · rw [e]; exact Int.ediv_le_ediv hk hx.1
  · rw [e]; exact Int.ediv_le_ediv hk hx.2
theorem zrem_b {x y : Int32} (k : Int) {a b : Int} (hx : zB x a b) (hy : y.toInt = k) (hk : 0 < k) (ha : 0 ≤ a) : zB (x - x / y * y) 0 (k - 1) := by
  have h0 : 0 ≤ x.toInt := Int.le_trans ha hx.1
  have e := zrem_e (x := x) (y := y) h0 (by omega)
  rw [hy] at e
  have h1 := Int.emod_nonneg x.toInt (show k ≠ 0 by omega)
  have h2 := Int.emod_lt_of_pos x.toInt hk
  refine ⟨by omega, by omega⟩
def imax (a b : Int32) : Int32 := if a < b then b else a
def imin (a b : Int32) : Int32 := if b < a then b else a
theorem zmax_b {x y : Int32} {a b c d : Int} (hx : zB x a b) (hy : zB y c d) : zB (imax x y) (max a c) (max b d) := by
  have := hx.1; have := hx.2; have := hy.1; have := hy.2
  unfold imax
  split
  · rename_i h; rw [z32lt] at h; constructor <;> omega
  · rename_i h; rw [z32lt] at h; constructor <;> omega
theorem zmin_b {x y : Int32} {a b c d : Int} (hx : zB x a b) (hy : zB y c d) : zB (imin x y) (min a c) (min b d) := by
  have := hx.1; have := hx.2; have := hy.1; have := hy.2
  unfold imin
  split
  · rename_i h; rw [z32lt] at h; constructor <;> omega
  · rename_i h; rw [z32lt] at h; constructor <;> omega
theorem zrg26 {j r : Nat} (h : j % 6 = r) : zrg 26 j = zrgC r := by show zrgC (j % 6) = _; rw [h]
theorem zrg37 {j r : Nat} (h : j % 6 = r) : zrg 37 j = zrgC r := by show zrgC (j % 6) = _; rw [h]
theorem zrg27 {j r : Nat} (h : j % 5 = r) : zrg 27 j = zrgD r := by show zrgD (j % 5) = _; rw [h]
theorem zrg28 {j r : Nat} (h : j % 8 = r) : zrg 28 j = zrgP r := by show zrgP (j % 8) = _; rw [h]
theorem zrg38 {j r : Nat} (h : j % 8 = r) : zrg 38 j = zrgP r := by show zrgP (j % 8) = _; rw [h]
theorem zrg29 {j r : Nat} (h : j % 3 = r) : zrg 29 j = zrgK r := by show zrgK (j % 3) = _; rw [h]
theorem zand_r {x y : Int32} {a b c d : Int} (hx : zB x a b) (hy : zB y c d) (hc : 0 ≤ c) : zB (x &&& y) 0 d ∧ (x &&& y).toInt ≤ y.toInt := ⟨zand_b hx hy hc, (zand_b hx (zB.of (x := y) y.toInt rfl) (Int.le_trans hc hy.1)).2⟩
theorem zin64r {x y : Int32} {a : Int64} (h : a.toInt ≤ x.toInt64.toInt ∧ x.toInt64.toInt ≤ y.toInt64.toInt) : x.toInt ≤ y.toInt := by
  rw [z64, z64] at h; exact h.2
theorem zI27_01 {f : zM} {n j : Nat} (hI : zInv f) (h : j % 5 ≤ 1) : 0 ≤ (f 27 n j).toInt ∧ (f 27 n j).toInt ≤ 63 := by
  have q := hI 27 n j
  rcases (show j % 5 = 0 ∨ j % 5 = 1 by omega) with e | e
  · rw [zrg27 e] at q; exact q
  · rw [zrg27 e] at q; exact q
theorem zM30 {i v : Int32} (hi : zB i 0 2) (hv : zB v 0 99) (h : i.toInt = 2 ∨ v.toInt ≤ 5) : (zrg 30 i.toNatClampNeg).1 ≤ v.toInt ∧ v.toInt ≤ (zrg 30 i.toNatClampNeg).2 := by
  have e : i.toNatClampNeg = i.toInt.toNat := rfl
  have h1 := hi.1; have h2 := hi.2; have h3 := hv.1; have h4 := hv.2
  rcases (show i.toNatClampNeg = 0 ∨ i.toNatClampNeg = 1 ∨ i.toNatClampNeg = 2 by omega) with q | q | q
  · rw [q]; exact ⟨h3, show v.toInt ≤ 5 by omega⟩
  · rw [q]; exact ⟨h3, show v.toInt ≤ 5 by omega⟩
  · rw [q]; exact ⟨h3, h4⟩
theorem zin64w {x y z : Int32} {c d c2 d2 : Int} (h : z.toInt64.toInt ≤ x.toInt64.toInt ∧ x.toInt64.toInt ≤ y.toInt64.toInt) (hz : zB z c2 d2) (hy : zB y c d) : zB x c2 d := by
  rw [z64, z64, z64] at h; exact ⟨Int.le_trans hz.1 h.1, Int.le_trans h.2 hy.2⟩
theorem zFr_nil {f g : zM} (h : zFr [] f g) : f = g := by
  funext k n j
  exact (h k n j rfl).symm
theorem zu16 {x : Int32} {a b : Int} (h : zB x a b) (ha : 0 ≤ a) (hb : b ≤ 65535) : (x.toUInt32 % 65536).toInt32 = x := by
  have e := zB_nat h ha
  have h2 := h.2
  apply Int32.toBitVec_inj.mp
  show x.toBitVec % 65536#32 = x.toBitVec
  apply BitVec.eq_of_toNat_eq
  rw [BitVec.toNat_umod]
  exact Nat.mod_eq_of_lt (by rw [e]; show _ < 65536; have := h.1; omega)
theorem zi2c_b {x : Int32} {a b : Int} (h : zB x a b) (ha : 0 ≤ a) (hb : b ≤ 65535) : zB ((x.toUInt32 % 65536).toInt32) a b := by rw [zu16 h ha hb]; exact h
theorem z255 {x : Int32} (h : x &&& (-256) = 0) : zB x 0 255 := by
  have h1 : x.toBitVec &&& (-256 : Int32).toBitVec = 0#32 := by
    rw [← Int32.toBitVec_and, h]; rfl
  have h2 : x.toBitVec.toNat < 2 ^ 8 := by
    apply Nat.lt_pow_two_of_testBit
    intro i hi
    by_cases h32 : i < 32
    · have h3 : (x.toBitVec &&& (-256 : Int32).toBitVec).getLsbD i = false := by rw [h1]; simp
      rw [BitVec.getLsbD_and, (by decide : ∀ q : Fin 32, 8 ≤ q.val → (-256 : Int32).toBitVec.getLsbD q.val = true) ⟨i, h32⟩ hi, Bool.and_true] at h3
      exact h3
    · exact BitVec.getLsbD_of_ge x.toBitVec i (by omega)
  have h4 := zB_ofNat (x := x) rfl (by omega)
  constructor <;> omega
theorem zdem {x : Int32} {c : Int32} (hc : zB c 0 8) (h : x &&& (((1 <<< (c &&& 31)) - 1) ^^^ (-1)) = 0) : zB x 0 255 := by
  obtain ⟨e1, e2⟩ := nI_ofI (x := c) hc.1
  have h2 : c.toInt.toNat ≤ 8 := by have := hc.2; omega
  rw [e1] at h
  generalize c.toInt.toNat = n at h2 h
  apply z255
  have key : ∀ q : Fin 9, (((1 <<< (nI q.val &&& 31)) - 1) ^^^ (-1) : Int32) &&& (-256) = -256 := by decide
  rw [← key ⟨n, by omega⟩, ← Int32.and_assoc]
  show (x &&& (((1 <<< (nI n &&& 31)) - 1) ^^^ (-1))) &&& (-256) = 0
  rw [h]
  decide
