/-! ===== words: the good ones of the law's table, by their places ===== -/
def zT : List Cond := lw_tbl.filter goodWord
theorem zmem {w : Cond} (i : Nat) (h : lw_tbl[i]? = some w) (hg : goodWord w = true) : w ∈ zT := List.mem_filter.mpr ⟨List.mem_of_getElem? h, hg⟩
theorem zT_good : GoodIn zT zT := fun w h => ⟨h, good_of_word (List.mem_filter.mp h).2⟩
theorem zT_code {y : MethodName} {cc : ByteArray} {nL : Nat} {rt : Option FieldType} (h : Cond.code y cc nL rt ∈ zT) : GoodIn zT (.code y cc nL rt :: zT) := fun w hw => (List.mem_cons.mp hw).elim (fun e => e ▸ zT_good _ h) (fun q => zT_good w q)
/-! ===== values, memory, shapes ===== -/
abbrev zV : Type := Int32 ⊕ (Int64 ⊕ (Nat × Nat))
abbrev zM : Type := Nat → Nat → Nat → Int32
abbrev zFd : Type := Option (Nat × (Nat → Nat))
abbrev zSh : Type := (Nat × List zFd) ⊕ (Nat × Nat × Option (Nat × (Nat → Nat → Nat)))
abbrev zi (x : Int32) : zV := .inl x
abbrev zl (x : Int64) : zV := .inr (.inl x)
abbrev zr (k n : Nat) : zV := .inr (.inr (k, n))
def zup (f : zM) (k n j : Nat) (x : Int32) : zM := fun a b c => if a = k ∧ b = n ∧ c = j then x else f a b c
theorem zup_same (f : zM) (k n j : Nat) (x : Int32) : zup f k n j x k n j = x := by simp [zup]
theorem zup_ne (f : zM) {k n j a b c : Nat} (x : Int32) (h : ¬ (a = k ∧ b = n ∧ c = j)) : zup f k n j x a b c = f a b c := by simp [zup, h]
def zcv (ad : Nat → Nat → Nat) : zV → Value
  | .inl x => .int x
  | .inr (.inl x) => .long x
  | .inr (.inr q) => .ref (ad q.1 q.2)
def zsz : List zV → Nat
  | [] => 0
  | .inl _ :: r => 1 + zsz r
  | .inr (.inl _) :: r => 2 + zsz r
  | .inr (.inr _) :: r => 1 + zsz r
theorem zsz_ok (ad : Nat → Nat → Nat) (st : List zV) : ((st.map (zcv ad)).map fun v => v.category).sum = zsz st := by
  induction st with
  | nil => rfl
  | cons v r ih =>
    simp only [List.map_cons, List.sum_cons, ih]
    rcases v with x | x | x <;> rfl
/-! the locals, by place -/
def zlv (ad : Nat → Nat → Nat) : Nat → List (Option zV) → List (Nat × Value)
  | _, [] => []
  | i, none :: r => zlv ad (i + 1) r
  | i, some v :: r => (i, zcv ad v) :: zlv ad (i + 1) r
theorem zlv_mem (ad : Nat → Nat → Nat) : ∀ (L : List (Option zV)) (j i : Nat) (v : zV), L[i]? = some (some v) → (j + i, zcv ad v) ∈ zlv ad j L
  | [], j, i, v, h => by simp at h
  | o :: r, j, 0, v, h => by
    simp only [List.getElem?_cons_zero, Option.some.injEq] at h
    subst h
    simp [zlv]
  | o :: r, j, i + 1, v, h => by
    rw [List.getElem?_cons_succ] at h
    have := zlv_mem ad r (j + 1) i v h
    rw [show j + 1 + i = j + (i + 1) by omega] at this
    cases o with
    | none => exact this
    | some w => exact List.mem_cons_of_mem _ this
theorem zlv_of (ad : Nat → Nat → Nat) : ∀ (L : List (Option zV)) (j : Nat) (q : Nat × Value), q ∈ zlv ad j L → ∃ (i : Nat) (v : zV), L[i]? = some (some v) ∧ q = (j + i, zcv ad v)
  | [], j, q, h => by simp [zlv] at h
  | none :: r, j, q, h => by
    obtain ⟨i, v, h1, h2⟩ := zlv_of ad r (j + 1) q h
    exact ⟨i + 1, v, by rw [List.getElem?_cons_succ]; exact h1, by rw [h2, show j + 1 + i = j + (i + 1) by omega]⟩
  | some w :: r, j, q, h => by
    rcases List.mem_cons.mp h with h | h
    · exact ⟨0, w, by simp, h⟩
    · obtain ⟨i, v, h1, h2⟩ := zlv_of ad r (j + 1) q h
      exact ⟨i + 1, v, by rw [List.getElem?_cons_succ]; exact h1, by rw [h2, show j + 1 + i = j + (i + 1) by omega]⟩
theorem zat {ad : Nat → Nat → Nat} {ls : Array Slot} {nL : Nat} {L : List (Option zV)} (h : lv_has ls nL (zlv ad 0 L)) {i : Nat} {v : zV} (hi : L[i]? = some (some v)) : ls[i]? = some (.val (zcv ad v)) := by
  have := h.2.2 _ (zlv_mem ad L 0 i v hi)
  rwa [Nat.zero_add] at this
theorem lv_less {ls : Array Slot} {nL : Nat} {l l' : List (Nat × Value)} (h : lv_has ls nL l) (hs : ∀ q ∈ l', q ∈ l) : lv_has ls nL l' := ⟨h.1, h.2.1, fun q hq => h.2.2 q (hs q hq)⟩
/-- the place ahead holds no long -/
def zno (L : List (Option zV)) : Nat → Bool
  | 0 => true
  | i + 1 => match L[i]? with
    | some (some (.inr (.inl _))) => false
    | _ => true
theorem zset {ad : Nat → Nat → Nat} {L : List (Option zV)} {i : Nat} {v : zV} (hn : zno L i = true) :
    ∀ q ∈ zlv ad 0 (L.set i (some v)), q ∈ (i, zcv ad v) :: (zlv ad 0 L).filter (fun q => !(q.1 == i) && !(q.1 + 1 == i && q.2.category == 2)) := by
  intro q hq
  obtain ⟨j, w, h1, h2⟩ := zlv_of ad _ 0 q hq
  rw [Nat.zero_add] at h2
  by_cases hj : i = j
  · subst hj
    have hl : i < (L.set i (some v)).length := (List.getElem?_eq_some_iff.mp h1).1
    rw [List.length_set] at hl
    rw [List.getElem?_set_self hl] at h1
    cases h1
    rw [h2]
    exact List.mem_cons_self
  · rw [List.getElem?_set_ne hj] at h1
    refine List.mem_cons_of_mem _ (List.mem_filter.mpr ⟨?_, ?_⟩)
    · rw [h2]
      have := zlv_mem ad L 0 j w h1
      rwa [Nat.zero_add] at this
    · rw [h2]
      have e1 : (j == i) = false := by simp; omega
      by_cases hc : j + 1 = i
      · subst hc
        rcases w with x | x | x
        · simp [e1, zcv, Value.category]
        · simp [zno, h1] at hn
        · simp [e1, zcv, Value.category]
      · have e2 : (j + 1 == i) = false := by simp; omega
        simp [e1, e2]
/-! the locals with which a method begins -/
def zarg : List zV → List (Option zV)
  | [] => []
  | .inr (.inl x) :: r => some (.inr (.inl x)) :: none :: zarg r
  | v :: r => some v :: zarg r
theorem zlv_pad (ad : Nat → Nat → Nat) : ∀ (n j : Nat), zlv ad j (List.replicate n none) = []
  | 0, _ => rfl
  | n + 1, j => by rw [List.replicate_succ]; exact zlv_pad ad n (j + 1)
theorem zlv_arg (ad : Nat → Nat → Nat) (n : Nat) : ∀ (as : List zV) (j : Nat), zlv ad j (zarg as ++ List.replicate n none) = lv_args j (as.map (zcv ad))
  | [], j => by simp only [zarg, List.nil_append, List.map_nil, lv_args]; exact zlv_pad ad n j
  | .inl x :: r, j => by
    simp only [zarg, List.cons_append, zlv, List.map_cons, lv_args, zcv, Value.category]
    rw [zlv_arg ad n r (j + 1)]
    rfl
  | .inr (.inl x) :: r, j => by
    simp only [zarg, List.cons_append, zlv, List.map_cons, lv_args, zcv, Value.category]
    rw [zlv_arg ad n r (j + 1 + 1)]
    rfl
  | .inr (.inr x) :: r, j => by
    simp only [zarg, List.cons_append, zlv, List.map_cons, lv_args, zcv, Value.category]
    rw [zlv_arg ad n r (j + 1)]
    rfl
/-! ===== the shapes of this system: (kind, number) names a cell ===== -/
abbrev zc (k : Nat) : zFd := some (k, fun _ => 0)
def zshp : Nat → zSh
  | 0 => .inl (9, [some (1, fun _ => 0), some (1, fun _ => 1), zc 13, zc 18, zc 22, none])
  | 1 => .inl (8, [some (2, fun n => n), some (3, fun n => n), some (4, fun n => n), some (5, fun n => n), some (6, fun n => n), none, none, none, none])
  | 2 => .inr (2, 24, some (7, fun n i => 24 * n + i))
  | 3 => .inr (3, 8, some (8, fun n i => 8 * n + i))
  | 4 => .inr (4, 12, some (11, fun n i => 12 * n + i))
  | 5 => .inr (5, 8, some (12, fun n i => 8 * n + i))
  | 6 => .inl (3, [none, none, none, none, none, none, none])
  | 7 => .inl (0, [none, none, none, none, none, none])
  | 8 => .inl (1, [none, none, none, none, none, none, none, none, some (9, fun n => n), some (10, fun n => n)])
  | 9 => .inr (0, 6, none)
  | 10 => .inr (0, 6, none)
  | 11 => .inl (4, [none, none, none, none, none, none, none, none, none, none])
  | 12 => .inl (2, [none, none, none, none, none, none])
  | 13 => .inl (5, [zc 1, some (6, fun _ => 2), zc 14, zc 15, zc 16, zc 17, none, none])
  | 14 => .inr (0, 3072, none)
  | 15 => .inr (0, 3073, none)
  | 16 => .inr (0, 3073, none)
  | 17 => .inr (0, 12, none)
  | 18 => .inl (7, [zc 19, zc 20, zc 21, none, none, none, none, none])
  | 19 => .inr (1, 120, none)
  | 20 => .inr (2, 12, some (7, fun _ i => 48 + i))
  | 21 => .inr (4, 12, some (11, fun _ i => 24 + i))
  | 22 => .inr (6, 4, some (23, fun _ i => i))
  | 23 => .inl (6, [some (24, fun n => n), none, none])
  | 24 => .inr (0, 16, none)
  | 25 => .inl (10, [none, zc 26, none, zc 27, none, zc 28, none, zc 29, zc 30, zc 31, zc 32, zc 33, zc 34, none, zc 35, zc 36, none, none, none, zc 37, none, zc 38, none, zc 39, none, zc 40, zc 41, zc 42, zc 43])
  | 26 => .inr (0, 144, none)
  | 27 => .inr (0, 40, none)
  | 28 => .inr (0, 96, none)
  | 29 => .inr (0, 24, none)
  | 30 => .inr (0, 7, none)
  | 31 => .inr (0, 12, none)
  | 32 => .inr (0, 21504, none)
  | 33 => .inr (0, 21504, none)
  | 34 => .inr (0, 21504, none)
  | 35 => .inr (0, 12, none)
  | 36 => .inr (0, 120, none)
  | 37 => .inr (0, 72, none)
  | 38 => .inr (0, 96, none)
  | 39 => .inr (0, 320, none)
  | 40 => .inr (0, 4, none)
  | 41 => .inr (0, 4, none)
  | 42 => .inr (0, 4, none)
  | 43 => .inr (0, 64, none)
  | _ => .inr (0, 0, none)
def zcnt : Nat → Nat
  | 0 => 1
  | 1 => 2
  | 2 => 2
  | 3 => 2
  | 4 => 2
  | 5 => 2
  | 6 => 3
  | 7 => 60
  | 8 => 16
  | 9 => 16
  | 10 => 16
  | 11 => 36
  | 12 => 16
  | 13 => 1
  | 14 => 1
  | 15 => 1
  | 16 => 1
  | 17 => 1
  | 18 => 1
  | 19 => 1
  | 20 => 1
  | 21 => 1
  | 22 => 1
  | 23 => 4
  | 24 => 4
  | k => if k < 44 then 1 else 0
/-- where the cells lie, counted from the first -/
def zoff : Nat → Nat → Nat
  | 0, _ => 0
  | 1, n => 1 + 74 * n
  | 2, n => 2 + 74 * n
  | 3, n => 3 + 74 * n
  | 4, n => 4 + 74 * n
  | 5, n => 5 + 74 * n
  | 6, n => if n < 2 then 6 + 74 * n else 150
  | 7, n => if n < 24 then 7 + n else if n < 48 then 81 + (n - 24) else 159 + 2 * (n - 48)
  | 8, n => if n < 8 then 31 + 3 * n else 105 + 3 * (n - 8)
  | 9, n => if n < 8 then 32 + 3 * n else 106 + 3 * (n - 8)
  | 10, n => if n < 8 then 33 + 3 * n else 107 + 3 * (n - 8)
  | 11, n => if n < 12 then 55 + n else if n < 24 then 129 + (n - 12) else 160 + 2 * (n - 24)
  | 12, n => if n < 8 then 67 + n else 141 + (n - 8)
  | 13, _ => 149
  | 14, _ => 151
  | 15, _ => 152
  | 16, _ => 153
  | 17, _ => 154
  | 18, _ => 155
  | 19, _ => 156
  | 20, _ => 157
  | 21, _ => 158
  | 22, _ => 183
  | 23, n => 184 + 2 * n
  | 24, n => 185 + 2 * n
  | k, _ => 192 + (k - 25)
theorem zcnt_big (k : Nat) (h : 44 ≤ k) : zcnt k = 0 := by
  unfold zcnt
  split <;> first | omega | (rw [if_neg (by omega)])
theorem zoff_nodup : ((List.range 44).all fun k => (List.range (zcnt k)).all fun n => (List.range 44).all fun k' => (List.range (zcnt k')).all fun n' => !(zoff k n == zoff k' n') || (k == k' && n == n')) = true := by decide +kernel
theorem zoff_inj {k n k' n' : Nat} (h : n < zcnt k) (h' : n' < zcnt k') (e : zoff k n = zoff k' n') : k = k' ∧ n = n' := by
  have hk : k < 44 := by
    rcases Nat.lt_or_ge k 44 with q | q
    · exact q
    · rw [zcnt_big k q] at h; omega
  have hk' : k' < 44 := by
    rcases Nat.lt_or_ge k' 44 with q | q
    · exact q
    · rw [zcnt_big k' q] at h'; omega
  have h1 := List.all_eq_true.mp zoff_nodup k (List.mem_range.mpr hk)
  have h2 := List.all_eq_true.mp h1 n (List.mem_range.mpr h)
  have h3 := List.all_eq_true.mp h2 k' (List.mem_range.mpr hk')
  have h4 := List.all_eq_true.mp h3 n' (List.mem_range.mpr h')
  simpa [e] using h4
