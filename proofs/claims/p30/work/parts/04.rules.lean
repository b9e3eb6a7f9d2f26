/-! ===== the judgement: the machine at (pc, locals, stack, memory) comes to the target ===== -/
def zfl (ad : Nat → Nat → Nat) (f : zM) (k n : Nat) : Nat → List zFd → List Value
  | _, [] => []
  | j, none :: r => .int (f k n j) :: zfl ad f k n (j + 1) r
  | j, some q :: r => .ref (ad q.1 (q.2 n)) :: zfl ad f k n (j + 1) r
def zent (cA : Nat → ClassId) (ad : Nat → Nat → Nat) (f : zM) (k n : Nat) : va_E := match zshp k with
  | .inl q => .inr (q.1, zfl ad f k n 0 q.2)
  | .inr (t, len, none) => .inl (cA t, len, .inl (f k n))
  | .inr (t, len, some q) => .inl (cA t, len, .inr (.inr (.inr (.inr (fun i => some (ad q.1 (q.2 n i)))))))
theorem zfl_get (ad : Nat → Nat → Nat) (f : zM) (k n : Nat) : ∀ (fds : List zFd) (j i : Nat) (d : zFd), fds[i]? = some d → (zfl ad f k n j fds)[i]? = some (match d with | none => .int (f k n (j + i)) | some q => .ref (ad q.1 (q.2 n)))
  | [], j, i, d, h => by simp at h
  | none :: r, j, 0, d, h => by simp at h; subst h; simp [zfl]
  | some q :: r, j, 0, d, h => by simp at h; subst h; simp [zfl]
  | none :: r, j, i + 1, d, h => by
    rw [List.getElem?_cons_succ] at h
    have := zfl_get ad f k n r (j + 1) i d h
    rw [show j + 1 + i = j + (i + 1) by omega] at this
    simpa [zfl] using this
  | some q :: r, j, i + 1, d, h => by
    rw [List.getElem?_cons_succ] at h
    have := zfl_get ad f k n r (j + 1) i d h
    rw [show j + 1 + i = j + (i + 1) by omega] at this
    simpa [zfl] using this
theorem zfl_len (ad : Nat → Nat → Nat) (f : zM) (k n : Nat) : ∀ (fds : List zFd) (j : Nat), (zfl ad f k n j fds).length = fds.length
  | [], j => rfl
  | none :: r, j => by simp [zfl, zfl_len ad f k n r (j + 1)]
  | some q :: r, j => by simp [zfl, zfl_len ad f k n r (j + 1)]
theorem zfl_congr (ad : Nat → Nat → Nat) (f g : zM) (k n : Nat) : ∀ (fds : List zFd) (j : Nat), (∀ i, f k n i = g k n i) → zfl ad f k n j fds = zfl ad g k n j fds
  | [], j, h => rfl
  | none :: r, j, h => by simp only [zfl]; rw [h j, zfl_congr ad f g k n r (j + 1) h]
  | some q :: r, j, h => by simp only [zfl]; rw [zfl_congr ad f g k n r (j + 1) h]
theorem zfl_low (ad : Nat → Nat → Nat) (f : zM) (k n i : Nat) (x : Int32) : ∀ (fds : List zFd) (j : Nat), i < j → zfl ad (zup f k n i x) k n j fds = zfl ad f k n j fds
  | [], j, h => rfl
  | none :: r, j, h => by simp only [zfl]; rw [zup_ne f x (by omega), zfl_low ad f k n i x r (j + 1) (by omega)]
  | some q :: r, j, h => by simp only [zfl]; rw [zfl_low ad f k n i x r (j + 1) (by omega)]
theorem zfl_set (ad : Nat → Nat → Nat) (f : zM) (k n : Nat) (x : Int32) : ∀ (fds : List zFd) (j i : Nat), fds[i]? = some none → (zfl ad f k n j fds).set i (.int x) = zfl ad (zup f k n (j + i) x) k n j fds
  | [], j, i, h => by simp at h
  | none :: r, j, 0, h => by simp only [zfl, List.set_cons_zero, Nat.add_zero]; rw [zup_same, zfl_low ad f k n j x r (j + 1) (by omega)]
  | some q :: r, j, 0, h => by simp at h
  | none :: r, j, i + 1, h => by
    rw [List.getElem?_cons_succ] at h
    simp only [zfl, List.set_cons_succ]
    rw [zfl_set ad f k n x r (j + 1) i h, zup_ne f x (by omega), show j + 1 + i = j + (i + 1) by omega]
  | some q :: r, j, i + 1, h => by
    rw [List.getElem?_cons_succ] at h
    simp only [zfl, List.set_cons_succ]
    rw [zfl_set ad f k n x r (j + 1) i h, show j + 1 + i = j + (i + 1) by omega]
def ztys (cA : Nat → ClassId) : List (ClassId × FieldType) := [(cA 0, .int), (cA 1, .char), (cA 2, .object "SentRoads$Crime"), (cA 3, .object "SentRoads$Deed"), (cA 4, .object "SentRoads$Paper"), (cA 5, .object "SentRoads$Demand"), (cA 6, .object "SentRoads$Sheet")]
def zty : Nat → FieldType
  | 0 => .int
  | 1 => .char
  | 2 => .object "SentRoads$Crime"
  | 3 => .object "SentRoads$Deed"
  | 4 => .object "SentRoads$Paper"
  | 5 => .object "SentRoads$Demand"
  | _ => .object "SentRoads$Sheet"
def zOb : Nat → String
  | 2 => "SentRoads$Crime"
  | 3 => "SentRoads$Deed"
  | 4 => "SentRoads$Paper"
  | 5 => "SentRoads$Demand"
  | _ => "SentRoads$Sheet"
theorem ztys_at (cA : Nat → ClassId) {t : Nat} (h : t < 7) : (ztys cA)[t]? = some (cA t, zty t) := by
  match t, h with
  | 0, _ => rfl
  | 1, _ => rfl
  | 2, _ => rfl
  | 3, _ => rfl
  | 4, _ => rfl
  | 5, _ => rfl
  | 6, _ => rfl
abbrev zNest : Cond := .methodLinkNest "SentRoads$Tape" 109 ⟨"SentRoads", "isLand", "(I)Z"⟩ "SentRoads"
def zK (D : va_G) (cA : Nat → ClassId) (U : State) : Prop := va_K D vwCl (ztys cA) U ∧ va_Nw zNest U
def zAt (D : va_G) (cA : Nat → ClassId) (ad : Nat → Nat → Nat) (f : zM) (H : Heap) : Prop := ∀ k n, n < zcnt k → va_at D vwCl (ad k n, zent cA ad f k n) H
def zG (ad : Nat → Nat → Nat) (lo : Nat) : Prop := (∀ k n, n < zcnt k → lo ≤ ad k n) ∧ ∀ k n k' n', n < zcnt k → n' < zcnt k' → ad k n = ad k' n' → k = k' ∧ n = n'
abbrev zX : Type := Program × Launch × Env × Room × State × MethodId × Array Value × List Frame × Method × Code × Nat × va_G × (Nat → ClassId) × (Nat → Nat → Nat) × Nat × Nat × Nat × (State → Prop)
def Z : zX → Nat → List (Option zV) → List zV → zM → Prop
  | (p, l, e, R, s, m, args, below, meth, c, nL, D, cA, ad, lo, cells, slots, Tg), pc, L, st, f => ∀ (H : Heap) (locs : List Loc) (ls : Array Slot), zAt D cA ad f H → va_S (fun q => lo ≤ q) s.heap H locs → lv_has ls nL (zlv ad 0 L) →
    W p l e R s m args below meth c H locs cells slots Tg (F0 m pc ls (st.map (zcv ad)))
def zC : zX → ByteArray → String → Nat → Prop
  | (p, l, e, R, s, m, args, below, meth, c, nL, D, cA, ad, lo, cells, slots, Tg), cc, own, d => p.tables.exec = Jvm.exec ∧ c.code = cc ∧ c.maxLocals = nL ∧ s.vm.findClass own = some m.cls ∧ (∀ w ∈ zT, w.before args s = true) ∧ zK D cA s ∧ zG ad lo ∧ (d ≤ R.frames ∧ 40 * d ≤ R.locals) ∧ (cells ≤ R.cells ∧ slots ≤ R.slots)
def znL : zX → Nat
  | (p, l, e, R, s, m, args, below, meth, c, nL, D, cA, ad, lo, cells, slots, Tg) => nL
theorem zK.moved {D : va_G} {cA : Nat → ClassId} {s U : State} (hW : s.WarmedH U.vm) (h : zK D cA s) : zK D cA U := ⟨va_K.moved hW.alike h.1, va_Nw.warmM hW h.2⟩
theorem zent_obj {cA : Nat → ClassId} {ad : Nat → Nat → Nat} {f : zM} {k n ci : Nat} {fds : List zFd} (hs : zshp k = .inl (ci, fds)) : zent cA ad f k n = .inr (ci, zfl ad f k n 0 fds) := by
  unfold zent; rw [hs]
theorem zent_arr {cA : Nat → ClassId} {ad : Nat → Nat → Nat} {f : zM} {k n t len : Nat} (hs : zshp k = .inr (t, len, none)) : zent cA ad f k n = .inl (cA t, len, .inl (f k n)) := by
  unfold zent; rw [hs]
theorem zent_rar {cA : Nat → ClassId} {ad : Nat → Nat → Nat} {f : zM} {k n t len : Nat} {q : Nat × (Nat → Nat → Nat)} (hs : zshp k = .inr (t, len, some q)) : zent cA ad f k n = .inl (cA t, len, .inr (.inr (.inr (.inr (fun i => some (ad q.1 (q.2 n i))))))) := by
  unfold zent; rw [hs]
theorem zent_congr {cA : Nat → ClassId} {ad : Nat → Nat → Nat} {f g : zM} {k n : Nat} (h : ∀ i, f k n i = g k n i) : zent cA ad f k n = zent cA ad g k n := by
  have e : f k n = g k n := funext h
  unfold zent
  split
  · rw [zfl_congr ad f g k n _ 0 h]
  · rw [e]
  · rfl
/-- one cell written: the others are as they were -/
theorem zAt.put {D : va_G} {cA : Nat → ClassId} {ad : Nat → Nat → Nat} {lo : Nat} {f : zM} {H H1 : Heap} {k n j : Nat} {x : Int32} (hP : zAt D cA ad f H) (hG : zG ad lo) (hn : n < zcnt k) (oq : ∀ q : Nat, q ≠ ad k n → H1[q]? = H[q]?) (hw : va_at D vwCl (ad k n, zent cA ad (zup f k n j x) k n) H1) : zAt D cA ad (zup f k n j x) H1 := by
  intro k' n' hn'
  by_cases hk : k' = k ∧ n' = n
  · obtain ⟨rfl, rfl⟩ := hk
    exact hw
  · have hne : ad k' n' ≠ ad k n := fun q => hk (hG.2 k' n' k n hn' hn q)
    rw [show zent cA ad (zup f k n j x) k' n' = zent cA ad f k' n' from zent_congr (fun i => zup_ne f x (fun q => hk ⟨q.1, q.2.1⟩))]
    exact (hP k' n' hn').kept (oq _ hne)
theorem zP1 {D : va_G} {e : Nat × va_E} {H : Heap} (h : va_at D vwCl e H) : va_P D vwCl [e] H := fun k q hk => by
  have hz : k < 1 := (List.getElem?_eq_some_iff.mp hk).1
  rw [show k = 0 by omega] at hk
  cases hk
  exact h
/-- a field, by the pool number of the code that names it -/
def zFl (own : String) (idx ci j : Nat) : Prop := ∃ (C : String) (T : u_T) (N : Nat), vwCl[ci]? = some (C, T, N) ∧ j < N ∧ (∀ w ∈ u_ws C T N, w ∈ zT) ∧ Cond.fieldLink own idx (T j).1 (T j).2.1 (T j).2.2.1 ∈ zT
/-- what a write to it wants besides -/
def zFw (ci j : Nat) (ty : FieldType) : Prop := ∃ (C : String) (T : u_T) (N : Nat) (ty0 : Nat → FieldType), vwCl[ci]? = some (C, T, N) ∧ (∀ k, k < N → parseFieldDescriptor (T k).2.2.1 = some (ty0 k)) ∧ (∀ a, a < N → ∀ b, b < N → a ≠ b → (T a).2.1 ≠ (T b).2.1) ∧ (T j).2.2.2 = false ∧ parseFieldDescriptor (T j).2.2.1 = some ty
section ZR
variable {X : zX} {cc : ByteArray} {own : String} {d : Nat} {pc : Nat} {L : List (Option zV)} {st : List zV} {f : zM}

theorem z_iconst {n : Int} {v : Int32} (C : zC X cc own d) (hd : decode cc pc = .ok (.iconst n, 1)) (hv : Int32.ofInt n = v) (kk : Z X (pc + 1) L (zi v :: st) f) : Z X pc L st f := by
  obtain ⟨p, l, e, R, s, m, args, below, meth, c, nL, D, cA, ad, lo, cells, slots, Tg⟩ := X
  obtain ⟨hx, hb, hml, hown, hts, hK, hG, hR, hcs⟩ := C
  intro H locs ls hP hS hl
  exact lv_iconst hx hb hd hv (kk H locs ls hP hS hl)
theorem z_bipush {n : Int} {v : Int32} (C : zC X cc own d) (hd : decode cc pc = .ok (.bipush n, 2)) (hv : (Int8.ofInt n).toInt32 = v) (kk : Z X (pc + 2) L (zi v :: st) f) : Z X pc L st f := by
  obtain ⟨p, l, e, R, s, m, args, below, meth, c, nL, D, cA, ad, lo, cells, slots, Tg⟩ := X
  obtain ⟨hx, hb, hml, hown, hts, hK, hG, hR, hcs⟩ := C
  intro H locs ls hP hS hl
  exact lv_bipush hx hb hd hv (kk H locs ls hP hS hl)
theorem z_sipush {n : Int} {v : Int32} (C : zC X cc own d) (hd : decode cc pc = .ok (.sipush n, 3)) (hv : (Int16.ofInt n).toInt32 = v) (kk : Z X (pc + 3) L (zi v :: st) f) : Z X pc L st f := by
  obtain ⟨p, l, e, R, s, m, args, below, meth, c, nL, D, cA, ad, lo, cells, slots, Tg⟩ := X
  obtain ⟨hx, hb, hml, hown, hts, hK, hG, hR, hcs⟩ := C
  intro H locs ls hP hS hl
  exact lv_sipush hx hb hd hv (kk H locs ls hP hS hl)
theorem z_lconst {n : Fin 2} {v : Int64} (C : zC X cc own d) (hd : decode cc pc = .ok (.lconst n, 1)) (hv : Int64.ofNat (n : Nat) = v) (kk : Z X (pc + 1) L (zl v :: st) f) : Z X pc L st f := by
  obtain ⟨p, l, e, R, s, m, args, below, meth, c, nL, D, cA, ad, lo, cells, slots, Tg⟩ := X
  obtain ⟨hx, hb, hml, hown, hts, hK, hG, hR, hcs⟩ := C
  intro H locs ls hP hS hl
  exact lv_lconst hx hb hd hv (kk H locs ls hP hS hl)
theorem z_ldc2 {idx : Nat} {v : Int64} (C : zC X cc own d) (hw : Cond.constantLong own idx v ∈ zT) (hd : decode cc pc = .ok (.ldc2_w idx, 3)) (kk : Z X (pc + 3) L (zl v :: st) f) : Z X pc L st f := by
  obtain ⟨p, l, e, R, s, m, args, below, meth, c, nL, D, cA, ad, lo, cells, slots, Tg⟩ := X
  obtain ⟨hx, hb, hml, hown, hts, hK, hG, hR, hcs⟩ := C
  intro H locs ls hP hS hl
  exact lv_ldc2 hx hb hown (hts _ hw) hd (kk H locs ls hP hS hl)
theorem z_iload_n {k : Fin 4} {x : Int32} (C : zC X cc own d) (hd : decode cc pc = .ok (.iload_n k, 1)) (hi : L[(k : Nat)]? = some (some (zi x))) (kk : Z X (pc + 1) L (zi x :: st) f) : Z X pc L st f := by
  obtain ⟨p, l, e, R, s, m, args, below, meth, c, nL, D, cA, ad, lo, cells, slots, Tg⟩ := X
  obtain ⟨hx, hb, hml, hown, hts, hK, hG, hR, hcs⟩ := C
  intro H locs ls hP hS hl
  exact lv_iload_n hx hb hd rfl (zat hl hi) (kk H locs ls hP hS hl)
theorem z_iload {k : Nat} {x : Int32} (C : zC X cc own d) (hd : decode cc pc = .ok (.iload k, 2)) (hi : L[k]? = some (some (zi x))) (kk : Z X (pc + 2) L (zi x :: st) f) : Z X pc L st f := by
  obtain ⟨p, l, e, R, s, m, args, below, meth, c, nL, D, cA, ad, lo, cells, slots, Tg⟩ := X
  obtain ⟨hx, hb, hml, hown, hts, hK, hG, hR, hcs⟩ := C
  intro H locs ls hP hS hl
  exact lv_iload hx hb hd (zat hl hi) (kk H locs ls hP hS hl)
theorem z_lload_n {k : Fin 4} {x : Int64} (C : zC X cc own d) (hd : decode cc pc = .ok (.lload_n k, 1)) (hi : L[(k : Nat)]? = some (some (zl x))) (kk : Z X (pc + 1) L (zl x :: st) f) : Z X pc L st f := by
  obtain ⟨p, l, e, R, s, m, args, below, meth, c, nL, D, cA, ad, lo, cells, slots, Tg⟩ := X
  obtain ⟨hx, hb, hml, hown, hts, hK, hG, hR, hcs⟩ := C
  intro H locs ls hP hS hl
  exact lv_lload_n hx hb hd rfl (zat hl hi) (kk H locs ls hP hS hl)
theorem z_lload {k : Nat} {x : Int64} (C : zC X cc own d) (hd : decode cc pc = .ok (.lload k, 2)) (hi : L[k]? = some (some (zl x))) (kk : Z X (pc + 2) L (zl x :: st) f) : Z X pc L st f := by
  obtain ⟨p, l, e, R, s, m, args, below, meth, c, nL, D, cA, ad, lo, cells, slots, Tg⟩ := X
  obtain ⟨hx, hb, hml, hown, hts, hK, hG, hR, hcs⟩ := C
  intro H locs ls hP hS hl
  exact lv_lload hx hb hd (zat hl hi) (kk H locs ls hP hS hl)
theorem z_aload_n {k : Fin 4} {kd nn : Nat} (C : zC X cc own d) (hd : decode cc pc = .ok (.aload_n k, 1)) (hi : L[(k : Nat)]? = some (some (zr kd nn))) (kk : Z X (pc + 1) L (zr kd nn :: st) f) : Z X pc L st f := by
  obtain ⟨p, l, e, R, s, m, args, below, meth, c, nL, D, cA, ad, lo, cells, slots, Tg⟩ := X
  obtain ⟨hx, hb, hml, hown, hts, hK, hG, hR, hcs⟩ := C
  intro H locs ls hP hS hl
  exact lv_aload_n hx hb hd rfl (zat hl hi) (kk H locs ls hP hS hl)
theorem z_aload {k : Nat} {kd nn : Nat} (C : zC X cc own d) (hd : decode cc pc = .ok (.aload k, 2)) (hi : L[k]? = some (some (zr kd nn))) (kk : Z X (pc + 2) L (zr kd nn :: st) f) : Z X pc L st f := by
  obtain ⟨p, l, e, R, s, m, args, below, meth, c, nL, D, cA, ad, lo, cells, slots, Tg⟩ := X
  obtain ⟨hx, hb, hml, hown, hts, hK, hG, hR, hcs⟩ := C
  intro H locs ls hP hS hl
  exact lv_aload hx hb hd (zat hl hi) (kk H locs ls hP hS hl)
theorem z_istore_n {k : Fin 4} {x : Int32} (C : zC X cc own d) (hd : decode cc pc = .ok (.istore_n k, 1)) (hn : (k : Nat) < znL X) (ho : zno L k = true) (kk : Z X (pc + 1) (L.set k (some (zi x))) st f) : Z X pc L (zi x :: st) f := by
  obtain ⟨p, l, e, R, s, m, args, below, meth, c, nL, D, cA, ad, lo, cells, slots, Tg⟩ := X
  obtain ⟨hx, hb, hml, hown, hts, hK, hG, hR, hcs⟩ := C
  intro H locs ls hP hS hl
  exact lv_istore_n hx hb hd rfl hl hn rfl (fun ls2 hl2 => kk H locs ls2 hP hS (lv_less hl2 (zset ho)))
theorem z_istore {k : Nat} {x : Int32} (C : zC X cc own d) (hd : decode cc pc = .ok (.istore k, 2)) (hn : k < znL X) (ho : zno L k = true) (kk : Z X (pc + 2) (L.set k (some (zi x))) st f) : Z X pc L (zi x :: st) f := by
  obtain ⟨p, l, e, R, s, m, args, below, meth, c, nL, D, cA, ad, lo, cells, slots, Tg⟩ := X
  obtain ⟨hx, hb, hml, hown, hts, hK, hG, hR, hcs⟩ := C
  intro H locs ls hP hS hl
  exact lv_istore hx hb hd hl hn rfl (fun ls2 hl2 => kk H locs ls2 hP hS (lv_less hl2 (zset ho)))
theorem z_astore_n {k : Fin 4} {kd nn : Nat} (C : zC X cc own d) (hd : decode cc pc = .ok (.astore_n k, 1)) (hn : (k : Nat) < znL X) (ho : zno L k = true) (kk : Z X (pc + 1) (L.set k (some (zr kd nn))) st f) : Z X pc L (zr kd nn :: st) f := by
  obtain ⟨p, l, e, R, s, m, args, below, meth, c, nL, D, cA, ad, lo, cells, slots, Tg⟩ := X
  obtain ⟨hx, hb, hml, hown, hts, hK, hG, hR, hcs⟩ := C
  intro H locs ls hP hS hl
  exact lv_astore_n hx hb hd rfl hl hn rfl (fun ls2 hl2 => kk H locs ls2 hP hS (lv_less hl2 (zset ho)))
theorem z_astore {k : Nat} {kd nn : Nat} (C : zC X cc own d) (hd : decode cc pc = .ok (.astore k, 2)) (hn : k < znL X) (ho : zno L k = true) (kk : Z X (pc + 2) (L.set k (some (zr kd nn))) st f) : Z X pc L (zr kd nn :: st) f := by
  obtain ⟨p, l, e, R, s, m, args, below, meth, c, nL, D, cA, ad, lo, cells, slots, Tg⟩ := X
  obtain ⟨hx, hb, hml, hown, hts, hK, hG, hR, hcs⟩ := C
  intro H locs ls hP hS hl
  exact lv_astore hx hb hd hl hn rfl (fun ls2 hl2 => kk H locs ls2 hP hS (lv_less hl2 (zset ho)))
theorem z_iinc {k : Nat} {n : Int} {x v : Int32} (C : zC X cc own d) (hd : decode cc pc = .ok (.iinc k n, 3)) (hi : L[k]? = some (some (zi x))) (hv : Int32.ofInt n = v) (hn : k < znL X) (ho : zno L k = true) (kk : Z X (pc + 3) (L.set k (some (zi (x + v)))) st f) : Z X pc L st f := by
  obtain ⟨p, l, e, R, s, m, args, below, meth, c, nL, D, cA, ad, lo, cells, slots, Tg⟩ := X
  obtain ⟨hx, hb, hml, hown, hts, hK, hG, hR, hcs⟩ := C
  intro H locs ls hP hS hl
  subst hv
  have hm := zlv_mem ad L 0 k (zi x) hi
  rw [Nat.zero_add] at hm
  obtain ⟨i, hi2⟩ := List.getElem?_of_mem hm
  exact lv_iinc hx hb hd hl hi2 rfl hn rfl (fun ls2 hl2 => kk H locs ls2 hP hS (lv_less hl2 (zset (v := zi (x + Int32.ofInt n)) ho)))
theorem z_iadd {x y : Int32} (C : zC X cc own d) (hd : decode cc pc = .ok (.iadd, 1)) (kk : Z X (pc + 1) L (zi (x + y) :: st) f) : Z X pc L (zi y :: zi x :: st) f := by
  obtain ⟨p, l, e, R, s, m, args, below, meth, c, nL, D, cA, ad, lo, cells, slots, Tg⟩ := X
  obtain ⟨hx, hb, hml, hown, hts, hK, hG, hR, hcs⟩ := C
  intro H locs ls hP hS hl
  exact lv_iadd hx hb hd (kk H locs ls hP hS hl)
theorem z_isub {x y : Int32} (C : zC X cc own d) (hd : decode cc pc = .ok (.isub, 1)) (kk : Z X (pc + 1) L (zi (x - y) :: st) f) : Z X pc L (zi y :: zi x :: st) f := by
  obtain ⟨p, l, e, R, s, m, args, below, meth, c, nL, D, cA, ad, lo, cells, slots, Tg⟩ := X
  obtain ⟨hx, hb, hml, hown, hts, hK, hG, hR, hcs⟩ := C
  intro H locs ls hP hS hl
  exact lv_isub hx hb hd (kk H locs ls hP hS hl)
theorem z_imul {x y : Int32} (C : zC X cc own d) (hd : decode cc pc = .ok (.imul, 1)) (kk : Z X (pc + 1) L (zi (x * y) :: st) f) : Z X pc L (zi y :: zi x :: st) f := by
  obtain ⟨p, l, e, R, s, m, args, below, meth, c, nL, D, cA, ad, lo, cells, slots, Tg⟩ := X
  obtain ⟨hx, hb, hml, hown, hts, hK, hG, hR, hcs⟩ := C
  intro H locs ls hP hS hl
  exact lv_imul hx hb hd (kk H locs ls hP hS hl)
theorem z_iand {x y : Int32} (C : zC X cc own d) (hd : decode cc pc = .ok (.iand, 1)) (kk : Z X (pc + 1) L (zi (x &&& y) :: st) f) : Z X pc L (zi y :: zi x :: st) f := by
  obtain ⟨p, l, e, R, s, m, args, below, meth, c, nL, D, cA, ad, lo, cells, slots, Tg⟩ := X
  obtain ⟨hx, hb, hml, hown, hts, hK, hG, hR, hcs⟩ := C
  intro H locs ls hP hS hl
  exact lv_iand hx hb hd (kk H locs ls hP hS hl)
theorem z_ior {x y : Int32} (C : zC X cc own d) (hd : decode cc pc = .ok (.ior, 1)) (kk : Z X (pc + 1) L (zi (x ||| y) :: st) f) : Z X pc L (zi y :: zi x :: st) f := by
  obtain ⟨p, l, e, R, s, m, args, below, meth, c, nL, D, cA, ad, lo, cells, slots, Tg⟩ := X
  obtain ⟨hx, hb, hml, hown, hts, hK, hG, hR, hcs⟩ := C
  intro H locs ls hP hS hl
  exact lv_ior hx hb hd (kk H locs ls hP hS hl)
theorem z_ixor {x y : Int32} (C : zC X cc own d) (hd : decode cc pc = .ok (.ixor, 1)) (kk : Z X (pc + 1) L (zi (x ^^^ y) :: st) f) : Z X pc L (zi y :: zi x :: st) f := by
  obtain ⟨p, l, e, R, s, m, args, below, meth, c, nL, D, cA, ad, lo, cells, slots, Tg⟩ := X
  obtain ⟨hx, hb, hml, hown, hts, hK, hG, hR, hcs⟩ := C
  intro H locs ls hP hS hl
  exact lv_ixor hx hb hd (kk H locs ls hP hS hl)
theorem z_ishl {x y : Int32} (C : zC X cc own d) (hd : decode cc pc = .ok (.ishl, 1)) (kk : Z X (pc + 1) L (zi (x <<< (y &&& 31)) :: st) f) : Z X pc L (zi y :: zi x :: st) f := by
  obtain ⟨p, l, e, R, s, m, args, below, meth, c, nL, D, cA, ad, lo, cells, slots, Tg⟩ := X
  obtain ⟨hx, hb, hml, hown, hts, hK, hG, hR, hcs⟩ := C
  intro H locs ls hP hS hl
  exact lv_ishl hx hb hd (kk H locs ls hP hS hl)
theorem z_ishr {x y : Int32} (C : zC X cc own d) (hd : decode cc pc = .ok (.ishr, 1)) (kk : Z X (pc + 1) L (zi (x >>> (y &&& 31)) :: st) f) : Z X pc L (zi y :: zi x :: st) f := by
  obtain ⟨p, l, e, R, s, m, args, below, meth, c, nL, D, cA, ad, lo, cells, slots, Tg⟩ := X
  obtain ⟨hx, hb, hml, hown, hts, hK, hG, hR, hcs⟩ := C
  intro H locs ls hP hS hl
  exact lv_ishr hx hb hd (kk H locs ls hP hS hl)
theorem z_iushr {x y : Int32} (C : zC X cc own d) (hd : decode cc pc = .ok (.iushr, 1)) (kk : Z X (pc + 1) L (zi ((x.toUInt32 >>> (y.toUInt32 &&& Int32.toUInt32 31)).toInt32) :: st) f) : Z X pc L (zi y :: zi x :: st) f := by
  obtain ⟨p, l, e, R, s, m, args, below, meth, c, nL, D, cA, ad, lo, cells, slots, Tg⟩ := X
  obtain ⟨hx, hb, hml, hown, hts, hK, hG, hR, hcs⟩ := C
  intro H locs ls hP hS hl
  exact lv_iushr hx hb hd rfl (kk H locs ls hP hS hl)
theorem z_idiv {x y : Int32} (C : zC X cc own d) (hd : decode cc pc = .ok (.idiv, 1)) (hne : ¬ y = 0) (kk : Z X (pc + 1) L (zi (x / y) :: st) f) : Z X pc L (zi y :: zi x :: st) f := by
  obtain ⟨p, l, e, R, s, m, args, below, meth, c, nL, D, cA, ad, lo, cells, slots, Tg⟩ := X
  obtain ⟨hx, hb, hml, hown, hts, hK, hG, hR, hcs⟩ := C
  intro H locs ls hP hS hl
  exact lv_idiv hx hb hd hne (kk H locs ls hP hS hl)
theorem z_irem {x y : Int32} (C : zC X cc own d) (hd : decode cc pc = .ok (.irem, 1)) (hne : ¬ y = 0) (kk : Z X (pc + 1) L (zi (x - x / y * y) :: st) f) : Z X pc L (zi y :: zi x :: st) f := by
  obtain ⟨p, l, e, R, s, m, args, below, meth, c, nL, D, cA, ad, lo, cells, slots, Tg⟩ := X
  obtain ⟨hx, hb, hml, hown, hts, hK, hG, hR, hcs⟩ := C
  intro H locs ls hP hS hl
  exact lv_irem hx hb hd hne (kk H locs ls hP hS hl)
theorem z_land {x y : Int64} (C : zC X cc own d) (hd : decode cc pc = .ok (.land, 1)) (kk : Z X (pc + 1) L (zl (x &&& y) :: st) f) : Z X pc L (zl y :: zl x :: st) f := by
  obtain ⟨p, l, e, R, s, m, args, below, meth, c, nL, D, cA, ad, lo, cells, slots, Tg⟩ := X
  obtain ⟨hx, hb, hml, hown, hts, hK, hG, hR, hcs⟩ := C
  intro H locs ls hP hS hl
  exact lv_land hx hb hd (kk H locs ls hP hS hl)
theorem z_lor {x y : Int64} (C : zC X cc own d) (hd : decode cc pc = .ok (.lor, 1)) (kk : Z X (pc + 1) L (zl (x ||| y) :: st) f) : Z X pc L (zl y :: zl x :: st) f := by
  obtain ⟨p, l, e, R, s, m, args, below, meth, c, nL, D, cA, ad, lo, cells, slots, Tg⟩ := X
  obtain ⟨hx, hb, hml, hown, hts, hK, hG, hR, hcs⟩ := C
  intro H locs ls hP hS hl
  exact lv_lor hx hb hd (kk H locs ls hP hS hl)
theorem z_lshl {x : Int64} {y : Int32} (C : zC X cc own d) (hd : decode cc pc = .ok (.lshl, 1)) (kk : Z X (pc + 1) L (zl (x <<< (y.toInt64 &&& 63)) :: st) f) : Z X pc L (zi y :: zl x :: st) f := by
  obtain ⟨p, l, e, R, s, m, args, below, meth, c, nL, D, cA, ad, lo, cells, slots, Tg⟩ := X
  obtain ⟨hx, hb, hml, hown, hts, hK, hG, hR, hcs⟩ := C
  intro H locs ls hP hS hl
  exact lv_lshl hx hb hd rfl (kk H locs ls hP hS hl)
theorem z_lshr {x : Int64} {y : Int32} (C : zC X cc own d) (hd : decode cc pc = .ok (.lshr, 1)) (kk : Z X (pc + 1) L (zl (x >>> (y.toInt64 &&& 63)) :: st) f) : Z X pc L (zi y :: zl x :: st) f := by
  obtain ⟨p, l, e, R, s, m, args, below, meth, c, nL, D, cA, ad, lo, cells, slots, Tg⟩ := X
  obtain ⟨hx, hb, hml, hown, hts, hK, hG, hR, hcs⟩ := C
  intro H locs ls hP hS hl
  exact lv_lshr hx hb hd rfl (kk H locs ls hP hS hl)
theorem z_lushr {x : Int64} {y : Int32} (C : zC X cc own d) (hd : decode cc pc = .ok (.lushr, 1)) (kk : Z X (pc + 1) L (zl ((x.toUInt64 >>> (y.toInt64.toUInt64 &&& Int64.toUInt64 63)).toInt64) :: st) f) : Z X pc L (zi y :: zl x :: st) f := by
  obtain ⟨p, l, e, R, s, m, args, below, meth, c, nL, D, cA, ad, lo, cells, slots, Tg⟩ := X
  obtain ⟨hx, hb, hml, hown, hts, hK, hG, hR, hcs⟩ := C
  intro H locs ls hP hS hl
  exact lv_lushr hx hb hd rfl (kk H locs ls hP hS hl)
theorem z_lcmp {x y : Int64} (C : zC X cc own d) (hd : decode cc pc = .ok (.lcmp, 1)) (kk : Z X (pc + 1) L (zi (lg_cmp x y) :: st) f) : Z X pc L (zl y :: zl x :: st) f := by
  obtain ⟨p, l, e, R, s, m, args, below, meth, c, nL, D, cA, ad, lo, cells, slots, Tg⟩ := X
  obtain ⟨hx, hb, hml, hown, hts, hK, hG, hR, hcs⟩ := C
  intro H locs ls hP hS hl
  exact W.lcmp hx hb hd (kk H locs ls hP hS hl)
theorem z_i2l {x : Int32} (C : zC X cc own d) (hd : decode cc pc = .ok (.i2l, 1)) (kk : Z X (pc + 1) L (zl x.toInt64 :: st) f) : Z X pc L (zi x :: st) f := by
  obtain ⟨p, l, e, R, s, m, args, below, meth, c, nL, D, cA, ad, lo, cells, slots, Tg⟩ := X
  obtain ⟨hx, hb, hml, hown, hts, hK, hG, hR, hcs⟩ := C
  intro H locs ls hP hS hl
  exact lv_i2l hx hb hd rfl (kk H locs ls hP hS hl)
theorem z_l2i {x : Int64} (C : zC X cc own d) (hd : decode cc pc = .ok (.l2i, 1)) (kk : Z X (pc + 1) L (zi x.toInt32 :: st) f) : Z X pc L (zl x :: st) f := by
  obtain ⟨p, l, e, R, s, m, args, below, meth, c, nL, D, cA, ad, lo, cells, slots, Tg⟩ := X
  obtain ⟨hx, hb, hml, hown, hts, hK, hG, hR, hcs⟩ := C
  intro H locs ls hP hS hl
  exact lv_l2i hx hb hd rfl (kk H locs ls hP hS hl)
theorem z_i2b {x : Int32} (C : zC X cc own d) (hd : decode cc pc = .ok (.i2b, 1)) (kk : Z X (pc + 1) L (zi (x.toInt8.toInt32) :: st) f) : Z X pc L (zi x :: st) f := by
  obtain ⟨p, l, e, R, s, m, args, below, meth, c, nL, D, cA, ad, lo, cells, slots, Tg⟩ := X
  obtain ⟨hx, hb, hml, hown, hts, hK, hG, hR, hcs⟩ := C
  intro H locs ls hP hS hl
  exact lv_i2b hx hb hd rfl (kk H locs ls hP hS hl)
theorem z_i2s {x : Int32} (C : zC X cc own d) (hd : decode cc pc = .ok (.i2s, 1)) (kk : Z X (pc + 1) L (zi (x.toInt16.toInt32) :: st) f) : Z X pc L (zi x :: st) f := by
  obtain ⟨p, l, e, R, s, m, args, below, meth, c, nL, D, cA, ad, lo, cells, slots, Tg⟩ := X
  obtain ⟨hx, hb, hml, hown, hts, hK, hG, hR, hcs⟩ := C
  intro H locs ls hP hS hl
  exact lv_i2s hx hb hd rfl (kk H locs ls hP hS hl)
theorem z_i2c {x : Int32} (C : zC X cc own d) (hd : decode cc pc = .ok (.i2c, 1)) (kk : Z X (pc + 1) L (zi ((x.toUInt32 % 65536).toInt32) :: st) f) : Z X pc L (zi x :: st) f := by
  obtain ⟨p, l, e, R, s, m, args, below, meth, c, nL, D, cA, ad, lo, cells, slots, Tg⟩ := X
  obtain ⟨hx, hb, hml, hown, hts, hK, hG, hR, hcs⟩ := C
  intro H locs ls hP hS hl
  exact lv_i2c hx hb hd rfl (kk H locs ls hP hS hl)
theorem z_dupi {x : Int32} (C : zC X cc own d) (hd : decode cc pc = .ok (.dup, 1)) (kk : Z X (pc + 1) L (zi x :: zi x :: st) f) : Z X pc L (zi x :: st) f := by
  obtain ⟨p, l, e, R, s, m, args, below, meth, c, nL, D, cA, ad, lo, cells, slots, Tg⟩ := X
  obtain ⟨hx, hb, hml, hown, hts, hK, hG, hR, hcs⟩ := C
  intro H locs ls hP hS hl
  exact lv_dup hx hb hd rfl (kk H locs ls hP hS hl)
theorem z_dupr {k n : Nat} (C : zC X cc own d) (hd : decode cc pc = .ok (.dup, 1)) (kk : Z X (pc + 1) L (zr k n :: zr k n :: st) f) : Z X pc L (zr k n :: st) f := by
  obtain ⟨p, l, e, R, s, m, args, below, meth, c, nL, D, cA, ad, lo, cells, slots, Tg⟩ := X
  obtain ⟨hx, hb, hml, hown, hts, hK, hG, hR, hcs⟩ := C
  intro H locs ls hP hS hl
  exact lv_dup hx hb hd rfl (kk H locs ls hP hS hl)
theorem z_dup2 {x : Int32} {k n : Nat} (C : zC X cc own d) (hd : decode cc pc = .ok (.dup2, 1)) (kk : Z X (pc + 1) L (zi x :: zr k n :: zi x :: zr k n :: st) f) : Z X pc L (zi x :: zr k n :: st) f := by
  obtain ⟨p, l, e, R, s, m, args, below, meth, c, nL, D, cA, ad, lo, cells, slots, Tg⟩ := X
  obtain ⟨hx, hb, hml, hown, hts, hK, hG, hR, hcs⟩ := C
  intro H locs ls hP hS hl
  exact lv_dup2_11 hx hb hd rfl rfl (kk H locs ls hP hS hl)
theorem z_pop {x : Int32} (C : zC X cc own d) (hd : decode cc pc = .ok (.pop, 1)) (kk : Z X (pc + 1) L st f) : Z X pc L (zi x :: st) f := by
  obtain ⟨p, l, e, R, s, m, args, below, meth, c, nL, D, cA, ad, lo, cells, slots, Tg⟩ := X
  obtain ⟨hx, hb, hml, hown, hts, hK, hG, hR, hcs⟩ := C
  intro H locs ls hP hS hl
  exact lv_pop hx hb hd rfl (kk H locs ls hP hS hl)
theorem z_goto {off : Int} (tgt : Nat) (C : zC X cc own d) (hd : decode cc pc = .ok (.goto off, 3)) (ht : (pc : Int) + off = (tgt : Int)) (kk : Z X tgt L st f) : Z X pc L st f := by
  obtain ⟨p, l, e, R, s, m, args, below, meth, c, nL, D, cA, ad, lo, cells, slots, Tg⟩ := X
  obtain ⟨hx, hb, hml, hown, hts, hK, hG, hR, hcs⟩ := C
  intro H locs ls hP hS hl
  exact lv_goto hx hb hd ht (kk H locs ls hP hS hl)
theorem z_if_eq {x : Int32} {off : Int} (tgt : Nat) (C : zC X cc own d) (hd : decode cc pc = .ok (.ifCond .eq off, 3)) (ht : (pc : Int) + off = (tgt : Int)) (kt : x = 0 → Z X tgt L st f) (kf : ¬ (x = 0) → Z X (pc + 3) L st f) : Z X pc L (zi x :: st) f := by
  obtain ⟨p, l, e, R, s, m, args, below, meth, c, nL, D, cA, ad, lo, cells, slots, Tg⟩ := X
  obtain ⟨hx, hb, hml, hown, hts, hK, hG, hR, hcs⟩ := C
  intro H locs ls hP hS hl
  exact lv_if_eq hx hb hd ht (fun h => kt h H locs ls hP hS hl) (fun h => kf h H locs ls hP hS hl)
theorem z_icmp_eq {x y : Int32} {off : Int} (tgt : Nat) (C : zC X cc own d) (hd : decode cc pc = .ok (.if_icmp .eq off, 3)) (ht : (pc : Int) + off = (tgt : Int)) (kt : x = y → Z X tgt L st f) (kf : ¬ (x = y) → Z X (pc + 3) L st f) : Z X pc L (zi y :: zi x :: st) f := by
  obtain ⟨p, l, e, R, s, m, args, below, meth, c, nL, D, cA, ad, lo, cells, slots, Tg⟩ := X
  obtain ⟨hx, hb, hml, hown, hts, hK, hG, hR, hcs⟩ := C
  intro H locs ls hP hS hl
  exact lv_icmp_eq hx hb hd ht (fun h => kt h H locs ls hP hS hl) (fun h => kf h H locs ls hP hS hl)
theorem z_if_ne {x : Int32} {off : Int} (tgt : Nat) (C : zC X cc own d) (hd : decode cc pc = .ok (.ifCond .ne off, 3)) (ht : (pc : Int) + off = (tgt : Int)) (kt : ¬ x = 0 → Z X tgt L st f) (kf : x = 0 → Z X (pc + 3) L st f) : Z X pc L (zi x :: st) f := by
  obtain ⟨p, l, e, R, s, m, args, below, meth, c, nL, D, cA, ad, lo, cells, slots, Tg⟩ := X
  obtain ⟨hx, hb, hml, hown, hts, hK, hG, hR, hcs⟩ := C
  intro H locs ls hP hS hl
  exact lv_if_ne hx hb hd ht (fun h => kt h H locs ls hP hS hl) (fun h => kf h H locs ls hP hS hl)
theorem z_icmp_ne {x y : Int32} {off : Int} (tgt : Nat) (C : zC X cc own d) (hd : decode cc pc = .ok (.if_icmp .ne off, 3)) (ht : (pc : Int) + off = (tgt : Int)) (kt : ¬ x = y → Z X tgt L st f) (kf : x = y → Z X (pc + 3) L st f) : Z X pc L (zi y :: zi x :: st) f := by
  obtain ⟨p, l, e, R, s, m, args, below, meth, c, nL, D, cA, ad, lo, cells, slots, Tg⟩ := X
  obtain ⟨hx, hb, hml, hown, hts, hK, hG, hR, hcs⟩ := C
  intro H locs ls hP hS hl
  exact lv_icmp_ne hx hb hd ht (fun h => kt h H locs ls hP hS hl) (fun h => kf h H locs ls hP hS hl)
theorem z_if_lt {x : Int32} {off : Int} (tgt : Nat) (C : zC X cc own d) (hd : decode cc pc = .ok (.ifCond .lt off, 3)) (ht : (pc : Int) + off = (tgt : Int)) (kt : x < 0 → Z X tgt L st f) (kf : ¬ (x < 0) → Z X (pc + 3) L st f) : Z X pc L (zi x :: st) f := by
  obtain ⟨p, l, e, R, s, m, args, below, meth, c, nL, D, cA, ad, lo, cells, slots, Tg⟩ := X
  obtain ⟨hx, hb, hml, hown, hts, hK, hG, hR, hcs⟩ := C
  intro H locs ls hP hS hl
  exact lv_if_lt hx hb hd ht (fun h => kt h H locs ls hP hS hl) (fun h => kf h H locs ls hP hS hl)
theorem z_icmp_lt {x y : Int32} {off : Int} (tgt : Nat) (C : zC X cc own d) (hd : decode cc pc = .ok (.if_icmp .lt off, 3)) (ht : (pc : Int) + off = (tgt : Int)) (kt : x < y → Z X tgt L st f) (kf : ¬ (x < y) → Z X (pc + 3) L st f) : Z X pc L (zi y :: zi x :: st) f := by
  obtain ⟨p, l, e, R, s, m, args, below, meth, c, nL, D, cA, ad, lo, cells, slots, Tg⟩ := X
  obtain ⟨hx, hb, hml, hown, hts, hK, hG, hR, hcs⟩ := C
  intro H locs ls hP hS hl
  exact lv_icmp_lt hx hb hd ht (fun h => kt h H locs ls hP hS hl) (fun h => kf h H locs ls hP hS hl)
theorem z_if_ge {x : Int32} {off : Int} (tgt : Nat) (C : zC X cc own d) (hd : decode cc pc = .ok (.ifCond .ge off, 3)) (ht : (pc : Int) + off = (tgt : Int)) (kt : 0 ≤ x → Z X tgt L st f) (kf : ¬ (0 ≤ x) → Z X (pc + 3) L st f) : Z X pc L (zi x :: st) f := by
  obtain ⟨p, l, e, R, s, m, args, below, meth, c, nL, D, cA, ad, lo, cells, slots, Tg⟩ := X
  obtain ⟨hx, hb, hml, hown, hts, hK, hG, hR, hcs⟩ := C
  intro H locs ls hP hS hl
  exact lv_if_ge hx hb hd ht (fun h => kt h H locs ls hP hS hl) (fun h => kf h H locs ls hP hS hl)
theorem z_icmp_ge {x y : Int32} {off : Int} (tgt : Nat) (C : zC X cc own d) (hd : decode cc pc = .ok (.if_icmp .ge off, 3)) (ht : (pc : Int) + off = (tgt : Int)) (kt : y ≤ x → Z X tgt L st f) (kf : ¬ (y ≤ x) → Z X (pc + 3) L st f) : Z X pc L (zi y :: zi x :: st) f := by
  obtain ⟨p, l, e, R, s, m, args, below, meth, c, nL, D, cA, ad, lo, cells, slots, Tg⟩ := X
  obtain ⟨hx, hb, hml, hown, hts, hK, hG, hR, hcs⟩ := C
  intro H locs ls hP hS hl
  exact lv_icmp_ge hx hb hd ht (fun h => kt h H locs ls hP hS hl) (fun h => kf h H locs ls hP hS hl)
theorem z_if_gt {x : Int32} {off : Int} (tgt : Nat) (C : zC X cc own d) (hd : decode cc pc = .ok (.ifCond .gt off, 3)) (ht : (pc : Int) + off = (tgt : Int)) (kt : 0 < x → Z X tgt L st f) (kf : ¬ (0 < x) → Z X (pc + 3) L st f) : Z X pc L (zi x :: st) f := by
  obtain ⟨p, l, e, R, s, m, args, below, meth, c, nL, D, cA, ad, lo, cells, slots, Tg⟩ := X
  obtain ⟨hx, hb, hml, hown, hts, hK, hG, hR, hcs⟩ := C
  intro H locs ls hP hS hl
  exact lv_if_gt hx hb hd ht (fun h => kt h H locs ls hP hS hl) (fun h => kf h H locs ls hP hS hl)
theorem z_icmp_gt {x y : Int32} {off : Int} (tgt : Nat) (C : zC X cc own d) (hd : decode cc pc = .ok (.if_icmp .gt off, 3)) (ht : (pc : Int) + off = (tgt : Int)) (kt : y < x → Z X tgt L st f) (kf : ¬ (y < x) → Z X (pc + 3) L st f) : Z X pc L (zi y :: zi x :: st) f := by
  obtain ⟨p, l, e, R, s, m, args, below, meth, c, nL, D, cA, ad, lo, cells, slots, Tg⟩ := X
  obtain ⟨hx, hb, hml, hown, hts, hK, hG, hR, hcs⟩ := C
  intro H locs ls hP hS hl
  exact lv_icmp_gt hx hb hd ht (fun h => kt h H locs ls hP hS hl) (fun h => kf h H locs ls hP hS hl)
theorem z_if_le {x : Int32} {off : Int} (tgt : Nat) (C : zC X cc own d) (hd : decode cc pc = .ok (.ifCond .le off, 3)) (ht : (pc : Int) + off = (tgt : Int)) (kt : x ≤ 0 → Z X tgt L st f) (kf : ¬ (x ≤ 0) → Z X (pc + 3) L st f) : Z X pc L (zi x :: st) f := by
  obtain ⟨p, l, e, R, s, m, args, below, meth, c, nL, D, cA, ad, lo, cells, slots, Tg⟩ := X
  obtain ⟨hx, hb, hml, hown, hts, hK, hG, hR, hcs⟩ := C
  intro H locs ls hP hS hl
  exact lv_if_le hx hb hd ht (fun h => kt h H locs ls hP hS hl) (fun h => kf h H locs ls hP hS hl)
theorem z_icmp_le {x y : Int32} {off : Int} (tgt : Nat) (C : zC X cc own d) (hd : decode cc pc = .ok (.if_icmp .le off, 3)) (ht : (pc : Int) + off = (tgt : Int)) (kt : x ≤ y → Z X tgt L st f) (kf : ¬ (x ≤ y) → Z X (pc + 3) L st f) : Z X pc L (zi y :: zi x :: st) f := by
  obtain ⟨p, l, e, R, s, m, args, below, meth, c, nL, D, cA, ad, lo, cells, slots, Tg⟩ := X
  obtain ⟨hx, hb, hml, hown, hts, hK, hG, hR, hcs⟩ := C
  intro H locs ls hP hS hl
  exact lv_icmp_le hx hb hd ht (fun h => kt h H locs ls hP hS hl) (fun h => kf h H locs ls hP hS hl)
theorem z_tabOut {dflt lo0 hi : Int} {offs : Array Int} {len : Nat} {x : Int32} (tgt : Nat) (C : zC X cc own d) (hd : decode cc pc = .ok (.tableswitch dflt lo0 hi offs, len)) (h : x.toInt < lo0 ∨ hi < x.toInt) (ht : (pc : Int) + dflt = (tgt : Int)) (kk : Z X tgt L st f) : Z X pc L (zi x :: st) f := by
  obtain ⟨p, l, e, R, s, m, args, below, meth, c, nL, D, cA, ad, lo, cells, slots, Tg⟩ := X
  obtain ⟨hx, hb, hml, hown, hts, hK, hG, hR, hcs⟩ := C
  intro H locs ls hP hS hl
  exact lv_tableOut hx hb hd h ht (kk H locs ls hP hS hl)
theorem z_tabIn {dflt lo0 hi : Int} {offs : Array Int} {len : Nat} {x : Int32} {off : Int} (tgt : Nat) (C : zC X cc own d) (hd : decode cc pc = .ok (.tableswitch dflt lo0 hi offs, len)) (h1 : ¬ x.toInt < lo0) (h2 : ¬ hi < x.toInt) (ho : offs[(x.toInt - lo0).toNat]? = some off) (ht : (pc : Int) + off = (tgt : Int)) (kk : Z X tgt L st f) : Z X pc L (zi x :: st) f := by
  obtain ⟨p, l, e, R, s, m, args, below, meth, c, nL, D, cA, ad, lo, cells, slots, Tg⟩ := X
  obtain ⟨hx, hb, hml, hown, hts, hK, hG, hR, hcs⟩ := C
  intro H locs ls hP hS hl
  exact lv_tableIn hx hb hd h1 h2 ho ht (kk H locs ls hP hS hl)
theorem z_lookup {dflt : Int} {ps : Array (Int × Int)} {len : Nat} {x : Int32} {off : Int} (tgt : Nat) (C : zC X cc own d) (hd : decode cc pc = .ok (.lookupswitch dflt ps, len)) (hp : (ps.toList.zip (ps.toList.drop 1)).all (fun (a, next) => a.1 < next.1) = true) (ho : Op.lookupswitch.offset ps.toList dflt x.toInt = off) (ht : (pc : Int) + off = (tgt : Int)) (kk : Z X tgt L st f) : Z X pc L (zi x :: st) f := by
  obtain ⟨p, l, e, R, s, m, args, below, meth, c, nL, D, cA, ad, lo, cells, slots, Tg⟩ := X
  obtain ⟨hx, hb, hml, hown, hts, hK, hG, hR, hcs⟩ := C
  intro H locs ls hP hS hl
  exact lv_lookup hx hb hd hp ho ht (kk H locs ls hP hS hl)
theorem z_getI {k n idx ci j : Nat} {fds : List zFd} (C : zC X cc own d) (hF : zFl own idx ci j) (hs : zshp k = .inl (ci, fds)) (hj : fds[j]? = some none) (hn : n < zcnt k) (hd : decode cc pc = .ok (.getfield idx, 3)) (kk : Z X (pc + 3) L (zi (f k n j) :: st) f) : Z X pc L (zr k n :: st) f := by
  obtain ⟨p, l, e, R, s, m, args, below, meth, c, nL, D, cA, ad, lo, cells, slots, Tg⟩ := X
  obtain ⟨hx, hb, hml, hown, hts, hK, hG, hR, hcs⟩ := C
  intro H locs ls hP hS hl
  obtain ⟨Cn, Tn, N, h1, h2, h3, h4⟩ := hF
  have hv := hP k n hn
  rw [zent_obj hs] at hv
  have hg := zfl_get ad f k n fds 0 j none hj
  rw [Nat.zero_add] at hg
  exact va_get hx hb hts h3 hown hK.1 (zP1 hv) 0 rfl h1 j h2 (hts _ h4) (fun _ h => h) hg hd (kk H locs ls hP hS hl)
theorem z_getR {k n idx ci j k2 : Nat} {ph : Nat → Nat} {fds : List zFd} (C : zC X cc own d) (hF : zFl own idx ci j) (hs : zshp k = .inl (ci, fds)) (hj : fds[j]? = some (some (k2, ph))) (hn : n < zcnt k) (hd : decode cc pc = .ok (.getfield idx, 3)) (kk : Z X (pc + 3) L (zr k2 (ph n) :: st) f) : Z X pc L (zr k n :: st) f := by
  obtain ⟨p, l, e, R, s, m, args, below, meth, c, nL, D, cA, ad, lo, cells, slots, Tg⟩ := X
  obtain ⟨hx, hb, hml, hown, hts, hK, hG, hR, hcs⟩ := C
  intro H locs ls hP hS hl
  obtain ⟨Cn, Tn, N, h1, h2, h3, h4⟩ := hF
  have hv := hP k n hn
  rw [zent_obj hs] at hv
  have hg := zfl_get ad f k n fds 0 j _ hj
  exact va_get hx hb hts h3 hown hK.1 (zP1 hv) 0 rfl h1 j h2 (hts _ h4) (fun _ h => h) hg hd (kk H locs ls hP hS hl)
theorem z_putV {k n idx ci j : Nat} {x : Int32} {ty : FieldType} {fds : List zFd} (C : zC X cc own d) (hF : zFl own idx ci j) (hFw : zFw ci j ty) (hnr : narrow ty (.int x) = .int x) (hft : fits ty (.int x) = true) (hs : zshp k = .inl (ci, fds)) (hj : fds[j]? = some none) (hn : n < zcnt k) (hd : decode cc pc = .ok (.putfield idx, 3)) (kk : Z X (pc + 3) L st (zup f k n j x)) : Z X pc L (zi x :: zr k n :: st) f := by
  obtain ⟨p, l, e, R, s, m, args, below, meth, c, nL, D, cA, ad, lo, cells, slots, Tg⟩ := X
  obtain ⟨hx, hb, hml, hown, hts, hK, hG, hR, hcs⟩ := C
  intro H locs ls hP hS hl
  obtain ⟨Cn, Tn, N, h1, hk, hin, hlk⟩ := hF
  obtain ⟨Cm, Tm, M, ty0, g1, hty, hnm, hfin, hde⟩ := hFw
  cases h1.symm.trans g1
  have hv := hP k n hn
  rw [zent_obj hs] at hv
  have hap := va_apart (own := own) hts hin ty0 hty hnm hK.1 h1
  obtain ⟨r, h1', cell, q1, q2, q3, q4⟩ := hv
  have hr : r = (Cn, Tn, N) := Option.some.inj (h1'.symm.trans h1)
  subst hr
  obtain ⟨hS9, hfc, kC, hkC, hkind⟩ := hK.1.1 ci _ h1
  obtain ⟨cf, kf, fi, fd, hi, hsl⟩ := hS9 j hk
  have hlay := hts _ (hin _ (u_in_lay hk))
  unfold u_lay at hlay
  rw [if_neg (by rw [hfin]; decide)] at hlay
  have hst := (u_facts hfc hkC (u_lays hts hin hk) hi).1
  have h6 := u_store hfc hkC hkind hlay hi hde hnr hft
  have hlen : j < (zfl ad f k n 0 fds).length := by rw [zfl_len]; exact (List.getElem?_eq_some_iff.mp hj).1
  have hfs := zfl_set ad f k n x fds 0 j hj
  rw [Nat.zero_add] at hfs
  refine W.putK hx hb (f := fd) ⟨hown, hts _ hlk, ⟨_, _, _, hi⟩, hst⟩ (by rw [q2]; exact h6) q1 q3 (by rw [hsl]; exact k2_hasslot (q4 j hk)) rfl rfl hd fun H' e1 e2 e3 => ?_
  rw [hsl] at e1 ⊢
  refine kk H' _ ls (hP.put hG hn e3 ?_) (hS.put e2 e3 (hG.1 k n hn)) hl
  rw [zent_obj hs, ← hfs]
  exact ⟨_, h1, t_OB.to (V := updV (vp_V (zfl ad f k n 0 fds)) j (.int x)) ⟨_, e1, q2, q3, t_set q4 hap hk (.int x)⟩ (fun i _ => vp_updV_set hlen (.int x) i)⟩
theorem z_putI {k n idx ci j : Nat} {x : Int32} {fds : List zFd} (C : zC X cc own d) (hF : zFl own idx ci j) (hFw : zFw ci j .int) (hs : zshp k = .inl (ci, fds)) (hj : fds[j]? = some none) (hn : n < zcnt k) (hd : decode cc pc = .ok (.putfield idx, 3)) (kk : Z X (pc + 3) L st (zup f k n j x)) : Z X pc L (zi x :: zr k n :: st) f := z_putV C hF hFw rfl rfl hs hj hn hd kk
theorem z_bool {x : Int32} (h : x = 0 ∨ x = 1) : narrow .boolean (.int x) = .int x ∧ fits .boolean (.int x) = true := by
  rcases h with rfl | rfl <;> exact ⟨by decide +kernel, by decide +kernel⟩
theorem z_putZ {k n idx ci j : Nat} {x : Int32} {fds : List zFd} (C : zC X cc own d) (hF : zFl own idx ci j) (hFw : zFw ci j .boolean) (hx01 : x = 0 ∨ x = 1) (hs : zshp k = .inl (ci, fds)) (hj : fds[j]? = some none) (hn : n < zcnt k) (hd : decode cc pc = .ok (.putfield idx, 3)) (kk : Z X (pc + 3) L st (zup f k n j x)) : Z X pc L (zi x :: zr k n :: st) f := z_putV C hF hFw (z_bool hx01).1 (z_bool hx01).2 hs hj hn hd kk
theorem z_iald {k n len : Nat} {i : Int32} (C : zC X cc own d) (hs : zshp k = .inr (0, len, none)) (hn : n < zcnt k) (hi : vp_in i len) (hd : decode cc pc = .ok (.iaload, 1)) (kk : Z X (pc + 1) L (zi (f k n i.toNatClampNeg) :: st) f) : Z X pc L (zi i :: zr k n :: st) f := by
  obtain ⟨p, l, e, R, s, m, args, below, meth, c, nL, D, cA, ad, lo, cells, slots, Tg⟩ := X
  obtain ⟨hx, hb, hml, hown, hts, hK, hG, hR, hcs⟩ := C
  intro H locs ls hP hS hl
  have hv := hP k n hn
  rw [zent_arr hs] at hv
  exact va_iald hx hb hK.1 (zP1 hv) 0 0 rfl (ztys_at cA (by decide)) hi hd (kk H locs ls hP hS hl)
theorem z_cald {k n len : Nat} {i : Int32} (C : zC X cc own d) (hs : zshp k = .inr (1, len, none)) (hn : n < zcnt k) (hi : vp_in i len) (hd : decode cc pc = .ok (.caload, 1)) (kk : Z X (pc + 1) L (zi (f k n i.toNatClampNeg) :: st) f) : Z X pc L (zi i :: zr k n :: st) f := by
  obtain ⟨p, l, e, R, s, m, args, below, meth, c, nL, D, cA, ad, lo, cells, slots, Tg⟩ := X
  obtain ⟨hx, hb, hml, hown, hts, hK, hG, hR, hcs⟩ := C
  intro H locs ls hP hS hl
  have hv := hP k n hn
  rw [zent_arr hs] at hv
  exact va_cald hx hb hK.1 (zP1 hv) 0 1 rfl (ztys_at cA (by decide)) hi hd (kk H locs ls hP hS hl)
theorem z_aald {k n t len k2 : Nat} {ps : Nat → Nat → Nat} {i : Int32} (C : zC X cc own d) (hs : zshp k = .inr (t, len, some (k2, ps))) (ht : zty t = .object (zOb t) ∧ t < 7) (hn : n < zcnt k) (hi : vp_in i len) (hd : decode cc pc = .ok (.aaload, 1)) (kk : Z X (pc + 1) L (zr k2 (ps n i.toNatClampNeg) :: st) f) : Z X pc L (zi i :: zr k n :: st) f := by
  obtain ⟨p, l, e, R, s, m, args, below, meth, c, nL, D, cA, ad, lo, cells, slots, Tg⟩ := X
  obtain ⟨hx, hb, hml, hown, hts, hK, hG, hR, hcs⟩ := C
  intro H locs ls hP hS hl
  have hv := hP k n hn
  rw [zent_rar hs] at hv
  have hat := ztys_at cA ht.2
  rw [ht.1] at hat
  exact va_aldq hx hb hK.1 (zP1 hv) 0 t rfl hat hi hd (kk H locs ls hP hS hl)
theorem z_alenI {k n len : Nat} {v : Int32} (C : zC X cc own d) (hs : zshp k = .inr (0, len, none)) (hn : n < zcnt k) (hv : Int32.ofNat len = v) (hd : decode cc pc = .ok (.arraylength, 1)) (kk : Z X (pc + 1) L (zi v :: st) f) : Z X pc L (zr k n :: st) f := by
  obtain ⟨p, l, e, R, s, m, args, below, meth, c, nL, D, cA, ad, lo, cells, slots, Tg⟩ := X
  obtain ⟨hx, hb, hml, hown, hts, hK, hG, hR, hcs⟩ := C
  intro H locs ls hP hS hl
  have hv2 := hP k n hn
  rw [zent_arr hs] at hv2
  exact va_alen hx hb hK.1 (zP1 hv2) 0 0 rfl (ztys_at cA (by decide)) hv hd (kk H locs ls hP hS hl)
theorem z_iast {k n len : Nat} {i x : Int32} (C : zC X cc own d) (hs : zshp k = .inr (0, len, none)) (hn : n < zcnt k) (hi : vp_in i len) (hd : decode cc pc = .ok (.iastore, 1)) (kk : Z X (pc + 1) L st (zup f k n i.toNatClampNeg x)) : Z X pc L (zi x :: zi i :: zr k n :: st) f := by
  obtain ⟨p, l, e, R, s, m, args, below, meth, c, nL, D, cA, ad, lo, cells, slots, Tg⟩ := X
  obtain ⟨hx, hb, hml, hown, hts, hK, hG, hR, hcs⟩ := C
  intro H locs ls hP hS hl
  have hv := hP k n hn
  rw [zent_arr hs] at hv
  refine W.iast hx hb hv ((hK.1.2 0 _ (ztys_at cA (by decide))).1 len (fun j => .int (f k n j))) (fun q => by cases q) (by show ¬ (i < 0 ∨ (arrV _ _ _).slots.size ≤ _); rw [arrV_size]; exact hi) rfl rfl hd fun H1 e z oq => ?_
  refine kk H1 _ ls (hP.put hG hn oq ?_) (hS.put z oq (hG.1 k n hn)) hl
  rw [zent_arr hs]
  show H1[ad k n]? = some (vp_cell _ _)
  rw [e, vp_cell_i, vp_cell_i, arrV_store]
  congr 2
  funext q
  by_cases hq : q = i.toNatClampNeg
  · subst hq
    simp [updV, zup]
  · simp [updV, zup, hq]
theorem z_cast {k n len : Nat} {i x : Int32} (C : zC X cc own d) (hs : zshp k = .inr (1, len, none)) (hn : n < zcnt k) (hi : vp_in i len) (hd : decode cc pc = .ok (.castore, 1)) (kk : Z X (pc + 1) L st (zup f k n i.toNatClampNeg (vp_nar .char x))) : Z X pc L (zi x :: zi i :: zr k n :: st) f := by
  obtain ⟨p, l, e, R, s, m, args, below, meth, c, nL, D, cA, ad, lo, cells, slots, Tg⟩ := X
  obtain ⟨hx, hb, hml, hown, hts, hK, hG, hR, hcs⟩ := C
  intro H locs ls hP hS hl
  have hv := hP k n hn
  rw [zent_arr hs] at hv
  refine W.cast hx hb hv ((hK.1.2 1 _ (ztys_at cA (by decide))).1 len (fun j => .int (f k n j))) (fun q => by cases q) (by show ¬ (i < 0 ∨ (arrV _ _ _).slots.size ≤ _); rw [arrV_size]; exact hi) rfl rfl hd fun H1 e z oq => ?_
  refine kk H1 _ ls (hP.put hG hn oq ?_) (hS.put z oq (hG.1 k n hn)) hl
  rw [zent_arr hs]
  show H1[ad k n]? = some (vp_cell _ _)
  rw [e, vp_cell_i, vp_cell_i, arrV_store]
  congr 2
  funext q
  by_cases hq : q = i.toNatClampNeg
  · subst hq
    simp [updV, zup, vp_nar]
    try rfl
  · simp [updV, zup, hq]
end ZR
/-! ===== contracts ===== -/
def zroom (d : Nat) : Room := { frames := d, cells := 0, slots := 0, locals := 40 * d }
def zPre (D : va_G) (cA : Nat → ClassId) (ad : Nat → Nat → Nat) (f : zM) (as : List zV) : Array Value → State → Prop := va_Pc (as.map (zcv ad)) (fun U => zK D cA U ∧ zAt D cA ad f U.heap)
def zPost (D : va_G) (cA : Nat → ClassId) (ad : Nat → Nat → Nat) (lo : Nat) (Q : Option zV → zM → Prop) : Array Value → State → Outcome → State → Prop := fun _ st o t => ∃ (r : Option zV) (f' : zM), o = .returned (r.map (zcv ad)) ∧ Q r f' ∧ zAt D cA ad f' t.heap ∧ va_F (fun q => lo ≤ q) st t
/-- the contract of method y: called with these arguments on this memory, it returns, and Q holds of its answer and of the memory behind it -/
def ZM (d : Nat) (y : MethodName) (cc : ByteArray) (nL : Nat) (rt : Option FieldType) (as : List zV) (f : zM) (Q : Option zV → zM → Prop) : Prop := ∀ (l : Launch) (D : va_G) (cA : Nat → ClassId) (ad : Nat → Nat → Nat) (lo : Nat), zG ad lo →
  Met l y (.code y cc nL rt :: zT) (zroom d) (zPre D cA ad f as) (zPost D cA ad lo Q) 0 0 (fun q => lo ≤ q)
def zRet : zX → Option FieldType → (Option zV → zM → Prop) → Prop
  | (p, l, e, R, s, m, args, below, meth, c, nL, D, cA, ad, lo, cells, slots, Tg), rt, Q => meth.sig.returnType = rt ∧ meth.locks = false ∧ Tg = MQ below (zPost D cA ad lo Q) args s cells slots (fun q => lo ≤ q)
def zL0 (as : List zV) (nL : Nat) : List (Option zV) := zarg as ++ List.replicate (nL - (zarg as).length) none
theorem zarg_len (ad : Nat → Nat → Nat) : ∀ as : List zV, (lg_sl (as.map (zcv ad))).length = (zarg as).length
  | [] => rfl
  | .inl x :: r => by simpa [lg_sl, zcv, zarg, Value.category] using zarg_len ad r
  | .inr (.inl x) :: r => by simpa [lg_sl, zcv, zarg, Value.category] using zarg_len ad r
  | .inr (.inr x) :: r => by simpa [lg_sl, zcv, zarg, Value.category] using zarg_len ad r
theorem ZM.intro {d : Nat} {y : MethodName} {cc : ByteArray} {nL : Nat} {rt : Option FieldType} {as : List zV} {f : zM} {Q : Option zV → zM → Prop} (hy : plainName y.cls = true) (hlen : (zarg as).length ≤ nL)
    (h : ∀ X : zX, zC X cc y.cls d → zRet X rt Q → znL X = nL → Z X 0 (zL0 as nL) [] f) : ZM d y cc nL rt as f Q := by
  intro l D cA ad lo hG
  refine Met.ofW (cc := cc) (maxL := nL) (ret := rt) hy rfl ?_
  intro p e s m args below meth c s₁ B hml hv
  obtain ⟨rfl, hK, hP⟩ := hv
  have hts0 := atoms_spec (ws := .code y cc nL rt :: zT) B.pre
  have hts : ∀ w ∈ zT, w.before (as.map (zcv ad)).toArray s = true := fun w hw => hts0 w (List.mem_cons_of_mem _ hw)
  have hZ := h (p, l, e, (headSpec (.code y cc nL rt :: zT) (zroom d)).room, s, m, (as.map (zcv ad)).toArray, below, meth, c, nL, D, cA, ad, lo, 0, 0, MQ below (zPost D cA ad lo Q) (as.map (zcv ad)).toArray s 0 0 (fun q => lo ≤ q))
    ⟨B.exec, B.bytes, hml, findClass_of_methodNamed B.named, hts, hK, hG, ⟨Nat.le_refl _, Nat.le_refl _⟩, Nat.zero_le _, Nat.zero_le _⟩ ⟨B.returns, B.notSynchronized, rfl⟩ rfl
  have hl := lv_entry (as.map (zcv ad)) (n := nL) (by rw [zarg_len ad as]; exact hlen)
  rw [lg_entry_eq]
  generalize (lg_sl (as.map (zcv ad)) ++ List.replicate (nL - (lg_sl (as.map (zcv ad))).length) Slot.unset).toArray = ls at hl ⊢
  refine hZ s.heap [] ls hP va_S.rf ?_
  rw [zL0, zlv_arg]
  exact hl
section ZR2
variable {X : zX} {cc : ByteArray} {own : String} {d : Nat} {pc : Nat} {L : List (Option zV)} {st : List zV} {f : zM} {Q : Option zV → zM → Prop}

theorem z_iret {v : Int32} (C : zC X cc own d) (hr : zRet X (some .int) Q) (hd : decode cc pc = .ok (.ireturn, 1)) (hq : Q (some (zi v)) f) : Z X pc L [zi v] f := by
  obtain ⟨p, l, e, R, s, m, args, below, meth, c, nL, D, cA, ad, lo, cells, slots, Tg⟩ := X
  obtain ⟨hx, hb, hml, hown, hts, hK, hG, hR, hcs⟩ := C
  intro H locs ls hP hS hl
  obtain ⟨r1, r2, rfl⟩ := hr
  exact W.iret (v := v) hx hb r1 (fun t ht hW => ⟨(some (zi v)), f, rfl, hq, by rw [ht]; exact hP, hS.F ht⟩) hS.2.2 hd r2
theorem z_vret (C : zC X cc own d) (hr : zRet X (none) Q) (hd : decode cc pc = .ok (.return_, 1)) (hq : Q none f) : Z X pc L [] f := by
  obtain ⟨p, l, e, R, s, m, args, below, meth, c, nL, D, cA, ad, lo, cells, slots, Tg⟩ := X
  obtain ⟨hx, hb, hml, hown, hts, hK, hG, hR, hcs⟩ := C
  intro H locs ls hP hS hl
  obtain ⟨r1, r2, rfl⟩ := hr
  exact W.vret hx hb r1 (fun t ht hW => ⟨none, f, rfl, hq, by rw [ht]; exact hP, hS.F ht⟩) hS.2.2 hd r2
theorem z_zret {v : Int32} (C : zC X cc own d) (hr : zRet X (some .boolean) Q) (hv : v = 0 ∨ v = 1) (hd : decode cc pc = .ok (.ireturn, 1)) (hq : Q (some (zi v)) f) : Z X pc L [zi v] f := by
  obtain ⟨p, l, e, R, s, m, args, below, meth, c, nL, D, cA, ad, lo, cells, slots, Tg⟩ := X
  obtain ⟨hx, hb, hml, hown, hts, hK, hG, hR, hcs⟩ := C
  intro H locs ls hP hS hl
  obtain ⟨r1, r2, rfl⟩ := hr
  exact W.zret (v := v) hx hb r1 (z_bool hv).1 (fun t ht hW => ⟨(some (zi v)), f, rfl, hq, by rw [ht]; exact hP, hS.F ht⟩) hS.2.2 hd r2
end ZR2
theorem zBlind {D : va_G} {cA : Nat → ClassId} {ad : Nat → Nat → Nat} {f : zM} {as : List zV} : FrameBlind (zPre D cA ad f as) := by
  intro a U g mk h
  obtain ⟨h1, h2, h3⟩ := h
  exact ⟨h1, ⟨va_K.moved (u := U) (U := U.calling g mk a) (Vm.Alike.refl U.vm) h2.1, va_Nw.same rfl (rfl : U.vm = (U.calling g mk a).vm) h2.2⟩, h3⟩
/-- a call of an instance method: what the tables say -/
def zCv (own : String) (idx : Nat) (y : MethodName) (cy : ByteArray) (nLy : Nat) (rty : Option FieldType) (n : Nat) : Prop := Cond.methodLink own idx y ∈ zT ∧ Cond.instanceMethod y ∈ zT ∧ Cond.selects y.cls y y ∈ zT ∧ Cond.initialized y.cls ∈ zT ∧ Cond.code y cy nLy rty ∈ zT ∧ (y.cls ≠ "java/lang/invoke/MethodHandle" ∧ y.cls ≠ "java/lang/invoke/VarHandle" ∧ (parseMethodDescriptor y.desc).map (fun q => q.parameters.length) = some n) ∧ nLy ≤ 21
def zCs (own : String) (idx : Nat) (y : MethodName) (cy : ByteArray) (nLy : Nat) (rty : Option FieldType) (n : Nat) : Prop := Cond.methodLink own idx y ∈ zT ∧ Cond.static y ∈ zT ∧ Cond.initialized y.cls ∈ zT ∧ Cond.code y cy nLy rty ∈ zT ∧ (y.cls ≠ "java/lang/invoke/MethodHandle" ∧ y.cls ≠ "java/lang/invoke/VarHandle" ∧ (parseMethodDescriptor y.desc).map (fun q => q.parameters.length) = some n) ∧ nLy ≤ 21
section ZR3
variable {p : Program} {l : Launch} {e : Env} {R : Room} {s : State} {m : MethodId} {args : Array Value} {below : List Frame} {meth : Method} {c : Code} {H : Heap} {locs : List Loc} {cells slots : Nat} {Qs : State → Prop}
variable {D : va_G} {cA : Nat → ClassId} {ad : Nat → Nat → Nat} {lo pc : Nat} {ls : Array Slot} {rest st0 : List Value} {a : Array Value} {H0 : Heap} {Q : Option zV → zM → Prop}
theorem zrun (hr : va_Run p l e R s m args below meth c H locs cells slots 0 0 (F0 m pc ls st0) rest (zPost D cA ad lo Q a) (fun q => lo ≤ q)) (hS : va_S (fun q => lo ≤ q) H0 H locs)
    (kk : ∀ (r : Option zV) (f' : zM) (H1 : Heap) (locs1 : List Loc), Q r f' → zAt D cA ad f' H1 → va_S (fun q => lo ≤ q) H0 H1 locs1 → W p l e R s m args below meth c H1 locs1 cells slots Qs (F0 m (pc + 3) ls ((r.map (zcv ad)).toList ++ rest))) : W p l e R s m args below meth c H locs cells slots Qs (F0 m pc ls st0) := by
  intro T hT X
  obtain ⟨v, st₀, t, T', L, h0, X', hL, e1, e2, ⟨r, f', hv, hq, hat, hz, hk⟩, st⟩ := hr T hT X
  cases hv
  rw [h0] at hz hk
  obtain ⟨t2, a1, b1⟩ := kk r f' T'.heap (locs ++ L) hq (by rw [e1]; exact hat)
    ⟨Nat.le_trans hS.1 (by rw [e1]; exact hz), fun q h1 h2 => by rw [e1, hk q (Nat.lt_of_lt_of_le h1 hS.1) h2]; exact hS.2.1 q h1 h2, fun q hq => by
      rcases List.mem_append.mp hq with h | h
      · exact hS.2.2 q h
      · exact hL q h⟩ T' rfl X'
  exact ⟨t2, st t2 a1, b1⟩
end ZR3
section ZR4
variable {X : zX} {cc : ByteArray} {own : String} {d : Nat} {pc : Nat} {L : List (Option zV)} {st stk : List zV} {f : zM} {Q : Option zV → zM → Prop} {y : MethodName} {cy : ByteArray} {nLy idx n : Nat} {rty : Option FieldType} {as : List zV}
theorem zroomR {R : Room} {nLy : Nat} (hR : d + 1 ≤ R.frames ∧ 40 * (d + 1) ≤ R.locals) (h : nLy ≤ 21) : (zroom d).frames + 1 ≤ R.frames ∧ 8 + (nLy + 11) + (zroom d).locals ≤ R.locals := ⟨hR.1, by show 8 + (nLy + 11) + 40 * d ≤ R.locals; omega⟩
theorem zopt (ad : Nat → Nat → Nat) (r : Option zV) (st : List zV) : (r.toList ++ st).map (zcv ad) = (r.map (zcv ad)).toList ++ st.map (zcv ad) := by cases r <;> simp
/-- a virtual call -/
theorem z_callV {k nn ci : Nat} {fds : List zFd} (C : zC X cc own (d + 1)) (hw : zCv own idx y cy nLy rty n) (hM : ZM d y cy nLy rty (zr k nn :: as) f Q) (hs : zshp k = .inl (ci, fds)) (hci : (vwCl[ci]?).map (fun q => q.1) = some y.cls) (hnn : nn < zcnt k) (hn : as.length = n) (hst : stk = as.reverse ++ zr k nn :: st) (hW : zsz st ≤ 8) (hd : decode cc pc = .ok (.invokevirtual idx, 3))
    (kk : ∀ (r : Option zV) (f' : zM), Q r f' → Z X (pc + 3) L (r.toList ++ st) f') : Z X pc L stk f := by
  obtain ⟨p, l, e, R, s, m, args, below, meth, c, nL, D, cA, ad, lo, cells, slots, Tg⟩ := X
  obtain ⟨hx, hb, hml, hown, hts, hK, hG, hR, hcs⟩ := C
  intro H locs ls hP hS hl
  obtain ⟨w1, w2, w3, w4, w5, w6, w7⟩ := hw
  have hv := hP k nn hnn
  rw [zent_obj hs] at hv
  obtain ⟨q, hq1, hq2⟩ := Option.map_eq_some_iff.mp hci
  have hrec := va_recv hK.1 (zP1 hv) hq1 (q0 := 0) rfl
  rw [hq2] at hrec
  have hB : CallB R s args own idx y cy nLy rty (.code y cy nLy rty :: zT) (zroom d) 0 0 n := callB_of n hts (zT_code w5) rfl rfl rfl (hts _ w4) (hts _ w1) w6 (zroomR hR w7)
  refine zrun (Q := Q) (va_runV (As := as.map (zcv ad)) (rest := st.map (zcv ad)) ⟨hx, hb, hml, hown, hts⟩ (hM l D cA ad lo hG) ⟨hB, hts _ w2, hts _ w3⟩ ⟨zBlind, hrec, fun U hU hWU => ⟨rfl, zK.moved hWU hK, by rw [hU]; exact hP⟩⟩ rfl (by rw [List.length_map]; exact hn) hl.1 (by rw [hst, List.map_append, List.map_reverse]; rfl) (lv_room (by rw [zsz_ok]; exact hW)) hd ⟨hcs.1, hcs.2⟩) hS (fun r f' H1 locs1 hq hat hS1 => ?_)
  have := kk r f' hq H1 locs1 ls hat hS1 hl
  rwa [zopt] at this
/-- a static call -/
theorem z_callS (C : zC X cc own (d + 1)) (hw : zCs own idx y cy nLy rty n) (hM : ZM d y cy nLy rty as f Q) (hn : as.length = n) (hst : stk = as.reverse ++ st) (hW : zsz st ≤ 8) (hd : decode cc pc = .ok (.invokestatic idx, 3))
    (kk : ∀ (r : Option zV) (f' : zM), Q r f' → Z X (pc + 3) L (r.toList ++ st) f') : Z X pc L stk f := by
  obtain ⟨p, l, e, R, s, m, args, below, meth, c, nL, D, cA, ad, lo, cells, slots, Tg⟩ := X
  obtain ⟨hx, hb, hml, hown, hts, hK, hG, hR, hcs⟩ := C
  intro H locs ls hP hS hl
  obtain ⟨w1, w2, w4, w5, w6, w7⟩ := hw
  have hB : CallB R s args own idx y cy nLy rty (.code y cy nLy rty :: zT) (zroom d) 0 0 n := callB_of n hts (zT_code w5) rfl rfl rfl (hts _ w4) (hts _ w1) w6 (zroomR hR w7)
  refine zrun (Q := Q) (va_runS (As := as.map (zcv ad)) (rest := st.map (zcv ad)) ⟨hx, hb, hml, hown, hts⟩ (hM l D cA ad lo hG) ⟨hB, hts _ w2⟩ ⟨zBlind, fun U hU hWU => ⟨rfl, zK.moved hWU hK, by rw [hU]; exact hP⟩⟩ rfl (by rw [List.length_map]; exact hn) hl.1 (by rw [hst, List.map_append, List.map_reverse]) (lv_room (by rw [zsz_ok]; exact hW)) hd ⟨hcs.1, hcs.2⟩) hS (fun r f' H1 locs1 hq hat hS1 => ?_)
  have := kk r f' hq H1 locs1 ls hat hS1 hl
  rwa [zopt] at this
/-- exact contracts -/
theorem z_callVx {k nn ci : Nat} {fds : List zFd} {r : Option zV} {f' : zM} (C : zC X cc own (d + 1)) (hw : zCv own idx y cy nLy rty n) (hM : ZM d y cy nLy rty (zr k nn :: as) f (fun r' g => r' = r ∧ g = f')) (hs : zshp k = .inl (ci, fds)) (hci : (vwCl[ci]?).map (fun q => q.1) = some y.cls) (hnn : nn < zcnt k) (hn : as.length = n) (hst : stk = as.reverse ++ zr k nn :: st) (hW : zsz st ≤ 8) (hd : decode cc pc = .ok (.invokevirtual idx, 3))
    (kk : Z X (pc + 3) L (r.toList ++ st) f') : Z X pc L stk f := z_callV C hw hM hs hci hnn hn hst hW hd (fun r2 f2 h => by obtain ⟨rfl, rfl⟩ := h; exact kk)
theorem z_callSx {r : Option zV} {f' : zM} (C : zC X cc own (d + 1)) (hw : zCs own idx y cy nLy rty n) (hM : ZM d y cy nLy rty as f (fun r' g => r' = r ∧ g = f')) (hn : as.length = n) (hst : stk = as.reverse ++ st) (hW : zsz st ≤ 8) (hd : decode cc pc = .ok (.invokestatic idx, 3))
    (kk : Z X (pc + 3) L (r.toList ++ st) f') : Z X pc L stk f := z_callS C hw hM hn hst hW hd (fun r2 f2 h => by obtain ⟨rfl, rfl⟩ := h; exact kk)
end ZR4
