/-! ===== making: a heap that grows, as a list of cells; what the constructors do is computed ===== -/
abbrev yCell : Type := (Nat × List (Int32 ⊕ Option Nat)) ⊕ (Nat × Nat × List (Nat × (Int32 ⊕ Nat)))
def yfv (lo : Nat) : Int32 ⊕ Option Nat → Value
  | .inl x => .int x
  | .inr none => .null
  | .inr (some a) => .ref (lo + a)
def ylk : List (Nat × (Int32 ⊕ Nat)) → Nat → Option (Int32 ⊕ Nat)
  | [], _ => none
  | q :: r, i => if q.1 = i then some q.2 else ylk r i
def yri (w : List (Nat × (Int32 ⊕ Nat))) (i : Nat) : Int32 := match ylk w i with
  | some (.inl x) => x
  | _ => 0
def yrr (lo : Nat) (w : List (Nat × (Int32 ⊕ Nat))) (i : Nat) : Option Nat := match ylk w i with
  | some (.inr a) => some (lo + a)
  | _ => none
def yent (cA : Nat → ClassId) (lo : Nat) : yCell → va_E
  | .inl q => .inr (q.1, q.2.map (yfv lo))
  | .inr q => .inl (cA q.1, q.2.1, if q.1 < 2 then .inl (yri q.2.2) else .inr (.inr (.inr (.inr (yrr lo q.2.2)))))
def yad (lo b : Nat) : Nat → Nat → Nat
  | 0, a => lo + a
  | _, _ => b
def yAt (D : va_G) (cA : Nat → ClassId) (lo : Nat) (hp : List yCell) (H : Heap) : Prop := H.size = lo + hp.length ∧ ∀ (i : Nat) (e : yCell), hp[i]? = some e → va_at D vwCl (lo + i, yent cA lo e) H
theorem yAt.set {D : va_G} {cA : Nat → ClassId} {lo : Nat} {hp : List yCell} {H H1 : Heap} {a : Nat} {e0 e : yCell} (h : yAt D cA lo hp H) (ha : hp[a]? = some e0) (hz : H1.size = H.size) (oq : ∀ q : Nat, q ≠ lo + a → H1[q]? = H[q]?) (he : va_at D vwCl (lo + a, yent cA lo e) H1) : yAt D cA lo (hp.set a e) H1 := by
  have hl := (List.getElem?_eq_some_iff.mp ha).1
  refine ⟨by rw [hz, h.1, List.length_set], fun i e1 hi => ?_⟩
  by_cases hia : a = i
  · subst hia
    rw [List.getElem?_set_self hl] at hi
    cases hi
    exact he
  · rw [List.getElem?_set_ne hia] at hi
    exact (h.2 i e1 hi).kept (oq _ (by simp only []; omega))
theorem yAt.push {D : va_G} {cA : Nat → ClassId} {lo : Nat} {hp : List yCell} {H H1 : Heap} {e : yCell} (h : yAt D cA lo hp H) (hz : H1.size = lo + hp.length + 1) (oq : ∀ q : Nat, q < lo + hp.length → H1[q]? = H[q]?) (he : va_at D vwCl (lo + hp.length, yent cA lo e) H1) : yAt D cA lo (hp ++ [e]) H1 := by
  refine ⟨by rw [hz, List.length_append]; rfl, fun i e1 hi => ?_⟩
  by_cases hl : i < hp.length
  · rw [List.getElem?_append_left hl] at hi
    exact (h.2 i e1 hi).kept (oq _ (by simp only []; omega))
  · rw [List.getElem?_append_right (by omega)] at hi
    have hz : i - hp.length < 1 := (List.getElem?_eq_some_iff.mp hi).1
    have hi0 : i = hp.length := by omega
    subst hi0
    rw [Nat.sub_self] at hi
    cases hi
    exact he
def yN : List (String × Nat × MethodName × String) := [("SentRoads", 41, yX6_init, "SentRoads"), ("SentRoads$Roads", 11, yX3_init, "SentRoads"), ("SentRoads$Tape", 27, yX0_init, "SentRoads"), ("SentRoads$Tape", 28, yX4_init, "SentRoads"), ("SentRoads$World", 37, yX3_init, "SentRoads"), ("SentRoads$World", 42, yX0_init, "SentRoads"), ("SentRoads$World", 43, yX1_init, "SentRoads"), ("SentRoads$World", 44, yX4_init, "SentRoads"), ("SentRoads$World", 45, yX2_init, "SentRoads")]
def yK (D : va_G) (cA : Nat → ClassId) (U : State) : Prop := zK D cA U ∧ (∀ q ∈ yN, va_Nw (.methodLinkNest q.1 q.2.1 q.2.2.1 q.2.2.2) U) ∧ ∀ t, 2 ≤ t → t < 7 → va_AO (zOb t) U
theorem yK.moved {D : va_G} {cA : Nat → ClassId} {s U : State} (hW : s.WarmedH U.vm) (h : yK D cA s) : yK D cA U := ⟨zK.moved hW h.1, fun q hq => va_Nw.warmM hW (h.2.1 q hq), fun t h1 h2 => va_AO.moved hW.alike (h.2.2 t h1 h2)⟩
def Y : zX → Nat → Nat → Nat → List (Option zV) → List zV → List yCell → Prop
  | (p, l, e, R, s, m, args, below, meth, c, nL, D, cA, ad, lo, cells, slots, Tg), cl, sl, pc, L, st, hp => ∀ (H : Heap) (locs : List Loc) (ls : Array Slot), yAt D cA lo hp H → va_S (fun q => lo ≤ q) s.heap H locs → lv_has ls nL (zlv (yad lo (ad 44 0)) 0 L) →
    W p l e R s m args below meth c H locs cl sl Tg (F0 m pc ls (st.map (zcv (yad lo (ad 44 0)))))
def yC : zX → ByteArray → String → String → Nat → Nat → Nat → Prop
  | (p, l, e, R, s, m, args, below, meth, c, nL, D, cA, ad, lo, cells, slots, Tg), cc, own, nm, d, mc, ms => p.tables.exec = Jvm.exec ∧ c.code = cc ∧ c.maxLocals = nL ∧ s.vm.findClass own = some m.cls ∧ (∀ w ∈ zT, w.before args s = true) ∧ yK D cA s ∧ meth.name = nm ∧ (d ≤ R.frames ∧ 40 * d ≤ R.locals) ∧ (R.cells = mc ∧ R.slots = ms)
def yval : zV → Int32 ⊕ Option Nat
  | .inl x => .inl x
  | .inr (.inl _) => .inl 0
  | .inr (.inr q) => .inr (some q.2)
def yfit : FieldType → zV → Bool
  | .int, .inl _ => true
  | .boolean, .inl x => x == 0 || x == 1
  | .object _, .inr (.inr q) => q.1 == 0
  | .array _, .inr (.inr q) => q.1 == 0
  | _, _ => false
theorem yfit_ok {lo b : Nat} {ty : FieldType} {v : zV} (h : yfit ty v = true) : narrow ty (zcv (yad lo b) v) = zcv (yad lo b) v ∧ fits ty (zcv (yad lo b) v) = true ∧ zcv (yad lo b) v = yfv lo (yval v) := by
  rcases v with x | x | x
  · cases ty <;> simp [yfit] at h
    · exact ⟨rfl, rfl, rfl⟩
    · exact ⟨(z_bool h).1, (z_bool h).2, rfl⟩
  · cases ty <;> simp [yfit] at h
  · obtain ⟨k, a⟩ := x
    cases ty <;> simp [yfit] at h <;> subst h <;> exact ⟨rfl, rfl, rfl⟩
/-- a write of a field in a constructor -/
def yFw (own : String) (ci j : Nat) (ty : FieldType) : Prop := ∃ (C : String) (T : u_T) (N : Nat) (ty0 : Nat → FieldType), vwCl[ci]? = some (C, T, N) ∧ (∀ k, k < N → parseFieldDescriptor (T k).2.2.1 = some (ty0 k)) ∧ (∀ a, a < N → ∀ b, b < N → a ≠ b → (T a).2.1 ≠ (T b).2.1) ∧ (T j).1 = own ∧ parseFieldDescriptor (T j).2.2.1 = some ty
/-- a new object -/
def yNw (own : String) (idx ci N : Nat) (fs : List (Int32 ⊕ Option Nat)) : Prop := ∃ (C : String) (T : u_T) (ty : Nat → FieldType), vwCl[ci]? = some (C, T, N) ∧ (∀ w ∈ u_ws C T N, w ∈ zT) ∧ (∀ k, k < N → parseFieldDescriptor (T k).2.2.1 = some (ty k)) ∧ (∀ lo j, j < N → defaultValue (ty j) = vp_V (fs.map (yfv lo)) j) ∧ Cond.classLink own idx C ∈ zT ∧ Cond.instantiable C N ∈ zT ∧ Cond.initialized C ∈ zT
section YR
variable {X : zX} {cc : ByteArray} {own nm : String} {d mc ms cl sl : Nat} {pc : Nat} {L : List (Option zV)} {st : List zV} {hp : List yCell}
theorem y_iconst {n : Int} (C : yC X cc own nm d mc ms) (hd : decode cc pc = .ok (.iconst n, 1)) (kk : Y X cl sl (pc + 1) L (zi (Int32.ofInt n) :: st) hp) : Y X cl sl pc L st hp := by
  obtain ⟨p, l, e, R, s, m, args, below, meth, c, nL, D, cA, ad, lo, cells, slots, Tg⟩ := X
  obtain ⟨hx, hb, hml, hown, hts, hK, hmn, hR, hcs⟩ := C
  intro H locs ls hP hS hl
  exact lv_iconst hx hb hd rfl (kk H locs ls hP hS hl)
theorem y_bipush {n : Int} (C : yC X cc own nm d mc ms) (hd : decode cc pc = .ok (.bipush n, 2)) (kk : Y X cl sl (pc + 2) L (zi ((Int8.ofInt n).toInt32) :: st) hp) : Y X cl sl pc L st hp := by
  obtain ⟨p, l, e, R, s, m, args, below, meth, c, nL, D, cA, ad, lo, cells, slots, Tg⟩ := X
  obtain ⟨hx, hb, hml, hown, hts, hK, hmn, hR, hcs⟩ := C
  intro H locs ls hP hS hl
  exact lv_bipush hx hb hd rfl (kk H locs ls hP hS hl)
theorem y_sipush {n : Int} (C : yC X cc own nm d mc ms) (hd : decode cc pc = .ok (.sipush n, 3)) (kk : Y X cl sl (pc + 3) L (zi ((Int16.ofInt n).toInt32) :: st) hp) : Y X cl sl pc L st hp := by
  obtain ⟨p, l, e, R, s, m, args, below, meth, c, nL, D, cA, ad, lo, cells, slots, Tg⟩ := X
  obtain ⟨hx, hb, hml, hown, hts, hK, hmn, hR, hcs⟩ := C
  intro H locs ls hP hS hl
  exact lv_sipush hx hb hd rfl (kk H locs ls hP hS hl)
theorem y_iload {k : Fin 4} {x : Int32} (C : yC X cc own nm d mc ms) (hd : decode cc pc = .ok (.iload_n k, 1)) (hi : L[(k : Nat)]? = some (some (zi x))) (kk : Y X cl sl (pc + 1) L (zi x :: st) hp) : Y X cl sl pc L st hp := by
  obtain ⟨p, l, e, R, s, m, args, below, meth, c, nL, D, cA, ad, lo, cells, slots, Tg⟩ := X
  obtain ⟨hx, hb, hml, hown, hts, hK, hmn, hR, hcs⟩ := C
  intro H locs ls hP hS hl
  exact lv_iload_n hx hb hd rfl (zat hl hi) (kk H locs ls hP hS hl)
theorem y_aload {k : Fin 4} {kd nn : Nat} (C : yC X cc own nm d mc ms) (hd : decode cc pc = .ok (.aload_n k, 1)) (hi : L[(k : Nat)]? = some (some (zr kd nn))) (kk : Y X cl sl (pc + 1) L (zr kd nn :: st) hp) : Y X cl sl pc L st hp := by
  obtain ⟨p, l, e, R, s, m, args, below, meth, c, nL, D, cA, ad, lo, cells, slots, Tg⟩ := X
  obtain ⟨hx, hb, hml, hown, hts, hK, hmn, hR, hcs⟩ := C
  intro H locs ls hP hS hl
  exact lv_aload_n hx hb hd rfl (zat hl hi) (kk H locs ls hP hS hl)
theorem y_istore {k : Fin 4} {x : Int32} (C : yC X cc own nm d mc ms) (hd : decode cc pc = .ok (.istore_n k, 1)) (hn : (k : Nat) < znL X) (ho : zno L k = true) (kk : Y X cl sl (pc + 1) (L.set k (some (zi x))) st hp) : Y X cl sl pc L (zi x :: st) hp := by
  obtain ⟨p, l, e, R, s, m, args, below, meth, c, nL, D, cA, ad, lo, cells, slots, Tg⟩ := X
  obtain ⟨hx, hb, hml, hown, hts, hK, hmn, hR, hcs⟩ := C
  intro H locs ls hP hS hl
  exact lv_istore_n hx hb hd rfl hl hn rfl (fun ls2 hl2 => kk H locs ls2 hP hS (lv_less hl2 (zset ho)))
theorem y_astore {k : Fin 4} {kd nn : Nat} (C : yC X cc own nm d mc ms) (hd : decode cc pc = .ok (.astore_n k, 1)) (hn : (k : Nat) < znL X) (ho : zno L k = true) (kk : Y X cl sl (pc + 1) (L.set k (some (zr kd nn))) st hp) : Y X cl sl pc L (zr kd nn :: st) hp := by
  obtain ⟨p, l, e, R, s, m, args, below, meth, c, nL, D, cA, ad, lo, cells, slots, Tg⟩ := X
  obtain ⟨hx, hb, hml, hown, hts, hK, hmn, hR, hcs⟩ := C
  intro H locs ls hP hS hl
  exact lv_astore_n hx hb hd rfl hl hn rfl (fun ls2 hl2 => kk H locs ls2 hP hS (lv_less hl2 (zset ho)))
theorem y_iinc {k : Nat} {n : Int} {x : Int32} (C : yC X cc own nm d mc ms) (hd : decode cc pc = .ok (.iinc k n, 3)) (hi : L[k]? = some (some (zi x))) (hn : k < znL X) (ho : zno L k = true) (kk : Y X cl sl (pc + 3) (L.set k (some (zi (x + Int32.ofInt n)))) st hp) : Y X cl sl pc L st hp := by
  obtain ⟨p, l, e, R, s, m, args, below, meth, c, nL, D, cA, ad, lo, cells, slots, Tg⟩ := X
  obtain ⟨hx, hb, hml, hown, hts, hK, hmn, hR, hcs⟩ := C
  intro H locs ls hP hS hl
  have hm := zlv_mem (yad lo (ad 44 0)) L 0 k (zi x) hi
  rw [Nat.zero_add] at hm
  obtain ⟨i, hi2⟩ := List.getElem?_of_mem hm
  exact lv_iinc hx hb hd hl hi2 rfl hn rfl (fun ls2 hl2 => kk H locs ls2 hP hS (lv_less hl2 (zset (v := zi (x + Int32.ofInt n)) ho)))
theorem y_dup {k n : Nat} (C : yC X cc own nm d mc ms) (hd : decode cc pc = .ok (.dup, 1)) (kk : Y X cl sl (pc + 1) L (zr k n :: zr k n :: st) hp) : Y X cl sl pc L (zr k n :: st) hp := by
  obtain ⟨p, l, e, R, s, m, args, below, meth, c, nL, D, cA, ad, lo, cells, slots, Tg⟩ := X
  obtain ⟨hx, hb, hml, hown, hts, hK, hmn, hR, hcs⟩ := C
  intro H locs ls hP hS hl
  exact lv_dup hx hb hd rfl (kk H locs ls hP hS hl)
theorem y_goto {off : Int} (tgt : Nat) (C : yC X cc own nm d mc ms) (hd : decode cc pc = .ok (.goto off, 3)) (ht : (pc : Int) + off = (tgt : Int)) (kk : Y X cl sl tgt L st hp) : Y X cl sl pc L st hp := by
  obtain ⟨p, l, e, R, s, m, args, below, meth, c, nL, D, cA, ad, lo, cells, slots, Tg⟩ := X
  obtain ⟨hx, hb, hml, hown, hts, hK, hmn, hR, hcs⟩ := C
  intro H locs ls hP hS hl
  exact lv_goto hx hb hd ht (kk H locs ls hP hS hl)
theorem y_icmpge {x y : Int32} {off : Int} (tgt : Nat) (C : yC X cc own nm d mc ms) (hd : decode cc pc = .ok (.if_icmp .ge off, 3)) (ht : (pc : Int) + off = (tgt : Int)) (kt : y ≤ x → Y X cl sl tgt L st hp) (kf : ¬ y ≤ x → Y X cl sl (pc + 3) L st hp) : Y X cl sl pc L (zi y :: zi x :: st) hp := by
  obtain ⟨p, l, e, R, s, m, args, below, meth, c, nL, D, cA, ad, lo, cells, slots, Tg⟩ := X
  obtain ⟨hx, hb, hml, hown, hts, hK, hmn, hR, hcs⟩ := C
  intro H locs ls hP hS hl
  exact lv_icmp_ge hx hb hd ht (fun h => kt h H locs ls hP hS hl) (fun h => kf h H locs ls hP hS hl)
theorem y_new {idx ci N : Nat} {fs : List (Int32 ⊕ Option Nat)} (C : yC X cc own nm d mc ms) (hw : yNw own idx ci N fs) (h1 : cl + 1 ≤ mc) (h2 : sl + N ≤ ms) (hd : decode cc pc = .ok (.new idx, 3)) (kk : Y X (cl + 1) (sl + N) (pc + 3) L (zr 0 hp.length :: st) (hp ++ [.inl (ci, fs)])) : Y X cl sl pc L st hp := by
  obtain ⟨p, l, e, R, s, m, args, below, meth, c, nL, D, cA, ad, lo, cells, slots, Tg⟩ := X
  obtain ⟨hx, hb, hml, hown, hts, hK, hmn, hR, hcs⟩ := C
  intro H locs ls hP hS hl
  obtain ⟨Cn, Tn, ty, hci, hin, hty, hdf, w1, w2, w3⟩ := hw
  have hKn := hK.1.1.1 ci _ hci
  refine W.newcK hx hb hown (hts _ w1) (hts _ w2) (hts _ w3) rfl hd (by rw [hcs.1]; exact h1) (by rw [hcs.2]; exact h2) hKn.2.1 hP.1 fun H1 kC hkC e1 z1 o1 => ?_
  refine kk H1 locs ls (hP.push z1 o1 ?_) ⟨Nat.le_trans hS.1 (by rw [z1, hP.1]; omega), fun q g1 g2 => (o1 q (by rw [← hP.1]; exact Nat.lt_of_lt_of_le g1 hS.1)).trans (hS.2.1 q g1 g2), hS.2.2⟩ hl
  exact ⟨_, hci, (u_born ty hts hin hKn hkC e1 hty).to (hdf lo)⟩
theorem y_newa {t N : Nat} {n : Int32} {atype : ArrayType} (C : yC X cc own nm d mc ms) (hw : Cond.arrayClass (newarray.typeOf atype) ∈ zT) (ht : newarray.typeOf atype = zty t ∧ t < 2) (hn : ¬ n < 0) (hN : n.toNatClampNeg = N) (hby : N * 4 ≤ 536870912) (h1 : cl + 1 ≤ mc) (h2 : sl + N ≤ ms) (hd : decode cc pc = .ok (.newarray atype, 2)) (kk : Y X (cl + 1) (sl + N) (pc + 2) L (zr 0 hp.length :: st) (hp ++ [.inr (t, N, [])])) : Y X cl sl pc L (zi n :: st) hp := by
  obtain ⟨p, l, e, R, s, m, args, below, meth, c, nL, D, cA, ad, lo, cells, slots, Tg⟩ := X
  obtain ⟨hx, hb, hml, hown, hts, hK, hmn, hR, hcs⟩ := C
  intro H locs ls hP hS hl
  have hbytes : N * componentBytes (newarray.typeOf atype) ≤ 536870912 := by
    rw [ht.1]
    rcases (show t = 0 ∨ t = 1 by omega) with rfl | rfl
    · exact hby
    · refine Nat.le_trans (Nat.mul_le_mul_left N ?_) hby
      decide
  refine va_newaK hx hb (hts _ hw) rfl hd rfl hn hN hbytes (by rw [hcs.1]; exact h1) (by rw [hcs.2]; exact h2) hP.1 fun H1 cB e1 z1 o1 hAr hNm => ?_
  have hKt := (hK.1.1.2 t _ (ztys_at cA (by omega))).2
  have hcB : cB = cA t := by
    rw [ht.1] at hNm
    rcases (show t = 0 ∨ t = 1 by omega) with rfl | rfl
    · exact Option.some.inj (hNm.symm.trans hKt)
    · exact Option.some.inj (hNm.symm.trans hKt)
  subst hcB
  refine kk H1 locs ls (hP.push z1 o1 ?_) ⟨Nat.le_trans hS.1 (by rw [z1, hP.1]; omega), fun q g1 g2 => (o1 q (by rw [← hP.1]; exact Nat.lt_of_lt_of_le g1 hS.1)).trans (hS.2.1 q g1 g2), hS.2.2⟩ hl
  show H1[_]? = some (vp_cell _ (N, _))
  rw [if_pos ht.2, vp_cell_i, e1, ht.1]
  rcases (show t = 0 ∨ t = 1 by omega) with rfl | rfl <;> rfl
theorem y_anew {t N idx : Nat} {n : Int32} (C : yC X cc own nm d mc ms) (hw : Cond.classLink own idx (zOb t) ∈ zT) (ht : 2 ≤ t ∧ t < 7) (hn : ¬ n < 0) (hN : n.toNatClampNeg = N) (hby : N * 4 ≤ 536870912) (h1 : cl + 1 ≤ mc) (h2 : sl + N ≤ ms) (hd : decode cc pc = .ok (.anewarray idx, 3)) (kk : Y X (cl + 1) (sl + N) (pc + 3) L (zr 0 hp.length :: st) (hp ++ [.inr (t, N, [])])) : Y X cl sl pc L (zi n :: st) hp := by
  obtain ⟨p, l, e, R, s, m, args, below, meth, c, nL, D, cA, ad, lo, cells, slots, Tg⟩ := X
  obtain ⟨hx, hb, hml, hown, hts, hK, hmn, hR, hcs⟩ := C
  intro H locs ls hP hS hl
  subst hN
  have hzt : zty t = .object (zOb t) := by
    rcases (show t = 2 ∨ t = 3 ∨ t = 4 ∨ t = 5 ∨ t = 6 by omega) with rfl | rfl | rfl | rfl | rfl <;> rfl
  have hKt := (hK.1.1.2 t _ (ztys_at cA ht.2)).2
  simp only [hzt] at hKt
  obtain ⟨kB, comp, g1, g2, g3, g4⟩ := hKt
  refine W.anew hx hb hown (hts _ hw) (va_AO.use (hK.2.2 t ht.1 ht.2)) rfl hd rfl hn hby (by rw [hcs.1]; exact h1) (by rw [hcs.2]; exact h2) fun cB kA comp2 f1 f2 f3 f4 => ?_
  have hcB : cB = cA t := Option.some.inj (f1.symm.trans g4)
  subst hcB
  generalize hH1 : H.push ({ cls := cA t, slots := Array.replicate n.toNatClampNeg .null, vm := .none } : Cell) = H1
  have z1 : H1.size = lo + hp.length + 1 := by rw [← hH1, Array.size_push, hP.1]
  have e1 : H1[lo + hp.length]? = some (arrV (cA t) n.toNatClampNeg (fun _ => .null)) := by rw [← hH1, ← hP.1, Array.getElem?_push_size, ← arrV_new]
  have o1 : ∀ q : Nat, q < lo + hp.length → H1[q]? = H[q]? := fun q hq => by rw [← hH1, Array.getElem?_push, if_neg (by rw [hP.1]; omega)]
  have hz : ({ method := m, pc := pc + 3, locals := ls, stack := Value.ref H.size :: List.map (zcv (yad lo (ad 44 0))) st, locked := none } : JFrame) = F0 m (pc + 3) ls ((zr 0 hp.length :: st).map (zcv (yad lo (ad 44 0)))) := by rw [hP.1]; rfl
  refine W.eq hz ?_
  refine kk H1 locs ls (hP.push z1 o1 ?_) ⟨Nat.le_trans hS.1 (by rw [z1, hP.1]; omega), fun q g1 g2 => (o1 q (by rw [← hP.1]; exact Nat.lt_of_lt_of_le g1 hS.1)).trans (hS.2.1 q g1 g2), hS.2.2⟩ hl
  show H1[_]? = some (vp_cell _ (_, _))
  rw [if_neg (by omega), vp_cell_q, e1]
  rfl
theorem y_getR {a idx ci j b : Nat} {fs : List (Int32 ⊕ Option Nat)} (C : yC X cc own nm d mc ms) (hF : zFl own idx ci j) (ha : hp[a]? = some (.inl (ci, fs))) (hj : fs[j]? = some (.inr (some b))) (hd : decode cc pc = .ok (.getfield idx, 3)) (kk : Y X cl sl (pc + 3) L (zr 0 b :: st) hp) : Y X cl sl pc L (zr 0 a :: st) hp := by
  obtain ⟨p, l, e, R, s, m, args, below, meth, c, nL, D, cA, ad, lo, cells, slots, Tg⟩ := X
  obtain ⟨hx, hb, hml, hown, hts, hK, hmn, hR, hcs⟩ := C
  intro H locs ls hP hS hl
  obtain ⟨Cn, Tn, N, h1, h2, h3, h4⟩ := hF
  have hv := hP.2 a _ ha
  have hg : (fs.map (yfv lo))[j]? = some (.ref (lo + b)) := by rw [List.getElem?_map, hj]; rfl
  exact va_get hx hb hts h3 hown hK.1.1 (zP1 hv) 0 rfl h1 j h2 (hts _ h4) (fun _ h => h) hg hd (kk H locs ls hP hS hl)
theorem y_put {a idx ci j : Nat} {v : zV} {ty : FieldType} {fs : List (Int32 ⊕ Option Nat)} (C : yC X cc own nm d mc ms) (hF : zFl own idx ci j) (hFw : yFw own ci j ty) (hin2 : nm = "<init>") (hfv : yfit ty v = true) (ha : hp[a]? = some (.inl (ci, fs))) (hlen : j < fs.length) (hd : decode cc pc = .ok (.putfield idx, 3)) (kk : Y X cl sl (pc + 3) L st (hp.set a (.inl (ci, fs.set j (yval v))))) : Y X cl sl pc L (v :: zr 0 a :: st) hp := by
  obtain ⟨p, l, e, R, s, m, args, below, meth, c, nL, D, cA, ad, lo, cells, slots, Tg⟩ := X
  obtain ⟨hx, hb, hml, hown, hts, hK, hmn, hR, hcs⟩ := C
  intro H locs ls hP hS hl
  obtain ⟨Cn, Tn, N, h1, hk, hin, hlk⟩ := hF
  obtain ⟨Cm, Tm, M, ty0, g1, hty, hnm, hdecl, hde⟩ := hFw
  cases h1.symm.trans g1
  obtain ⟨hnr, hft, hcv⟩ := yfit_ok (lo := lo) (b := ad 44 0) hfv
  have hv := hP.2 a _ ha
  have hap := va_apart (own := own) hts hin ty0 hty hnm hK.1.1 h1
  obtain ⟨r, h1', cell, q1, q2, q3, q4⟩ := hv
  have hr : r = (Cn, Tn, N) := Option.some.inj (h1'.symm.trans h1)
  subst hr
  obtain ⟨hS9, hfc, kC, hkC, hkind⟩ := hK.1.1.1 ci _ h1
  obtain ⟨cf, kf, fi, fd, hi, hsl⟩ := hS9 j hk
  have hst := (u_facts hfc hkC (u_lays hts hin hk) hi).1
  have hend : ∀ H' : Heap, H'[lo + a]? = some (cell.setSlot fd.slot (zcv (yad lo (ad 44 0)) v)) → H'.size = H.size → (∀ q, q ≠ lo + a → H'[q]? = H[q]?) → W p l e R s m args below meth c H' (locs ++ [⟨lo + a, fd.slot⟩]) cl sl Tg (F0 m (pc + 3) ls (st.map (zcv (yad lo (ad 44 0))))) := by
    intro H' e1 e2 e3
    rw [hsl] at e1 ⊢
    refine kk H' _ ls (hP.set ha e2 e3 ?_) (hS.put e2 e3 (Nat.le_add_right _ _)) hl
    refine ⟨_, h1, t_OB.to (V := updV (vp_V (fs.map (yfv lo))) j (zcv (yad lo (ad 44 0)) v)) ⟨_, e1, q2, q3, t_set q4 hap hk _⟩ (fun i _ => ?_)⟩
    rw [vp_updV_set (by rw [List.length_map]; exact hlen), hcv]
    show vp_V ((fs.map (yfv lo)).set j (yfv lo (yval v))) i = vp_V ((fs.set j (yval v)).map (yfv lo)) i
    rw [List.map_set]
  have hlay := hts _ (hin _ (u_in_lay hk))
  unfold u_lay at hlay
  by_cases hfin : (Tn j).2.2.2 = true
  · rw [if_pos hfin] at hlay
    have hcf : m.cls = cf := by
      obtain ⟨_, _, c', _, _, _, -, -, hf', -, -, -, hown2, -⟩ := Cond.laysFinal_spec hlay
      have e1 : c' = cf := by have := hi.symm.trans hf'; simp at this; exact this.1.symm
      rw [hdecl] at hown2
      rw [← e1]; exact Option.some.inj (hown.symm.trans hown2)
    have h6 := u_fits hfc hkC hkind (Or.inr hlay) hi hde hnr hft
    exact W.putFinK hx hb hown (hts _ hlk) hi hst hcf (by rw [hmn]; exact hin2) (by rw [q2]; exact h6) q1 q3 (by rw [hsl]; exact k2_hasslot (q4 j hk)) rfl rfl hd hend
  · rw [if_neg hfin] at hlay
    have h6 := u_store hfc hkC hkind hlay hi hde hnr hft
    exact W.putK hx hb (f := fd) ⟨hown, hts _ hlk, ⟨_, _, _, hi⟩, hst⟩ (by rw [q2]; exact h6) q1 q3 (by rw [hsl]; exact k2_hasslot (q4 j hk)) rfl rfl hd hend
theorem y_aast {a v t len ci : Nat} {i : Int32} {w : List (Nat × (Int32 ⊕ Nat))} {vs : List (Int32 ⊕ Option Nat)} (C : yC X cc own nm d mc ms) (ht : 2 ≤ t ∧ t < 7) (ha : hp[a]? = some (.inr (t, len, w))) (hv : hp[v]? = some (.inl (ci, vs))) (hci : (vwCl[ci]?).map (fun q => q.1) = some (zOb t)) (hin : vp_in i len) (hd : decode cc pc = .ok (.aastore, 1)) (kk : Y X cl sl (pc + 1) L st (hp.set a (.inr (t, len, (i.toNatClampNeg, .inr v) :: w)))) : Y X cl sl pc L (zr 0 v :: zi i :: zr 0 a :: st) hp := by
  obtain ⟨p, l, e, R, s, m, args, below, meth, c, nL, D, cA, ad, lo, cells, slots, Tg⟩ := X
  obtain ⟨hx, hb, hml, hown, hts, hK, hmn, hR, hcs⟩ := C
  intro H locs ls hP hS hl
  have hlt : i.toNatClampNeg < len := Nat.not_le.mp fun q => hin (Or.inr q)
  have h0 : ¬ i < 0 := fun q => hin (Or.inl q)
  have hzt : zty t = .object (zOb t) := by
    rcases (show t = 2 ∨ t = 3 ∨ t = 4 ∨ t = 5 ∨ t = 6 by omega) with rfl | rfl | rfl | rfl | rfl <;> rfl
  have hKt := (hK.1.1.2 t _ (ztys_at cA ht.2)).2
  simp only [hzt] at hKt
  obtain ⟨kA, comp, k1, k2, k3, -⟩ := hKt
  obtain ⟨q, hq1, hq2⟩ := Option.map_eq_some_iff.mp hci
  obtain ⟨r', hr', cellV, g1, g2, g3, -⟩ := hP.2 v _ hv
  have hcls := (hK.1.1.1 ci q hq1).2
  rw [hq2] at hcls
  have hcomp : comp = D.1 ci := Option.some.inj (k3.symm.trans hcls.1)
  subst hcomp
  obtain ⟨kC, hkC, -⟩ := id hcls.2
  have hA := hP.2 a _ ha
  have hA2 : H[lo + a]? = some (arrV (cA t) len (fun j => va_rf (yrr lo w j))) := by
    have h9 : H[lo + a]? = some (vp_cell (cA t) (len, if t < 2 then .inl (yri w) else .inr (.inr (.inr (.inr (yrr lo w)))))) := hA
    rw [if_neg (by omega), vp_cell_q] at h9
    exact h9
  refine W.aast hx hb hA2 (fun q h => by cases h) (fun h => by cases h) k1 k2 rfl hkC ⟨h0, by show _ < (arrV _ _ _).slots.size; rw [arrV_size]; exact hlt⟩ g1 (fun q h => by rw [g3] at h; cases h) (by rw [g2]; exact hkC) (by rw [g2]; exact va_assign hcls) rfl rfl hd fun H1 e z oq => ?_
  refine kk H1 _ ls (hP.set ha z oq ?_) (hS.put z oq (Nat.le_add_right _ _)) hl
  show H1[lo + a]? = some (vp_cell (cA t) (len, if t < 2 then _ else _))
  rw [if_neg (by omega), vp_cell_q, e, arrV_store]
  congr 2
  funext x
  by_cases hq : i.toNatClampNeg = x
  · subst hq
    simp [updV, yrr, ylk, va_rf]
  · have hq' : ¬ x = i.toNatClampNeg := fun z => hq z.symm
    simp [updV, yrr, ylk, hq, hq']
theorem y_iast {a len : Nat} {i x : Int32} {w : List (Nat × (Int32 ⊕ Nat))} (C : yC X cc own nm d mc ms) (ha : hp[a]? = some (.inr (0, len, w))) (hin : vp_in i len) (hd : decode cc pc = .ok (.iastore, 1)) (kk : Y X cl sl (pc + 1) L st (hp.set a (.inr (0, len, (i.toNatClampNeg, .inl x) :: w)))) : Y X cl sl pc L (zi x :: zi i :: zr 0 a :: st) hp := by
  obtain ⟨p, l, e, R, s, m, args, below, meth, c, nL, D, cA, ad, lo, cells, slots, Tg⟩ := X
  obtain ⟨hx, hb, hml, hown, hts, hK, hmn, hR, hcs⟩ := C
  intro H locs ls hP hS hl
  have hA := hP.2 a _ ha
  have hA2 : H[lo + a]? = some (arrV (cA 0) len (fun j => .int (yri w j))) := hA
  refine W.iast hx hb hA2 ((hK.1.1.2 0 _ (ztys_at cA (by decide))).1 len (fun j => .int (yri w j))) (fun q => by cases q) (by show ¬ (i < 0 ∨ (arrV _ _ _).slots.size ≤ _); rw [arrV_size]; exact hin) rfl rfl hd fun H1 e z oq => ?_
  refine kk H1 _ ls (hP.set ha z oq ?_) (hS.put z oq (Nat.le_add_right _ _)) hl
  show H1[lo + a]? = some (vp_cell (cA 0) (len, .inl _))
  rw [vp_cell_i, e, arrV_store]
  congr 2
  funext y
  by_cases hq : i.toNatClampNeg = y
  · subst hq
    simp [updV, yri, ylk]
  · have hq' : ¬ y = i.toNatClampNeg := fun z => hq z.symm
    simp [updV, yri, ylk, hq, hq']
theorem y_oinit {a idx : Nat} (C : yC X cc own nm d mc ms) (h1 : Cond.methodLink own idx Lib.objectInit ∈ zT) (h2 : Cond.instanceMethod Lib.objectInit ∈ zT) (h3 : Cond.code Lib.objectInit ⟨#[0xb1]⟩ 1 none ∈ zT) (hdd : 1 ≤ d) (hW : zsz st ≤ 8) (hd : decode cc pc = .ok (.invokespecial idx, 3)) (kk : Y X cl sl (pc + 3) L st hp) : Y X cl sl pc L (zr 0 a :: st) hp := by
  obtain ⟨p, l, e, R, s, m, args, below, meth, c, nL, D, cA, ad, lo, cells, slots, Tg⟩ := X
  obtain ⟨hx, hb, hml, hown, hts, hK, hmn, hR, hcs⟩ := C
  intro H locs ls hP hS hl
  refine W.objInit hx hb hown (hts _ h1) (hts _ h2) (hts _ h3) rfl (by rw [hml]; exact hl.1) rfl hd (Nat.le_trans hdd hR.1) ?_ (kk H locs ls hP hS hl)
  have := lv_room (m := m) (pc := pc) (ls := ls) (rest := (zr 0 a :: st).map (zcv (yad lo (ad 44 0)))) (st := st.map (zcv (yad lo (ad 44 0)))) (by rw [zsz_ok]; exact hW)
  omega
end YR
