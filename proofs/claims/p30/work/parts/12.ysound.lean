set_option maxHeartbeats 4000000 in
theorem ystp_ok {X : zX} {mi d cl sl pc cl' sl' pc' : Nat} {L L' : List (Option zV)} {st st' : List zV} {hp hp' : List yCell} {q : yop} (C : yC X (yCc mi) (yY mi).cls (yY mi).name d (ymc mi) (yms mi)) (hn : znL X = yNL mi) (hd1 : 1 ≤ d) (hq : yOK mi pc q) (h : ystp mi cl sl pc L st hp q = some (cl', sl', pc', L', st', hp')) (kk : Y X cl' sl' pc' L' st' hp') : Y X cl sl pc L st hp := by
  obtain ⟨op, a, b, v⟩ := q
  match op, hq, h with
  | 0, hq, h =>
    obtain ⟨k, rfl, hdc⟩ := hq
    simp only [ystp] at h
    split at h
    · rename_i x hL
      cases h
      exact y_aload C hdc hL kk
    · cases h
  | 1, hq, h =>
    obtain ⟨k, rfl, hdc⟩ := hq
    simp only [ystp] at h
    split at h
    · rename_i x hL
      cases h
      exact y_iload C hdc hL kk
    · cases h
  | 2, hq, h =>
    obtain ⟨k, rfl, hdc⟩ := hq
    simp only [ystp] at h
    split at h
    · split at h
      · rename_i hc
        cases h
        exact y_istore C hdc (by rw [hn]; exact hc.1) hc.2 kk
      · cases h
    · cases h
  | 3, hq, h =>
    obtain ⟨k, rfl, hdc⟩ := hq
    simp only [ystp] at h
    split at h
    · split at h
      · rename_i hc
        cases h
        exact y_astore C hdc (by rw [hn]; exact hc.1) hc.2 kk
      · cases h
    · cases h
  | 4, hq, h =>
    simp only [ystp] at h
    cases h
    exact y_iconst C hq kk
  | 5, hq, h =>
    simp only [ystp] at h
    cases h
    exact y_bipush C hq kk
  | 6, hq, h =>
    simp only [ystp] at h
    cases h
    exact y_sipush C hq kk
  | 7, hq, h =>
    simp only [ystp] at h
    split at h
    · rename_i x hL
      split at h
      · rename_i hc
        cases h
        exact y_iinc C hq hL (by rw [hn]; exact hc.1) hc.2 kk
      · cases h
    · cases h
  | 8, hq, h =>
    obtain ⟨off, hdc, ht⟩ := hq
    simp only [ystp] at h
    cases h
    exact y_goto _ C hdc ht kk
  | 9, hq, h =>
    obtain ⟨off, hdc, ht⟩ := hq
    simp only [ystp] at h
    split at h
    · split at h
      · rename_i hc
        cases h
        exact y_icmpge _ C hdc ht (fun _ => kk) (fun hx => absurd hc hx)
      · rename_i hc
        cases h
        exact y_icmpge _ C hdc ht (fun hx => absurd hx hc) (fun _ => kk)
    · cases h
  | 10, hq, h =>
    obtain ⟨idx, hdc, hw⟩ := hq
    simp only [ystp] at h
    split at h
    · rename_i hc
      cases h
      exact y_new C hw hc.1 hc.2 hdc kk
    · cases h
  | 11, hq, h =>
    simp only [ystp] at h
    split at h
    · cases h
      exact y_dup C hq kk
    · cases h
  | 12, hq, h =>
    obtain ⟨idx, hdc, hw⟩ := hq
    simp only [ystp] at h
    split at h
    · split at h
      · rename_i hc
        cases h
        exact y_oinit C hw yo1 yo2 hd1 hc hdc kk
      · cases h
    · cases h
  | 13, hq, h => simp [ystp] at h
  | 14, hq, h => simp [ystp] at h
  | 15, hq, h => simp [ystp] at h
  | 16, hq, h =>
    obtain ⟨idx, hdc, hF, hFw, hnm⟩ := hq
    simp only [ystp] at h
    split at h
    · split at h
      · rename_i ha
        split at h
        · rename_i hc
          obtain ⟨rfl, h2, h3⟩ := hc
          cases h
          exact y_put C hF hFw hnm h2 ha h3 hdc kk
        · cases h
      · cases h
    · cases h
  | 17, hq, h =>
    obtain ⟨idx, hdc, hF⟩ := hq
    simp only [ystp] at h
    split at h
    · split at h
      · rename_i ha
        split at h
        · rename_i hj
          split at h
          · rename_i hc
            cases h
            subst hc
            exact y_getR C hF ha hj hdc kk
          · cases h
        · cases h
      · cases h
    · cases h
  | 18, hq, h =>
    obtain ⟨at0, hdc, hw, ht⟩ := hq
    simp only [ystp] at h
    split at h
    · split at h
      · rename_i hc
        cases h
        exact y_newa C hw ht hc.1 rfl hc.2.1 hc.2.2.1 hc.2.2.2 hdc kk
      · cases h
    · cases h
  | 19, hq, h =>
    obtain ⟨idx, hdc, hw, ht⟩ := hq
    simp only [ystp] at h
    split at h
    · split at h
      · rename_i hc
        cases h
        exact y_anew C hw ht hc.1 rfl hc.2.1 hc.2.2.1 hc.2.2.2 hdc kk
      · cases h
    · cases h
  | 20, hq, h =>
    simp only [ystp] at h
    split at h
    · split at h
      · rename_i ha hv
        split at h
        · rename_i hc
          obtain ⟨h1, rfl, h3⟩ := hc
          cases h
          exact y_aast C h1 ha hv (yoc_ok h1) h3 hq kk
        · cases h
      · cases h
    · cases h
  | 21, hq, h =>
    simp only [ystp] at h
    split at h
    · split at h
      · rename_i ha
        split at h
        · rename_i hc
          cases h
          exact y_iast C ha hc hq kk
        · cases h
      · cases h
    · cases h
  | 22, hq, h => simp [ystp] at h
  | n + 23, hq, h => exact absurd hq (by simp [yOK])
def yob (hp : List yCell) (x : Nat) : Bool := match hp[x]? with
  | some (.inl (10, _)) => true
  | _ => false
def yrun : Nat → Nat → Nat → Nat → Nat → Nat → List (Option zV) → List zV → List yCell → Option (List yCell)
  | 0, _, _, _, _, _, _, _, _ => none
  | n + 1, mi, d, cl, sl, pc, L, st, hp => match yfetch (yTb mi) pc with
    | none => none
    | some (op, a, b, v) =>
      if op = 22 then (if st = [] ∧ cl ≤ ymc mi ∧ sl ≤ yms mi then some hp else none)
      else if op = 13 ∨ op = 14 ∨ op = 15 then
        (match st.drop b with
         | .inr (.inr (0, x)) :: r =>
           if 2 ≤ d ∧ b ≤ st.length ∧ cl + ymc a ≤ ymc mi ∧ sl + yms a ≤ yms mi ∧ zsz r ≤ 8 ∧ (zarg (zr 0 x :: (st.take b).reverse)).length ≤ yNL a ∧ (op ≠ 15 ∨ yob hp x = true) then
             (match yrun n a (d - 1) 0 0 0 (zL0 (zr 0 x :: (st.take b).reverse) (yNL a)) [] hp with
             | some hp1 => yrun n mi d (cl + ymc a) (sl + yms a) (pc + 3) L r hp1
             | none => none)
           else none
         | _ => none)
      else match ystp mi cl sl pc L st hp (op, a, b, v) with
        | some (cl', sl', pc', L', st', hp') => yrun n mi d cl' sl' pc' L' st' hp'
        | none => none
def yPre (D : va_G) (cA : Nat → ClassId) (lo b : Nat) (as : List zV) (hp : List yCell) : Array Value → State → Prop := va_Pc (as.map (zcv (yad lo b))) (fun U => yK D cA U ∧ yAt D cA lo hp U.heap)
def yPost (D : va_G) (cA : Nat → ClassId) (lo : Nat) (hp : List yCell) : Array Value → State → Outcome → State → Prop := fun _ st o t => o = .returned none ∧ yAt D cA lo hp t.heap ∧ va_F (fun q => lo ≤ q) st t
def yroom (d mi : Nat) : Room := { frames := d, cells := ymc mi, slots := yms mi, locals := 40 * d }
def YM (d mi : Nat) (as : List zV) (hp hp' : List yCell) : Prop := ∀ (l : Launch) (D : va_G) (cA : Nat → ClassId) (lo b : Nat), Met l (yY mi) (.code (yY mi) (yCc mi) (yNL mi) none :: zT) (yroom d mi) (yPre D cA lo b as hp) (yPost D cA lo hp') (ymc mi) (yms mi) (fun q => lo ≤ q)
def yRet : zX → Nat → List yCell → Prop
  | (p, l, e, R, s, m, args, below, meth, c, nL, D, cA, ad, lo, cells, slots, Tg), mi, hp => meth.sig.returnType = none ∧ meth.locks = false ∧ Tg = MQ below (yPost D cA lo hp) args s (ymc mi) (yms mi) (fun q => lo ≤ q)
theorem ypl (mi : Nat) : plainName (yY mi).cls = true := by
  match mi with
  | 0 => decide +kernel
  | 1 => decide +kernel
  | 2 => decide +kernel
  | 3 => decide +kernel
  | 4 => decide +kernel
  | 5 => decide +kernel
  | 6 => decide +kernel
  | 7 => decide +kernel
  | 8 => decide +kernel
  | 9 => decide +kernel
  | 10 => decide +kernel
  | 11 => decide +kernel
  | n + 12 => exact (by decide +kernel : plainName yX0_init.cls = true)
theorem YM.intro {d mi : Nat} {as : List zV} {hp hp' : List yCell} (hlen : (zarg as).length ≤ yNL mi)
    (h : ∀ X : zX, yC X (yCc mi) (yY mi).cls (yY mi).name d (ymc mi) (yms mi) → yRet X mi hp' → znL X = yNL mi → Y X 0 0 0 (zL0 as (yNL mi)) [] hp) : YM d mi as hp hp' := by
  intro l D cA lo b
  refine Met.ofW (cc := yCc mi) (maxL := yNL mi) (ret := none) (ypl mi) rfl ?_
  intro p e s m args below meth c s₁ B hml hv
  obtain ⟨rfl, hK, hP⟩ := hv
  have hts0 := atoms_spec (ws := .code (yY mi) (yCc mi) (yNL mi) none :: zT) B.pre
  have hts : ∀ w ∈ zT, w.before (as.map (zcv (yad lo b))).toArray s = true := fun w hw => hts0 w (List.mem_cons_of_mem _ hw)
  have hZ := h (p, l, e, (headSpec (.code (yY mi) (yCc mi) (yNL mi) none :: zT) (yroom d mi)).room, s, m, (as.map (zcv (yad lo b))).toArray, below, meth, c, yNL mi, D, cA, yad lo b, lo, 0, 0, MQ below (yPost D cA lo hp') (as.map (zcv (yad lo b))).toArray s (ymc mi) (yms mi) (fun q => lo ≤ q))
    ⟨B.exec, B.bytes, hml, findClass_of_methodNamed B.named, hts, hK, (name_of_methodNamed B.named B.method).1, ⟨Nat.le_refl _, Nat.le_refl _⟩, rfl, rfl⟩ ⟨B.returns, B.notSynchronized, rfl⟩ rfl
  have hl := lv_entry (as.map (zcv (yad lo b))) (n := yNL mi) (by rw [zarg_len (yad lo b) as]; exact hlen)
  rw [lg_entry_eq]
  generalize (lg_sl (as.map (zcv (yad lo b))) ++ List.replicate (yNL mi - (lg_sl (as.map (zcv (yad lo b)))).length) Slot.unset).toArray = ls at hl ⊢
  refine hZ s.heap [] ls hP va_S.rf ?_
  rw [zL0, zlv_arg]
  exact hl
theorem y_ret {X : zX} {mi d cl sl pc : Nat} {L : List (Option zV)} {hp : List yCell} {own nm : String} {cc : ByteArray} {mc ms : Nat} (C : yC X cc own nm d mc ms) (hr : yRet X mi hp) (h1 : cl ≤ ymc mi) (h2 : sl ≤ yms mi) (hd : decode cc pc = .ok (.return_, 1)) : Y X cl sl pc L [] hp := by
  obtain ⟨p, l, e, R, s, m, args, below, meth, c, nL, D, cA, ad, lo, cells, slots, Tg⟩ := X
  obtain ⟨hx, hb, hml, hown, hts, hK, hmn, hR, hcs⟩ := C
  intro H locs ls hP hS hl
  obtain ⟨r1, r2, rfl⟩ := hr
  refine W.widen h1 h2 ?_
  exact W.vret hx hb r1 (fun t ht hW => ⟨rfl, by rw [ht]; exact hP, hS.F ht⟩) hS.2.2 hd r2
theorem yBlind {D : va_G} {cA : Nat → ClassId} {lo b : Nat} {as : List zV} {hp : List yCell} : FrameBlind (yPre D cA lo b as hp) := by
  intro a U g mk h
  obtain ⟨h1, h2, h3⟩ := h
  exact ⟨h1, ⟨⟨va_K.moved (u := U) (U := U.calling g mk a) (Vm.Alike.refl U.vm) h2.1.1, va_Nw.same rfl (rfl : U.vm = (U.calling g mk a).vm) h2.1.2⟩, fun q hq => va_Nw.same rfl (rfl : U.vm = (U.calling g mk a).vm) (h2.2.1 q hq), fun t g1 g2 => va_AO.moved (u := U) (U := U.calling g mk a) (Vm.Alike.refl U.vm) (h2.2.2 t g1 g2)⟩, h3⟩
section YG
variable {p : Program} {l : Launch} {e : Env} {R : Room} {s : State} {m : MethodId} {args : Array Value} {below : List Frame} {meth : Method} {c : Code} {H : Heap} {locs : List Loc} {cells slots : Nat} {Qs : State → Prop}
variable {D : va_G} {cA : Nat → ClassId} {lo pc mc ms : Nat} {ls : Array Slot} {rest st0 : List Value} {a : Array Value} {H0 : Heap} {hp : List yCell}
theorem ygo (hr : va_Run p l e R s m args below meth c H locs cells slots mc ms (F0 m pc ls st0) rest (yPost D cA lo hp a) (fun q => lo ≤ q)) (hS : va_S (fun q => lo ≤ q) H0 H locs)
    (kk : ∀ (H1 : Heap) (locs1 : List Loc), yAt D cA lo hp H1 → va_S (fun q => lo ≤ q) H0 H1 locs1 → W p l e R s m args below meth c H1 locs1 (cells + mc) (slots + ms) Qs (F0 m (pc + 3) ls rest)) : W p l e R s m args below meth c H locs cells slots Qs (F0 m pc ls st0) := by
  intro T hT X
  obtain ⟨v, st₀, t, T', L, h0, X', hL, e1, e2, ⟨hv, hat, hz, hk⟩, st⟩ := hr T hT X
  cases hv
  rw [h0] at hz hk
  obtain ⟨t2, a1, b1⟩ := kk T'.heap (locs ++ L) (by rw [e1]; exact hat)
    ⟨Nat.le_trans hS.1 (by rw [e1]; exact hz), fun q h1 h2 => by rw [e1, hk q (Nat.lt_of_lt_of_le h1 hS.1) h2]; exact hS.2.1 q h1 h2, fun q hq => by
      rcases List.mem_append.mp hq with h | h
      · exact hS.2.2 q h
      · exact hL q h⟩ T' rfl X'
  exact ⟨t2, st t2 a1, b1⟩
end YG
section YC
variable {X : zX} {mi a n d cl sl pc idx x : Nat} {L : List (Option zV)} {st r as : List zV} {hp hp1 : List yCell}
theorem y_callN (C : yC X (yCc mi) (yY mi).cls (yY mi).name (d + 1) (ymc mi) (yms mi)) (hw : yCn idx a n (yY mi).cls) (hM : YM d a (zr 0 x :: as) hp hp1) (hn : as.length = n) (hst : st = as.reverse ++ zr 0 x :: r) (h1 : cl + ymc a ≤ ymc mi) (h2 : sl + yms a ≤ yms mi) (hW : zsz r ≤ 8) (hd : decode (yCc mi) pc = .ok (.invokespecial idx, 3)) (kk : Y X (cl + ymc a) (sl + yms a) (pc + 3) L r hp1) : Y X cl sl pc L st hp := by
  obtain ⟨p, l, e, R, s, m, args, below, meth, c, nL, D, cA, ad, lo, cells, slots, Tg⟩ := X
  obtain ⟨hx, hb, hml, hown, hts, hK, hmn, hR, hcs⟩ := C
  intro H locs ls hP hS hl
  obtain ⟨w1, w2, w3, w4, w5, w6, w7⟩ := hw
  have hB := va_cnB (R := R) (s := s) (args := args) (own := (yY mi).cls) (host := "SentRoads") (index := idx) (y := yY a) (bytes := yCc a) (maxL := yNL a) (ret := none) (ws := .code (yY a) (yCc a) (yNL a) none :: zT) (rm := yroom d a) (mc := ymc a) (ms := yms a) n hts (zT_code w4) rfl rfl rfl (hK.2.1 _ w1) (hts _ w3) w5 ⟨hR.1, by show 8 + (yNL a + 11) + 40 * d ≤ R.locals; omega⟩
  refine ygo (va_runIN (As := as.map (zcv (yad lo (ad 44 0)))) (rest := r.map (zcv (yad lo (ad 44 0)))) ⟨hx, hb, hml, hown, hts⟩ (hM l D cA lo (ad 44 0)) ⟨hB, w6, hts _ w2⟩ ⟨yBlind, fun U hU hWU => ⟨rfl, yK.moved hWU hK, by rw [hU]; exact hP⟩⟩ rfl (by rw [List.length_map]; exact hn) hl.1 (by rw [hst, List.map_append, List.map_reverse]; rfl) (lv_room (by rw [zsz_ok]; exact hW)) hd ⟨by rw [hcs.1]; exact h1, by rw [hcs.2]; exact h2⟩) hS (fun H1 locs1 hat hS1 => kk H1 locs1 ls hat hS1 hl)
theorem y_callI (C : yC X (yCc mi) (yY mi).cls (yY mi).name (d + 1) (ymc mi) (yms mi)) (hw : yCi idx a n (yY mi).cls) (hM : YM d a (zr 0 x :: as) hp hp1) (hn : as.length = n) (hst : st = as.reverse ++ zr 0 x :: r) (h1 : cl + ymc a ≤ ymc mi) (h2 : sl + yms a ≤ yms mi) (hW : zsz r ≤ 8) (hd : decode (yCc mi) pc = .ok (.invokespecial idx, 3)) (kk : Y X (cl + ymc a) (sl + yms a) (pc + 3) L r hp1) : Y X cl sl pc L st hp := by
  obtain ⟨p, l, e, R, s, m, args, below, meth, c, nL, D, cA, ad, lo, cells, slots, Tg⟩ := X
  obtain ⟨hx, hb, hml, hown, hts, hK, hmn, hR, hcs⟩ := C
  intro H locs ls hP hS hl
  obtain ⟨w1, w2, w3, w4, w5, w6, w7⟩ := hw
  have hB : CallB R s args (yY mi).cls idx (yY a) (yCc a) (yNL a) none (.code (yY a) (yCc a) (yNL a) none :: zT) (yroom d a) (ymc a) (yms a) n := callB_of n hts (zT_code w4) rfl rfl rfl (hts _ w3) (hts _ w1) w5 ⟨hR.1, by show 8 + (yNL a + 11) + 40 * d ≤ R.locals; omega⟩
  refine ygo (va_runI (As := as.map (zcv (yad lo (ad 44 0)))) (rest := r.map (zcv (yad lo (ad 44 0)))) ⟨hx, hb, hml, hown, hts⟩ (hM l D cA lo (ad 44 0)) ⟨hB, w6, hts _ w2⟩ ⟨yBlind, fun U hU hWU => ⟨rfl, yK.moved hWU hK, by rw [hU]; exact hP⟩⟩ rfl (by rw [List.length_map]; exact hn) hl.1 (by rw [hst, List.map_append, List.map_reverse]; rfl) (lv_room (by rw [zsz_ok]; exact hW)) hd ⟨by rw [hcs.1]; exact h1, by rw [hcs.2]; exact h2⟩) hS (fun H1 locs1 hat hS1 => kk H1 locs1 ls hat hS1 hl)
theorem y_callV (C : yC X (yCc mi) (yY mi).cls (yY mi).name (d + 1) (ymc mi) (yms mi)) (hw : zCv (yY mi).cls idx (yY a) (yCc a) (yNL a) none n) (hcl : (yY a).cls = "SentRoadsModel") (hob : yob hp x = true) (hM : YM d a (zr 0 x :: as) hp hp1) (hn : as.length = n) (hst : st = as.reverse ++ zr 0 x :: r) (h1 : cl + ymc a ≤ ymc mi) (h2 : sl + yms a ≤ yms mi) (hW : zsz r ≤ 8) (hd : decode (yCc mi) pc = .ok (.invokevirtual idx, 3)) (kk : Y X (cl + ymc a) (sl + yms a) (pc + 3) L r hp1) : Y X cl sl pc L st hp := by
  obtain ⟨p, l, e, R, s, m, args, below, meth, c, nL, D, cA, ad, lo, cells, slots, Tg⟩ := X
  obtain ⟨hx, hb, hml, hown, hts, hK, hmn, hR, hcs⟩ := C
  intro H locs ls hP hS hl
  obtain ⟨w1, w2, w3, w4, w5, w6, w7⟩ := hw
  have hB : CallB R s args (yY mi).cls idx (yY a) (yCc a) (yNL a) none (.code (yY a) (yCc a) (yNL a) none :: zT) (yroom d a) (ymc a) (yms a) n := callB_of n hts (zT_code w5) rfl rfl rfl (hts _ w4) (hts _ w1) w6 ⟨hR.1, by show 8 + (yNL a + 11) + 40 * d ≤ R.locals; omega⟩
  have hrec : ∃ cell : Cell, H[lo + x]? = some cell ∧ cell.vm.isStatics = false ∧ s.vm.findClass (yY a).cls = some cell.cls := by
    unfold yob at hob
    split at hob
    · rename_i fs hx2
      have := va_recv (q := ("SentRoadsModel", TX10, 29)) hK.1.1 (zP1 (hP.2 x _ hx2)) (ci := 10) (q0 := 0) rfl rfl
      rw [hcl]
      exact this
    · cases hob
  refine ygo (va_runV (As := as.map (zcv (yad lo (ad 44 0)))) (rest := r.map (zcv (yad lo (ad 44 0)))) ⟨hx, hb, hml, hown, hts⟩ (hM l D cA lo (ad 44 0)) ⟨hB, hts _ w2, hts _ w3⟩ ⟨yBlind, hrec, fun U hU hWU => ⟨rfl, yK.moved hWU hK, by rw [hU]; exact hP⟩⟩ rfl (by rw [List.length_map]; exact hn) hl.1 (by rw [hst, List.map_append, List.map_reverse]; rfl) (lv_room (by rw [zsz_ok]; exact hW)) hd ⟨by rw [hcs.1]; exact h1, by rw [hcs.2]; exact h2⟩) hS (fun H1 locs1 hat hS1 => kk H1 locs1 ls hat hS1 hl)
end YC
set_option maxHeartbeats 4000000 in
theorem ysound : ∀ (n mi d cl sl pc : Nat) (L : List (Option zV)) (st : List zV) (hp hp' : List yCell), yrun n mi d cl sl pc L st hp = some hp' → 1 ≤ d → ∀ X : zX, yC X (yCc mi) (yY mi).cls (yY mi).name d (ymc mi) (yms mi) → znL X = yNL mi → yRet X mi hp' → Y X cl sl pc L st hp := by
  intro n
  induction n with
  | zero =>
    intro mi d cl sl pc L st hp hp' h
    simp [yrun] at h
  | succ n ih =>
    intro mi d cl sl pc L st hp hp' h hd1 X C hn hr
    rw [yrun] at h
    cases hf : yfetch (yTb mi) pc with
    | none => rw [hf] at h; cases h
    | some q =>
      have hq := yv_all mi _ (yfetch_ok _ _ _ hf)
      rw [hf] at h
      obtain ⟨op, a, b, v⟩ := q
      dsimp only at h
      by_cases h22 : op = 22
      · subst h22
        rw [if_pos rfl] at h
        split at h
        · rename_i hc
          cases h
          obtain ⟨rfl, h1, h2⟩ := hc
          exact y_ret C hr h1 h2 hq
        · cases h
      · rw [if_neg h22] at h
        by_cases hcall : op = 13 ∨ op = 14 ∨ op = 15
        · rw [if_pos hcall] at h
          split at h
          · rename_i x r hdrop
            split at h
            · rename_i hc
              obtain ⟨c1, c2, c3, c4, c5, c6, c7⟩ := hc
              split at h
              · rename_i hp1 hrun
                obtain ⟨d', rfl⟩ : ∃ d', d = d' + 1 := ⟨d - 1, by omega⟩
                have hM : YM d' a (zr 0 x :: (st.take b).reverse) hp hp1 := YM.intro c6 (fun X2 C2 hr2 hn2 => ih a d' 0 0 0 _ _ hp hp1 hrun (by omega) X2 C2 hn2 hr2)
                have hst : st = (st.take b).reverse.reverse ++ zr 0 x :: r := by
                  rw [List.reverse_reverse]
                  have := List.take_append_drop b st
                  rw [hdrop] at this
                  exact this.symm
                have hlen : (st.take b).reverse.length = b := by rw [List.length_reverse, List.length_take]; omega
                have kk := ih mi (d' + 1) (cl + ymc a) (sl + yms a) (pc + 3) L r hp1 hp' h hd1 X C hn hr
                rcases hcall with rfl | rfl | rfl
                · obtain ⟨idx, hdc, hw⟩ := hq
                  exact y_callN C hw hM hlen hst c3 c4 c5 hdc kk
                · obtain ⟨idx, hdc, hw⟩ := hq
                  exact y_callI C hw hM hlen hst c3 c4 c5 hdc kk
                · obtain ⟨idx, hdc, hw, hcl⟩ := hq
                  exact y_callV C hw hcl (c7.resolve_left (fun z => z rfl)) hM hlen hst c3 c4 c5 hdc kk
              · cases h
            · cases h
          · cases h
        · rw [if_neg hcall] at h
          split at h
          · rename_i cl' sl' pc' L' st' hp2 hstp
            exact ystp_ok C hn hd1 hq hstp (ih mi d cl' sl' pc' L' st' hp2 hp' h hd1 X C hn hr)
          · cases h
