/-! ===== the two texts of the tape's reader, and String's own methods over them ===== -/
abbrev zLen : List Nat := [5, 3]
abbrev zByt : List (List Int32) := [[111, 106, 112, 107, 104], [68, 83, 79]]
def zSt (ad : Nat → Nat → Nat) (lo : Nat) (U : State) : Prop := (vk_S 2 zLen zByt (fun i => ad 44 (1 + i)) (fun i => ad 44 (3 + i)) (fun q => lo ≤ q) U U.heap ∧ va_Z "java/lang/String" "COMPACT_STRINGS" "Z" (.int 1) (fun q => lo ≤ q) U U.heap) ∧ vk_R "SentRoads$Tape" 89 "ojpkh" (ad 44 1) U ∧ vk_R "SentRoads$Tape" 115 "DSO" (ad 44 2) U
theorem zSt.go {ad : Nat → Nat → Nat} {lo : Nat} {s U : State} {H : Heap} {locs : List Loc} (h : zSt ad lo s) (hS : va_S (fun q => lo ≤ q) s.heap H locs) (hU : U.heap = H) (hW : s.WarmedH U.vm) : zSt ad lo U := by
  obtain ⟨⟨h1, h2⟩, h3, h4⟩ := h
  refine ⟨⟨?_, ?_⟩, h3.warm hW, h4.warm hW⟩
  · rw [hU]; exact (h1.kept hS.2.1).moved hW.alike
  · rw [hU]; exact (h2.kept hS.2.1).moved hW.alike
def zPreS (D : va_G) (cA : Nat → ClassId) (ad : Nat → Nat → Nat) (lo : Nat) (f : zM) (as : List zV) : Array Value → State → Prop := va_Pc (as.map (zcv ad)) (fun U => (zK D cA U ∧ zAt D cA ad f U.heap) ∧ zSt ad lo U)
def ZMs (d : Nat) (y : MethodName) (cc : ByteArray) (nL : Nat) (rt : Option FieldType) (as : List zV) (f : zM) (Q : Option zV → zM → Prop) : Prop := ∀ (l : Launch) (D : va_G) (cA : Nat → ClassId) (ad : Nat → Nat → Nat) (lo : Nat), zG ad lo →
  Met l y (.code y cc nL rt :: zT) (zroom d) (zPreS D cA ad lo f as) (zPost D cA ad lo Q) 0 0 (fun q => lo ≤ q)
def zXst : zX → Prop
  | (p, l, e, R, s, m, args, below, meth, c, nL, D, cA, ad, lo, cells, slots, Tg) => zSt ad lo s
theorem ZMs.mono {d : Nat} {y : MethodName} {cc : ByteArray} {nL : Nat} {rt : Option FieldType} {as : List zV} {f : zM} {Q Q' : Option zV → zM → Prop} (h : ZMs d y cc nL rt as f Q) (hq : ∀ r g, Q r g → Q' r g) : ZMs d y cc nL rt as f Q' := by
  intro l D cA ad lo hG p e ha hc hk s m args below hf happ hP hK
  obtain ⟨n, o, h1, h2, h3, ⟨r, f', e1, e2, e3, e4⟩, h5⟩ := h l D cA ad lo hG p e ha hc hk s m args below hf happ hP hK
  exact ⟨n, o, h1, h2, h3, ⟨r, f', e1, hq _ _ e2, e3, e4⟩, h5⟩
theorem ZMs.intro {d : Nat} {y : MethodName} {cc : ByteArray} {nL : Nat} {rt : Option FieldType} {as : List zV} {f : zM} {Q : Option zV → zM → Prop} (hy : plainName y.cls = true) (hlen : (zarg as).length ≤ nL)
    (h : ∀ X : zX, zC X cc y.cls d → zRet X rt Q → znL X = nL → zXst X → Z X 0 (zL0 as nL) [] f) : ZMs d y cc nL rt as f Q := by
  intro l D cA ad lo hG
  refine Met.ofW (cc := cc) (maxL := nL) (ret := rt) hy rfl ?_
  intro p e s m args below meth c s₁ B hml hv
  obtain ⟨rfl, ⟨hK, hP⟩, hSt⟩ := hv
  have hts0 := atoms_spec (ws := .code y cc nL rt :: zT) B.pre
  have hts : ∀ w ∈ zT, w.before (as.map (zcv ad)).toArray s = true := fun w hw => hts0 w (List.mem_cons_of_mem _ hw)
  have hZ := h (p, l, e, (headSpec (.code y cc nL rt :: zT) (zroom d)).room, s, m, (as.map (zcv ad)).toArray, below, meth, c, nL, D, cA, ad, lo, 0, 0, MQ below (zPost D cA ad lo Q) (as.map (zcv ad)).toArray s 0 0 (fun q => lo ≤ q))
    ⟨B.exec, B.bytes, hml, findClass_of_methodNamed B.named, hts, hK, hG, ⟨Nat.le_refl _, Nat.le_refl _⟩, Nat.zero_le _, Nat.zero_le _⟩ ⟨B.returns, B.notSynchronized, rfl⟩ rfl hSt
  have hl := lv_entry (as.map (zcv ad)) (n := nL) (by rw [zarg_len ad as]; exact hlen)
  rw [lg_entry_eq]
  generalize (lg_sl (as.map (zcv ad)) ++ List.replicate (nL - (lg_sl (as.map (zcv ad))).length) Slot.unset).toArray = ls at hl ⊢
  refine hZ s.heap [] ls hP va_S.rf ?_
  rw [zL0, zlv_arg]
  exact hl
theorem zBlindS {D : va_G} {cA : Nat → ClassId} {ad : Nat → Nat → Nat} {lo : Nat} {f : zM} {as : List zV} : FrameBlind (zPreS D cA ad lo f as) := by
  intro a U g mk h
  obtain ⟨h1, ⟨h2, h3⟩, ⟨h4, h5⟩, h6, h7⟩ := h
  exact ⟨h1, ⟨⟨va_K.moved (u := U) (U := U.calling g mk a) (Vm.Alike.refl U.vm) h2.1, va_Nw.same rfl (rfl : U.vm = (U.calling g mk a).vm) h2.2⟩, h3⟩, ⟨vk_S.moved (u := U) (U := U.calling g mk a) (Vm.Alike.refl U.vm) h4, va_Z.moved (u := U) (U := U.calling g mk a) (Vm.Alike.refl U.vm) h5⟩, vk_R.same (u := U) (U := U.calling g mk a) rfl h6, vk_R.same (u := U) (U := U.calling g mk a) rfl h7⟩
section ZRS
variable {X : zX} {cc : ByteArray} {own : String} {d : Nat} {pc : Nat} {L : List (Option zV)} {st stk : List zV} {f : zM} {y : MethodName} {cy : ByteArray} {nLy idx n : Nat} {rty : Option FieldType} {Q : Option zV → zM → Prop} {as : List zV}
theorem z_callVS {k nn ci : Nat} {fds : List zFd} (C : zC X cc own (d + 1)) (hSt : zXst X) (hw : zCv own idx y cy nLy rty n) (hM : ZMs d y cy nLy rty (zr k nn :: as) f Q) (hs : zshp k = .inl (ci, fds)) (hci : (vwCl[ci]?).map (fun q => q.1) = some y.cls) (hnn : nn < zcnt k) (hn : as.length = n) (hst : stk = as.reverse ++ zr k nn :: st) (hW : zsz st ≤ 8) (hd : decode cc pc = .ok (.invokevirtual idx, 3))
    (kk : ∀ (r : Option zV) (f' : zM), Q r f' → Z X (pc + 3) L (r.toList ++ st) f') : Z X pc L stk f := by
  obtain ⟨p, l, e, R, s, m, args, below, meth, c, nL, D, cA, ad, lo, cells, slots, Tg⟩ := X
  obtain ⟨hx, hb, hml, hown, hts, hK, hG, hR, hcs⟩ := C
  intro H locs ls hP hS hl
  obtain ⟨w1, w2, w3, w4, w5, w6, w7⟩ := hw
  have hv := hP k nn hnn
  rw [zent_obj hs] at hv
  obtain ⟨q, hq1, hq2⟩ := Option.map_eq_some_iff.mp hci
  have hrec := va_recv hK.1 (zP1 hv) hq1 (q0 := 0) rfl
  rw [hq2] at hrec
  have hB : CallB R s args own idx y cy nLy rty (.code y cy nLy rty :: zT) (zroom d) 0 0 n := callB_of n hts (zT_code w5) rfl rfl rfl (hts _ w4) (hts _ w1) w6 (zroomR hR w7)
  refine zrun (Q := Q) (va_runV (As := as.map (zcv ad)) (rest := st.map (zcv ad)) ⟨hx, hb, hml, hown, hts⟩ (hM l D cA ad lo hG) ⟨hB, hts _ w2, hts _ w3⟩ ⟨zBlindS, hrec, fun U hU hWU => ⟨rfl, ⟨zK.moved hWU hK, by rw [hU]; exact hP⟩, zSt.go hSt hS hU hWU⟩⟩ rfl (by rw [List.length_map]; exact hn) hl.1 (by rw [hst, List.map_append, List.map_reverse]; rfl) (lv_room (by rw [zsz_ok]; exact hW)) hd ⟨hcs.1, hcs.2⟩) hS (fun r f' H1 locs1 hq hat hS1 => ?_)
  have := kk r f' hq H1 locs1 ls hat hS1 hl
  rwa [zopt] at this
/-- a call on one of the texts -/
theorem z_callT {i : Nat} (C : zC X cc own (d + 1)) (hSt : zXst X) (hw : zCv own idx y cy nLy rty n) (hM : ZMs d y cy nLy rty (zr 44 (1 + i) :: as) f Q) (hi : i < 2) (hy : y.cls = "java/lang/String") (hn : as.length = n) (hst : stk = as.reverse ++ zr 44 (1 + i) :: st) (hW : zsz st ≤ 8) (hd : decode cc pc = .ok (.invokevirtual idx, 3))
    (kk : ∀ (r : Option zV) (f' : zM), Q r f' → Z X (pc + 3) L (r.toList ++ st) f') : Z X pc L stk f := by
  obtain ⟨p, l, e, R, s, m, args, below, meth, c, nL, D, cA, ad, lo, cells, slots, Tg⟩ := X
  obtain ⟨hx, hb, hml, hown, hts, hK, hG, hR, hcs⟩ := C
  intro H locs ls hP hS hl
  obtain ⟨w1, w2, w3, w4, w5, w6, w7⟩ := hw
  have hrec := vk_recv hSt.1.1 hi hS
  rw [← hy] at hrec
  have hB : CallB R s args own idx y cy nLy rty (.code y cy nLy rty :: zT) (zroom d) 0 0 n := callB_of n hts (zT_code w5) rfl rfl rfl (hts _ w4) (hts _ w1) w6 (zroomR hR w7)
  refine zrun (Q := Q) (va_runV (b := ad 44 (1 + i)) (As := as.map (zcv ad)) (rest := st.map (zcv ad)) ⟨hx, hb, hml, hown, hts⟩ (hM l D cA ad lo hG) ⟨hB, hts _ w2, hts _ w3⟩ ⟨zBlindS, hrec, fun U hU hWU => ⟨rfl, ⟨zK.moved hWU hK, by rw [hU]; exact hP⟩, zSt.go hSt hS hU hWU⟩⟩ rfl (by rw [List.length_map]; exact hn) hl.1 (by rw [hst, List.map_append, List.map_reverse]; rfl) (lv_room (by rw [zsz_ok]; exact hW)) hd ⟨hcs.1, hcs.2⟩) hS (fun r f' H1 locs1 hq hat hS1 => ?_)
  have := kk r f' hq H1 locs1 ls hat hS1 hl
  rwa [zopt] at this
theorem z_callSS (C : zC X cc own (d + 1)) (hSt : zXst X) (hw : zCs own idx y cy nLy rty n) (hM : ZMs d y cy nLy rty as f Q) (hn : as.length = n) (hst : stk = as.reverse ++ st) (hW : zsz st ≤ 8) (hd : decode cc pc = .ok (.invokestatic idx, 3))
    (kk : ∀ (r : Option zV) (f' : zM), Q r f' → Z X (pc + 3) L (r.toList ++ st) f') : Z X pc L stk f := by
  obtain ⟨p, l, e, R, s, m, args, below, meth, c, nL, D, cA, ad, lo, cells, slots, Tg⟩ := X
  obtain ⟨hx, hb, hml, hown, hts, hK, hG, hR, hcs⟩ := C
  intro H locs ls hP hS hl
  obtain ⟨w1, w2, w4, w5, w6, w7⟩ := hw
  have hB : CallB R s args own idx y cy nLy rty (.code y cy nLy rty :: zT) (zroom d) 0 0 n := callB_of n hts (zT_code w5) rfl rfl rfl (hts _ w4) (hts _ w1) w6 (zroomR hR w7)
  refine zrun (Q := Q) (va_runS (As := as.map (zcv ad)) (rest := st.map (zcv ad)) ⟨hx, hb, hml, hown, hts⟩ (hM l D cA ad lo hG) ⟨hB, hts _ w2⟩ ⟨zBlindS, fun U hU hWU => ⟨rfl, ⟨zK.moved hWU hK, by rw [hU]; exact hP⟩, zSt.go hSt hS hU hWU⟩⟩ rfl (by rw [List.length_map]; exact hn) hl.1 (by rw [hst, List.map_append, List.map_reverse]) (lv_room (by rw [zsz_ok]; exact hW)) hd ⟨hcs.1, hcs.2⟩) hS (fun r f' H1 locs1 hq hat hS1 => ?_)
  have := kk r f' hq H1 locs1 ls hat hS1 hl
  rwa [zopt] at this
theorem z_ldcT {i : Nat} {tx : String} (C : zC X cc "SentRoads$Tape" d) (hSt : zXst X) (hi : (i = 0 ∧ idx = 89) ∨ (i = 1 ∧ idx = 115)) (hd : decode cc pc = .ok (.ldc idx, 2)) (kk : Z X (pc + 2) L (zr 44 (1 + i) :: st) f) : Z X pc L st f := by
  obtain ⟨p, l, e, R, s, m, args, below, meth, c, nL, D, cA, ad, lo, cells, slots, Tg⟩ := X
  obtain ⟨hx, hb, hml, hown, hts, hK, hG, hR, hcs⟩ := C
  intro H locs ls hP hS hl
  rcases hi with ⟨rfl, rfl⟩ | ⟨rfl, rfl⟩
  · exact va_ldcS hx hb hown hSt.2.1 hd (kk H locs ls hP hS hl)
  · exact va_ldcS hx hb hown hSt.2.2 hd (kk H locs ls hP hS hl)
theorem z_getTv {i : Nat} (C : zC X cc "java/lang/String" d) (hSt : zXst X) (hi : i < 2) (hw : Cond.fieldLink "java/lang/String" 9 "java/lang/String" "value" "[B" ∈ zT) (hd : decode cc pc = .ok (.getfield 9, 3)) (kk : Z X (pc + 3) L (zr 44 (3 + i) :: st) f) : Z X pc L (zr 44 (1 + i) :: st) f := by
  obtain ⟨p, l, e, R, s, m, args, below, meth, c, nL, D, cA, ad, lo, cells, slots, Tg⟩ := X
  obtain ⟨hx, hb, hml, hown, hts, hK, hG, hR, hcs⟩ := C
  intro H locs ls hP hS hl
  exact vk_getf hx hb (hSt.1.1.1 i hi).2.2.1 hS hown (hts _ hw) (fun x h => h) hd (kk H locs ls hP hS hl)
theorem z_getTc {i : Nat} (C : zC X cc "java/lang/String" d) (hSt : zXst X) (hi : i < 2) (hw : Cond.fieldLink "java/lang/String" 15 "java/lang/String" "coder" "B" ∈ zT) (hd : decode cc pc = .ok (.getfield 15, 3)) (kk : Z X (pc + 3) L (zi 0 :: st) f) : Z X pc L (zr 44 (1 + i) :: st) f := by
  obtain ⟨p, l, e, R, s, m, args, below, meth, c, nL, D, cA, ad, lo, cells, slots, Tg⟩ := X
  obtain ⟨hx, hb, hml, hown, hts, hK, hG, hR, hcs⟩ := C
  intro H locs ls hP hS hl
  exact vk_getf hx hb (hSt.1.1.1 i hi).2.1 hS hown (hts _ hw) (fun x h => h) hd (kk H locs ls hP hS hl)
theorem z_getCS (C : zC X cc "java/lang/String" d) (hSt : zXst X) (hw : Cond.fieldLink "java/lang/String" 38 "java/lang/String" "COMPACT_STRINGS" "Z" ∈ zT) (hd : decode cc pc = .ok (.getstatic 38, 3)) (kk : Z X (pc + 3) L (zi 1 :: st) f) : Z X pc L st f := by
  obtain ⟨p, l, e, R, s, m, args, below, meth, c, nL, D, cA, ad, lo, cells, slots, Tg⟩ := X
  obtain ⟨hx, hb, hml, hown, hts, hK, hG, hR, hcs⟩ := C
  intro H locs ls hP hS hl
  exact va_gets hx hb hSt.1.2 hS hown (hts _ hw) (fun x h => h) hd (kk H locs ls hP hS hl)
theorem z_lenT {i : Nat} {v : Int32} (C : zC X cc own d) (hSt : zXst X) (hi : i < 2) (hv : nI (zLen.getD i 0) = v) (hd : decode cc pc = .ok (.arraylength, 1)) (kk : Z X (pc + 1) L (zi v :: st) f) : Z X pc L (zr 44 (3 + i) :: st) f := by
  obtain ⟨p, l, e, R, s, m, args, below, meth, c, nL, D, cA, ad, lo, cells, slots, Tg⟩ := X
  obtain ⟨hx, hb, hml, hown, hts, hK, hG, hR, hcs⟩ := C
  intro H locs ls hP hS hl
  exact va_tlen hx hb (hSt.1.1.1 i hi).2.2.2 hS hv hd (kk H locs ls hP hS hl)
theorem z_bldT {i k : Nat} (C : zC X cc own d) (hSt : zXst X) (hi : i < 2) (hk : k < zLen.getD i 0) (h31 : k < 2 ^ 31) (hd : decode cc pc = .ok (.baload, 1)) (kk : Z X (pc + 1) L (zi ((zByt.getD i []).getD k 0) :: st) f) : Z X pc L (zi (nI k) :: zr 44 (3 + i) :: st) f := by
  obtain ⟨p, l, e, R, s, m, args, below, meth, c, nL, D, cA, ad, lo, cells, slots, Tg⟩ := X
  obtain ⟨hx, hb, hml, hown, hts, hK, hG, hR, hcs⟩ := C
  intro H locs ls hP hS hl
  have hn5 : zLen.getD i 0 < 2 ^ 31 := by rcases (show i = 0 ∨ i = 1 by omega) with rfl | rfl <;> decide
  exact va_tb hx hb (hSt.1.1.1 i hi).2.2.2 hS (nI_in hk hn5) (by rw [nI_clamp h31]; rfl) hd (kk H locs ls hP hS hl)
theorem z_bret0 (C : zC X cc own d) (hr : zRet X (some .byte) Q) (hd : decode cc pc = .ok (.ireturn, 1)) (hq : Q (some (zi 0)) f) : Z X pc L [zi 0] f := by
  obtain ⟨p, l, e, R, s, m, args, below, meth, c, nL, D, cA, ad, lo, cells, slots, Tg⟩ := X
  obtain ⟨hx, hb, hml, hown, hts, hK, hG, hR, hcs⟩ := C
  intro H locs ls hP hS hl
  obtain ⟨r1, r2, rfl⟩ := hr
  exact W.zret (v := 0) hx hb r1 rfl (fun t ht hW => ⟨(some (zi 0)), f, rfl, hq, by rw [ht]; exact hP, hS.F ht⟩) hS.2.2 hd r2
end ZRS
set_option maxRecDepth 100000 in
set_option maxHeartbeats 4000000 in
theorem t_J0_coder_7d493 (d : Nat) (f : zM) (i : Nat) (hi : i < 2) : ZMs d yJ0_coder_7d493 cJ0_coder_7d493 1 (some .byte) [zr 44 (1 + i)] f (fun r g => r = some (zi 0) ∧ g = f) := by
  refine ZMs.intro (by decide +kernel) (Nat.le_of_ble_eq_true rfl) ?_
  intro X C hr hn hT
  show Z X 0 [some (zr 44 (1 + i))] [] f
  refine z_getCS (pc := 0) C hT zw_611 dJ0_coder_7d493_0 ?_
  refine z_if_eq (pc := 3) 13 C dJ0_coder_7d493_3 (by decide) (fun h => absurd h (by decide)) (fun _ => ?_)
  refine z_aload_n (pc := 6) C dJ0_coder_7d493_6 rfl ?_
  refine z_getTc (pc := 7) C hT hi zw_1434 dJ0_coder_7d493_7 ?_
  refine z_goto (pc := 10) 14 C dJ0_coder_7d493_10 (by decide) ?_
  exact z_bret0 (pc := 14) C hr dJ0_coder_7d493_14 ⟨rfl, rfl⟩
set_option maxRecDepth 100000 in
set_option maxHeartbeats 4000000 in
theorem t_J0_length_8abf5 (d : Nat) (f : zM) (i : Nat) (hi : i < 2) : ZMs (d + 1) yJ0_length_8abf5 cJ0_length_8abf5 1 (some .int) [zr 44 (1 + i)] f (fun r g => r = some (zi (nI (zLen.getD i 0))) ∧ g = f) := by
  refine ZMs.intro (by decide +kernel) (Nat.le_of_ble_eq_true rfl) ?_
  intro X C hr hn hT
  show Z X 0 [some (zr 44 (1 + i))] [] f
  refine z_aload_n (pc := 0) C dJ0_length_8abf5_0 rfl ?_
  refine z_getTv (pc := 1) C hT hi zw_1433 dJ0_length_8abf5_1 ?_
  refine z_lenT (pc := 4) C hT hi rfl dJ0_length_8abf5_4 ?_
  refine z_aload_n (pc := 5) C dJ0_length_8abf5_5 rfl ?_
  refine z_callT (pc := 6) C hT zk_J0_335 (t_J0_coder_7d493 _ _ i hi) hi rfl rfl rfl (Nat.le_of_ble_eq_true rfl) dJ0_length_8abf5_6 (fun r g q => ?_)
  obtain ⟨rfl, rfl⟩ := q
  simp only [Option.toList, List.cons_append, List.nil_append]
  refine z_ishr (pc := 9) C dJ0_length_8abf5_9 ?_
  exact z_iret (pc := 10) C hr dJ0_length_8abf5_10 ⟨by rcases (show i = 0 ∨ i = 1 by omega) with rfl | rfl <;> rfl, rfl⟩
set_option maxRecDepth 100000 in
set_option maxHeartbeats 4000000 in
theorem t_J0_isLatin1_aae02 (d : Nat) (f : zM) (i : Nat) (hi : i < 2) : ZMs d yJ0_isLatin1_aae02 cJ0_isLatin1_aae02 1 (some .boolean) [zr 44 (1 + i)] f (fun r g => r = some (zi 1) ∧ g = f) := by
  refine ZMs.intro (by decide +kernel) (Nat.le_of_ble_eq_true rfl) ?_
  intro X C hr hn hT
  show Z X 0 [some (zr 44 (1 + i))] [] f
  refine z_getCS (pc := 0) C hT zw_611 dJ0_isLatin1_aae02_0 ?_
  refine z_if_eq (pc := 3) 17 C dJ0_isLatin1_aae02_3 (by decide) (fun h => absurd h (by decide)) (fun _ => ?_)
  refine z_aload_n (pc := 6) C dJ0_isLatin1_aae02_6 rfl ?_
  refine z_getTc (pc := 7) C hT hi zw_1434 dJ0_isLatin1_aae02_7 ?_
  refine z_if_ne (pc := 10) 17 C dJ0_isLatin1_aae02_10 (by decide) (fun h => absurd rfl h) (fun _ => ?_)
  refine z_iconst (pc := 13) (v := 1) C dJ0_isLatin1_aae02_13 (by decide) ?_
  refine z_goto (pc := 14) 18 C dJ0_isLatin1_aae02_14 (by decide) ?_
  exact z_zret (pc := 18) C hr (by decide) dJ0_isLatin1_aae02_18 ⟨rfl, rfl⟩
set_option maxRecDepth 100000 in
set_option maxHeartbeats 4000000 in
theorem ixc_loop {X : zX} {d i : Nat} {f : zM} {c b : Int32} (hi : i < 2) (C : zC X cJ1_indexOfChar_4cfef yJ1_indexOfChar_4cfef.cls d) (hn : znL X = 6) (hT : zXst X) (kN : ∀ v, Z X 31 [some (zr 44 (3 + i)), some (zi c), some (zi 0), some (zi (nI (zLen.getD i 0))), some (zi b), some (zi v)] [] f) (kY : ∀ k, k < zLen.getD i 0 → Z X 22 [some (zr 44 (3 + i)), some (zi c), some (zi 0), some (zi (nI (zLen.getD i 0))), some (zi b), some (zi (nI k))] [] f) :
    ∀ m k : Nat, k + m = zLen.getD i 0 → Z X 7 [some (zr 44 (3 + i)), some (zi c), some (zi 0), some (zi (nI (zLen.getD i 0))), some (zi b), some (zi (nI k))] [] f := by
  have h8 : zLen.getD i 0 ≤ 5 := by rcases (show i = 0 ∨ i = 1 by omega) with rfl | rfl <;> decide
  intro m
  induction m with
  | zero =>
    intro k hk
    refine z_iload (pc := 7) C dJ1_indexOfChar_4cfef_7 rfl ?_
    refine z_iload_n (pc := 9) C dJ1_indexOfChar_4cfef_9 rfl ?_
    exact z_icmp_ge (pc := 10) 31 C dJ1_indexOfChar_4cfef_10 (by decide) (fun _ => kN _) (fun h => absurd (nI_le (by omega) (by omega)) h)
  | succ m ih =>
    intro k hk
    refine z_iload (pc := 7) C dJ1_indexOfChar_4cfef_7 rfl ?_
    refine z_iload_n (pc := 9) C dJ1_indexOfChar_4cfef_9 rfl ?_
    refine z_icmp_ge (pc := 10) 31 C dJ1_indexOfChar_4cfef_10 (by decide) (fun h => absurd h (nI_ge (by omega) (by omega))) (fun _ => ?_)
    refine z_aload_n (pc := 13) C dJ1_indexOfChar_4cfef_13 rfl ?_
    refine z_iload (pc := 14) C dJ1_indexOfChar_4cfef_14 rfl ?_
    refine z_bldT (pc := 16) C hT hi (by omega) (by omega) dJ1_indexOfChar_4cfef_16 ?_
    refine z_iload (pc := 17) C dJ1_indexOfChar_4cfef_17 rfl ?_
    refine z_icmp_ne (pc := 19) 25 C dJ1_indexOfChar_4cfef_19 (by decide) (fun _ => ?_) (fun _ => kY k (by omega))
    refine z_iinc (pc := 25) (v := 1) C dJ1_indexOfChar_4cfef_25 rfl (by decide) (by rw [hn]; decide) rfl ?_
    refine z_goto (pc := 28) 7 C dJ1_indexOfChar_4cfef_28 (by decide) ?_
    rw [← nI_succ]
    exact ih (k + 1) (by omega)
set_option maxRecDepth 100000 in
set_option maxHeartbeats 4000000 in
theorem t_J1_indexOfChar_4cfef (d : Nat) (f : zM) (i : Nat) (hi : i < 2) (c : Int32) : ZMs d yJ1_indexOfChar_4cfef cJ1_indexOfChar_4cfef 6 (some .int) [zr 44 (3 + i), zi c, zi 0, zi (nI (zLen.getD i 0))] f (fun r g => (∃ v, r = some (zi v) ∧ zB v (-1) (zLen.getD i 0 - 1)) ∧ g = f) := by
  refine ZMs.intro (by decide +kernel) (Nat.le_of_ble_eq_true rfl) ?_
  intro X C hr hn hT
  show Z X 0 [some (zr 44 (3 + i)), some (zi c), some (zi 0), some (zi (nI (zLen.getD i 0))), none, none] [] f
  have h8 : 1 ≤ zLen.getD i 0 ∧ zLen.getD i 0 ≤ 5 := by rcases (show i = 0 ∨ i = 1 by omega) with rfl | rfl <;> decide
  refine z_iload_n (pc := 0) C dJ1_indexOfChar_4cfef_0 rfl ?_
  refine z_i2b (pc := 1) C dJ1_indexOfChar_4cfef_1 ?_
  refine z_istore (pc := 2) C dJ1_indexOfChar_4cfef_2 (by rw [hn]; decide) rfl ?_
  refine z_iload_n (pc := 4) C dJ1_indexOfChar_4cfef_4 rfl ?_
  refine z_istore (pc := 5) C dJ1_indexOfChar_4cfef_5 (by rw [hn]; decide) rfl ?_
  refine ixc_loop (i := i) hi C hn hT (fun v => ?_) (fun k hk => ?_) (zLen.getD i 0) 0 (by omega)
  · refine z_iconst (pc := 31) (v := -1) C dJ1_indexOfChar_4cfef_31 (by decide) ?_
    exact z_iret (pc := 32) C hr dJ1_indexOfChar_4cfef_32 ⟨⟨_, rfl, (show zB (-1 : Int32) (-1) ((zLen.getD i 0 : Nat) - 1) from ⟨by decide, by have q : (-1 : Int32).toInt = -1 := (by decide); omega⟩)⟩, rfl⟩
  · refine z_iload (pc := 22) C dJ1_indexOfChar_4cfef_22 rfl ?_
    exact z_iret (pc := 24) C hr dJ1_indexOfChar_4cfef_24 ⟨⟨_, rfl, (show zB (nI k) (-1) ((zLen.getD i 0 : Nat) - 1) from ⟨by rw [nI_toInt (by omega)]; omega, by rw [nI_toInt (by omega)]; omega⟩)⟩, rfl⟩
set_option maxRecDepth 100000 in
set_option maxHeartbeats 4000000 in
theorem t_J1_canEncode_9a6ad (d : Nat) (f : zM) (x : Int32) : ZM d yJ1_canEncode_9a6ad cJ1_canEncode_9a6ad 1 (some .boolean) [zi x] f (fun r g => (r = some (zi 0) ∨ r = some (zi 1)) ∧ g = f) := by
  refine ZM.intro (by decide +kernel) (Nat.le_of_ble_eq_true rfl) ?_
  intro X C hr hn
  show Z X 0 [some (zi x)] [] f
  refine z_iload_n (pc := 0) C dJ1_canEncode_9a6ad_0 rfl ?_
  refine z_if_lt (pc := 1) 15 C dJ1_canEncode_9a6ad_1 (by decide) (fun h1 => ?_) (fun h1 => ?_)
  · skip
    refine z_iconst (pc := 15) (v := 0) C dJ1_canEncode_9a6ad_15 (by decide) ?_
    exact z_zret (pc := 16) C hr (by decide) dJ1_canEncode_9a6ad_16 (⟨by first | exact Or.inl rfl | exact Or.inr rfl, rfl⟩)
  · skip
    refine z_iload_n (pc := 4) C dJ1_canEncode_9a6ad_4 rfl ?_
    refine z_sipush (pc := 5) (v := 255) C dJ1_canEncode_9a6ad_5 (by decide) ?_
    refine z_icmp_gt (pc := 8) 15 C dJ1_canEncode_9a6ad_8 (by decide) (fun h8 => ?_) (fun h8 => ?_)
    · skip
      refine z_iconst (pc := 15) (v := 0) C dJ1_canEncode_9a6ad_15 (by decide) ?_
      exact z_zret (pc := 16) C hr (by decide) dJ1_canEncode_9a6ad_16 (⟨by first | exact Or.inl rfl | exact Or.inr rfl, rfl⟩)
    · skip
      refine z_iconst (pc := 11) (v := 1) C dJ1_canEncode_9a6ad_11 (by decide) ?_
      refine z_goto (pc := 12) 16 C dJ1_canEncode_9a6ad_12 (by decide) ?_
      exact z_zret (pc := 16) C hr (by decide) dJ1_canEncode_9a6ad_16 (⟨by first | exact Or.inl rfl | exact Or.inr rfl, rfl⟩)

set_option maxRecDepth 100000 in
set_option maxHeartbeats 4000000 in
theorem t_J1_indexOf_4cfef (d : Nat) (f : zM) (i : Nat) (hi : i < 2) (c : Int32) : ZMs (d + 1) yJ1_indexOf_4cfef cJ1_indexOf_4cfef 4 (some .int) [zr 44 (3 + i), zi c, zi 0, zi (nI (zLen.getD i 0))] f (fun r g => (∃ v, r = some (zi v) ∧ zB v (-1) (zLen.getD i 0 - 1)) ∧ g = f) := by
  refine ZMs.intro (by decide +kernel) (Nat.le_of_ble_eq_true rfl) ?_
  intro X C hr hn hT
  show Z X 0 [some (zr 44 (3 + i)), some (zi c), some (zi 0), some (zi (nI (zLen.getD i 0)))] [] f
  have h8 : 1 ≤ zLen.getD i 0 ∧ zLen.getD i 0 ≤ 5 := by rcases (show i = 0 ∨ i = 1 by omega) with rfl | rfl <;> decide
  have hend : ∀ b : Int32, b = 0 ∨ b = 1 → Z X 4 [some (zr 44 (3 + i)), some (zi c), some (zi 0), some (zi (nI (zLen.getD i 0)))] [zi b] f := by
    intro b hb
    refine z_if_ne (pc := 4) 9 C dJ1_indexOf_4cfef_4 (by decide) (fun _ => ?_) (fun _ => ?_)
    · refine z_iload_n (pc := 9) C dJ1_indexOf_4cfef_9 rfl ?_
      refine z_iconst (pc := 10) (v := 0) C dJ1_indexOf_4cfef_10 (by decide) ?_
      refine z_mmax (pc := 11) C zk_J1_92 (Nat.le_of_ble_eq_true rfl) dJ1_indexOf_4cfef_11 ?_
      rw [show imax 0 0 = 0 from by decide]
      refine z_istore_n (pc := 14) C dJ1_indexOf_4cfef_14 (by rw [hn]; decide) rfl ?_
      refine z_iload_n (pc := 15) C dJ1_indexOf_4cfef_15 rfl ?_
      refine z_aload_n (pc := 16) C dJ1_indexOf_4cfef_16 rfl ?_
      refine z_lenT (pc := 17) C hT hi rfl dJ1_indexOf_4cfef_17 ?_
      refine z_mmin (pc := 18) C zk_J1_38 (Nat.le_of_ble_eq_true rfl) dJ1_indexOf_4cfef_18 ?_
      rw [show imin (nI (zLen.getD i 0)) (nI (zLen.getD i 0)) = nI (zLen.getD i 0) from by unfold imin; split <;> rfl]
      refine z_istore_n (pc := 21) C dJ1_indexOf_4cfef_21 (by rw [hn]; decide) rfl ?_
      refine z_iload_n (pc := 22) C dJ1_indexOf_4cfef_22 rfl ?_
      refine z_iload_n (pc := 23) C dJ1_indexOf_4cfef_23 rfl ?_
      refine z_icmp_lt (pc := 24) 29 C dJ1_indexOf_4cfef_24 (by decide) (fun _ => ?_) (fun _ => ?_)
      · refine z_aload_n (pc := 29) C dJ1_indexOf_4cfef_29 rfl ?_
        refine z_iload_n (pc := 30) C dJ1_indexOf_4cfef_30 rfl ?_
        refine z_iload_n (pc := 31) C dJ1_indexOf_4cfef_31 rfl ?_
        refine z_iload_n (pc := 32) C dJ1_indexOf_4cfef_32 rfl ?_
        refine z_callSS (pc := 33) C hT zk_J1_95 (t_J1_indexOfChar_4cfef _ _ i hi c) rfl rfl (Nat.le_of_ble_eq_true rfl) dJ1_indexOf_4cfef_33 (fun r g q => ?_)
        obtain ⟨⟨v, rfl, hv⟩, rfl⟩ := q
        simp only [Option.toList, List.cons_append, List.nil_append]
        exact z_iret (pc := 36) C hr dJ1_indexOf_4cfef_36 ⟨⟨_, rfl, hv⟩, rfl⟩
      · refine z_iconst (pc := 27) (v := -1) C dJ1_indexOf_4cfef_27 (by decide) ?_
        exact z_iret (pc := 28) C hr dJ1_indexOf_4cfef_28 ⟨⟨_, rfl, (show zB (-1 : Int32) (-1) ((zLen.getD i 0 : Nat) - 1) from ⟨by decide, by have q : (-1 : Int32).toInt = -1 := (by decide); omega⟩)⟩, rfl⟩
    · refine z_iconst (pc := 7) (v := -1) C dJ1_indexOf_4cfef_7 (by decide) ?_
      exact z_iret (pc := 8) C hr dJ1_indexOf_4cfef_8 ⟨⟨_, rfl, (show zB (-1 : Int32) (-1) ((zLen.getD i 0 : Nat) - 1) from ⟨by decide, by have q : (-1 : Int32).toInt = -1 := (by decide); omega⟩)⟩, rfl⟩
  refine z_iload_n (pc := 0) C dJ1_indexOf_4cfef_0 rfl ?_
  refine z_callS (pc := 1) C zk_J1_88 (t_J1_canEncode_9a6ad _ _ c) rfl rfl (Nat.le_of_ble_eq_true rfl) dJ1_indexOf_4cfef_1 (fun r g q => ?_)
  obtain ⟨q | q, rfl⟩ := q
  · subst q; exact hend 0 (Or.inl rfl)
  · subst q; exact hend 1 (Or.inr rfl)
set_option maxRecDepth 100000 in
set_option maxHeartbeats 4000000 in
theorem t_J0_indexOf_7cf53 (d : Nat) (f : zM) (i : Nat) (hi : i < 2) (c : Int32) : ZMs (d + 2) yJ0_indexOf_7cf53 cJ0_indexOf_7cf53 3 (some .int) [zr 44 (1 + i), zi c, zi 0] f (fun r g => (∃ v, r = some (zi v) ∧ zB v (-1) (zLen.getD i 0 - 1)) ∧ g = f) := by
  refine ZMs.intro (by decide +kernel) (Nat.le_of_ble_eq_true rfl) ?_
  intro X C hr hn hT
  show Z X 0 [some (zr 44 (1 + i)), some (zi c), some (zi 0)] [] f
  refine z_aload_n (pc := 0) C dJ0_indexOf_7cf53_0 rfl ?_
  refine z_callT (pc := 1) C hT zk_J0_492 (t_J0_isLatin1_aae02 _ _ i hi) hi rfl rfl rfl (Nat.le_of_ble_eq_true rfl) dJ0_indexOf_7cf53_1 (fun r g q => ?_)
  obtain ⟨rfl, rfl⟩ := q
  simp only [Option.toList, List.cons_append, List.nil_append]
  refine z_if_eq (pc := 4) 23 C dJ0_indexOf_7cf53_4 (by decide) (fun h => absurd h (by decide)) (fun _ => ?_)
  refine z_aload_n (pc := 7) C dJ0_indexOf_7cf53_7 rfl ?_
  refine z_getTv (pc := 8) C hT hi zw_1433 dJ0_indexOf_7cf53_8 ?_
  refine z_iload_n (pc := 11) C dJ0_indexOf_7cf53_11 rfl ?_
  refine z_iload_n (pc := 12) C dJ0_indexOf_7cf53_12 rfl ?_
  refine z_aload_n (pc := 13) C dJ0_indexOf_7cf53_13 rfl ?_
  refine z_callT (pc := 14) C hT zk_J0_505 (t_J0_length_8abf5 _ _ i hi) hi rfl rfl rfl (Nat.le_of_ble_eq_true rfl) dJ0_indexOf_7cf53_14 (fun r g q => ?_)
  obtain ⟨rfl, rfl⟩ := q
  simp only [Option.toList, List.cons_append, List.nil_append]
  refine z_callSS (pc := 17) C hT zk_J0_637 (t_J1_indexOf_4cfef _ _ i hi c) rfl rfl (Nat.le_of_ble_eq_true rfl) dJ0_indexOf_7cf53_17 (fun r g q => ?_)
  obtain ⟨⟨v, rfl, hv⟩, rfl⟩ := q
  simp only [Option.toList, List.cons_append, List.nil_append]
  refine z_goto (pc := 20) 36 C dJ0_indexOf_7cf53_20 (by decide) ?_
  exact z_iret (pc := 36) C hr dJ0_indexOf_7cf53_36 ⟨⟨_, rfl, hv⟩, rfl⟩
set_option maxRecDepth 100000 in
set_option maxHeartbeats 4000000 in
theorem t_J0_indexOf_0f7a4 (d : Nat) (f : zM) (i : Nat) (hi : i < 2) (c : Int32) : ZMs (d + 3) yJ0_indexOf_0f7a4 cJ0_indexOf_0f7a4 2 (some .int) [zr 44 (1 + i), zi c] f (fun r g => (∃ v, r = some (zi v) ∧ zB v (-1) (zLen.getD i 0 - 1)) ∧ g = f) := by
  refine ZMs.intro (by decide +kernel) (Nat.le_of_ble_eq_true rfl) ?_
  intro X C hr hn hT
  show Z X 0 [some (zr 44 (1 + i)), some (zi c)] [] f
  refine z_aload_n (pc := 0) C dJ0_indexOf_0f7a4_0 rfl ?_
  refine z_iload_n (pc := 1) C dJ0_indexOf_0f7a4_1 rfl ?_
  refine z_iconst (pc := 2) (v := 0) C dJ0_indexOf_0f7a4_2 (by decide) ?_
  refine z_callT (pc := 3) C hT zk_J0_633 (t_J0_indexOf_7cf53 _ _ i hi c) hi rfl rfl rfl (Nat.le_of_ble_eq_true rfl) dJ0_indexOf_0f7a4_3 (fun r g q => ?_)
  obtain ⟨⟨v, rfl, hv⟩, rfl⟩ := q
  simp only [Option.toList, List.cons_append, List.nil_append]
  exact z_iret (pc := 6) C hr dJ0_indexOf_0f7a4_6 ⟨⟨_, rfl, hv⟩, rfl⟩
