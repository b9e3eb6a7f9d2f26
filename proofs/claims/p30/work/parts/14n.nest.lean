/-! a static call of a nest mate's method: the only one that the code has -/
theorem zk_nest : Cond.static yX9_isLand ∈ zT ∧ Cond.initialized yX9_isLand.cls ∈ zT ∧ Cond.code yX9_isLand cX9_isLand 1 (some .boolean) ∈ zT := ⟨zw_450, zw_40, zw_451⟩
section ZN
variable {X : zX} {d : Nat} {pc : Nat} {L : List (Option zV)} {st stk : List zV} {f : zM} {Q : Option zV → zM → Prop} {as : List zV} {cc : ByteArray}
theorem z_callN (C : zC X cc "SentRoads$Tape" (d + 1)) (hw : Cond.static yX9_isLand ∈ zT ∧ Cond.initialized yX9_isLand.cls ∈ zT ∧ Cond.code yX9_isLand cX9_isLand 1 (some .boolean) ∈ zT) (hM : ZM d yX9_isLand cX9_isLand 1 (some .boolean) as f Q) (hn : as.length = 1) (hst : stk = as.reverse ++ st) (hW : zsz st ≤ 8) (hd : decode cc pc = .ok (.invokestatic 109, 3))
    (kk : ∀ (r : Option zV) (f' : zM), Q r f' → Z X (pc + 3) L (r.toList ++ st) f') : Z X pc L stk f := by
  obtain ⟨p, l, e, R, s, m, args, below, meth, c, nL, D, cA, ad, lo, cells, slots, Tg⟩ := X
  obtain ⟨hx, hb, hml, hown, hts, hK, hG, hR, hcs⟩ := C
  intro H locs ls hP hS hl
  obtain ⟨w2, w4, w5⟩ := hw
  have hB := va_cnB (R := R) (s := s) (args := args) (own := "SentRoads$Tape") (host := "SentRoads") (index := 109) (y := yX9_isLand) (bytes := cX9_isLand) (maxL := 1) (ret := some .boolean) (ws := .code yX9_isLand cX9_isLand 1 (some .boolean) :: zT) (rm := zroom d) (mc := 0) (ms := 0) 1 hts (zT_code w5) rfl rfl rfl hK.2 (hts _ w4) ⟨by decide +kernel, by decide +kernel, by decide +kernel⟩ (zroomR hR (by decide))
  refine zrun (Q := Q) (va_runSN (As := as.map (zcv ad)) (rest := st.map (zcv ad)) ⟨hx, hb, hml, hown, hts⟩ (hM l D cA ad lo hG) ⟨hB, hts _ w2, trivial⟩ ⟨zBlind, fun U hU hWU => ⟨rfl, zK.moved hWU hK, by rw [hU]; exact hP⟩⟩ rfl (by rw [List.length_map]; exact hn) hl.1 (by rw [hst, List.map_append, List.map_reverse]) (lv_room (by rw [zsz_ok]; exact hW)) hd ⟨hcs.1, hcs.2⟩) hS (fun r f' H1 locs1 hq hat hS1 => ?_)
  have := kk r f' hq H1 locs1 ls hat hS1 hl
  rwa [zopt] at this
end ZN
theorem zidx {x : Int32} {n : Nat} (h0 : 0 ≤ x.toInt) (h1 : x.toInt < (n : Int)) : vp_in x n ∧ x.toNatClampNeg < n := by
  have e1 : x.toNatClampNeg = x.toInt.toNat := rfl
  have h2 : x.toNatClampNeg < n := by rw [e1]; omega
  refine ⟨fun q => ?_, h2⟩
  rcases q with q | q
  · have q2 := Int32.lt_iff_toInt_lt.mp q
    rw [Int32.toInt_zero] at q2
    omega
  · omega
