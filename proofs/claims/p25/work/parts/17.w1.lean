theorem z_mmax {X : zX} {cc : ByteArray} {own : String} {d pc idx : Nat} {L : List (Option zV)} {st : List zV} {f : zM} {x y : Int32} (C : zC X cc own (d + 1)) (hw : zCs own idx yJ9_max_7cf53 cJ9_max_7cf53 2 (some .int) 2) (hW : zsz st ≤ 8) (hd : decode cc pc = .ok (.invokestatic idx, 3)) (kk : Z X (pc + 3) L (zi (imax x y) :: st) f) : Z X pc L (zi y :: zi x :: st) f := by
  obtain ⟨p, l, e, R, s, m, args, below, meth, c, nL, D, cA, ad, lo, cells, slots, Tg⟩ := X
  obtain ⟨hx, hb, hml, hown, hts, hK, hG, hR, hcs⟩ := C
  intro H locs ls hP hS hl
  exact va_mmax hx hb (by rw [hml, hl.1]) hown (hts _ hw.1) (hts _ hw.2.1) (hts _ hw.2.2.1) (hts _ hw.2.2.2.1) (by omega) (by rw [zsz_ok]; omega) hcs.1 hcs.2 hd (kk H locs ls hP hS hl)
theorem z_mmin {X : zX} {cc : ByteArray} {own : String} {d pc idx : Nat} {L : List (Option zV)} {st : List zV} {f : zM} {x y : Int32} (C : zC X cc own (d + 1)) (hw : zCs own idx yJ9_min_7cf53 cJ9_min_7cf53 2 (some .int) 2) (hW : zsz st ≤ 8) (hd : decode cc pc = .ok (.invokestatic idx, 3)) (kk : Z X (pc + 3) L (zi (imin x y) :: st) f) : Z X pc L (zi y :: zi x :: st) f := by
  obtain ⟨p, l, e, R, s, m, args, below, meth, c, nL, D, cA, ad, lo, cells, slots, Tg⟩ := X
  obtain ⟨hx, hb, hml, hown, hts, hK, hG, hR, hcs⟩ := C
  intro H locs ls hP hS hl
  exact va_mmin hx hb (by rw [hml, hl.1]) hown (hts _ hw.1) (hts _ hw.2.1) (hts _ hw.2.2.1) (hts _ hw.2.2.2.1) (by omega) (by rw [zsz_ok]; omega) hcs.1 hcs.2 hd (kk H locs ls hP hS hl)
theorem z_ldcw {X : zX} {cc : ByteArray} {own : String} {d pc : Nat} {L : List (Option zV)} {st : List zV} {f : zM} {idx : Nat} {v : Int32} (C : zC X cc own d) (hw : Cond.constant own idx v ∈ zT) (hd : decode cc pc = .ok (.ldc_w idx, 3)) (kk : Z X (pc + 3) L (zi v :: st) f) : Z X pc L st f := by
  obtain ⟨p, l, e, R, s, m, args, below, meth, c, nL, D, cA, ad, lo, cells, slots, Tg⟩ := X
  obtain ⟨hx, hb, hml, hown, hts, hK, hG, hR, hcs⟩ := C
  intro H locs ls hP hS hl
  exact lv_ldcw hx hb hown (hts _ hw) hd (kk H locs ls hP hS hl)
theorem z_tabE {X : zX} {cc : ByteArray} {own : String} {d pc : Nat} {L : List (Option zV)} {st : List zV} {f : zM} {dflt lo0 hi : Int} {offs : Array Int} {len : Nat} {x k : Int32} {off : Int} (hx : x = k) (tgt : Nat) (C : zC X cc own d) (hd : decode cc pc = .ok (.tableswitch dflt lo0 hi offs, len)) (h1 : ¬ k.toInt < lo0) (h2 : ¬ hi < k.toInt) (ho : offs[(k.toInt - lo0).toNat]? = some off) (ht : (pc : Int) + off = (tgt : Int)) (kk : Z X tgt L st f) : Z X pc L (zi x :: st) f := by
  subst hx
  exact z_tabIn tgt C hd h1 h2 ho ht kk
theorem z_lookE {X : zX} {cc : ByteArray} {own : String} {d pc : Nat} {L : List (Option zV)} {st : List zV} {f : zM} {dflt : Int} {ps : Array (Int × Int)} {len : Nat} {x k : Int32} {off : Int} (hx : x = k) (tgt : Nat) (C : zC X cc own d) (hd : decode cc pc = .ok (.lookupswitch dflt ps, len)) (hp : (ps.toList.zip (ps.toList.drop 1)).all (fun (a, next) => a.1 < next.1) = true) (ho : Op.lookupswitch.offset ps.toList dflt k.toInt = off) (ht : (pc : Int) + off = (tgt : Int)) (kk : Z X tgt L st f) : Z X pc L (zi x :: st) f := by
  subst hx
  exact z_lookup tgt C hd hp ho ht kk
theorem zlk_X4_isFor {x : Int32} (h1 : ¬ x = 1) (h2 : ¬ x = 2) : Op.lookupswitch.offset (#[(1, 26), (2, 44)] : Array (Int × Int)).toList 64 x.toInt = 64 := by
  simp only [z32eq, Int32.reduceToInt, Int32.toInt_zero, Int32.toInt_one] at *
  simp [Op.lookupswitch.offset]
  split <;> omega
theorem zlk_X6_put {x : Int32} (h0 : ¬ x = 0) (h1 : ¬ x = 1) : Op.lookupswitch.offset (#[(0, 28), (1, 39)] : Array (Int × Int)).toList 50 x.toInt = 50 := by
  simp only [z32eq, Int32.reduceToInt, Int32.toInt_zero, Int32.toInt_one] at *
  simp [Op.lookupswitch.offset]
  split <;> omega
