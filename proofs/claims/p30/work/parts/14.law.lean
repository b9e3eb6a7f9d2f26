/-! ===== the script, the law's own end, its beginning ===== -/
def zXs : zX → Nat → (Nat → Int32) → Prop
  | (p, l, e, R, s, m, args, below, meth, c, nL, D, cA, ad, lo, cells, slots, Tg), Ln, xs => va_X (ad 44 0) Ln xs s s.heap ∧ ad 44 0 < s.heap.size ∧ ¬ lo ≤ ad 44 0
section ZS
variable {X : zX} {cc : ByteArray} {own : String} {d : Nat} {pc : Nat} {L : List (Option zV)} {st : List zV} {f : zM} {Ln : Nat} {xs : Nat → Int32}
theorem z_sld {i : Int32} (C : zC X cc own d) (hs : zXs X Ln xs) (hi : vp_in i Ln) (hd : decode cc pc = .ok (.iaload, 1)) (kk : Z X (pc + 1) L (zi (xs i.toNatClampNeg) :: st) f) : Z X pc L (zi i :: zr 44 0 :: st) f := by
  obtain ⟨p, l, e, R, s, m, args, below, meth, c, nL, D, cA, ad, lo, cells, slots, Tg⟩ := X
  obtain ⟨hx, hb, hml, hown, hts, hK, hG, hR, hcs⟩ := C
  intro H locs ls hP hS hl
  obtain ⟨h1, h2, h3⟩ := hs
  exact va_sld hx hb h1 h2 (A := fun q => lo ≤ q) h3 hS hi hd (kk H locs ls hP hS hl)
theorem z_slen {v : Int32} (C : zC X cc own d) (hs : zXs X Ln xs) (hv : Int32.ofNat Ln = v) (hd : decode cc pc = .ok (.arraylength, 1)) (kk : Z X (pc + 1) L (zi v :: st) f) : Z X pc L (zr 44 0 :: st) f := by
  obtain ⟨p, l, e, R, s, m, args, below, meth, c, nL, D, cA, ad, lo, cells, slots, Tg⟩ := X
  obtain ⟨hx, hb, hml, hown, hts, hK, hG, hR, hcs⟩ := C
  intro H locs ls hP hS hl
  obtain ⟨h1, h2, h3⟩ := hs
  subst hv
  exact va_slen hx hb h1 h2 (A := fun q => lo ≤ q) h3 hS hd (kk H locs ls hP hS hl)
end ZS
section YL
variable {X : zX} {cc : ByteArray} {own nm : String} {mc ms a n d cl sl pc idx x : Nat} {L : List (Option zV)} {st r as : List zV} {hp hp1 : List yCell}
theorem y_callIg (C : yC X cc own nm (d + 1) mc ms) (hw : yCi idx a n own) (hM : YM d a (zr 0 x :: as) hp hp1) (hn : as.length = n) (hst : st = as.reverse ++ zr 0 x :: r) (h1 : cl + ymc a ≤ mc) (h2 : sl + yms a ≤ ms) (hW : zsz r ≤ 8) (hd : decode cc pc = .ok (.invokespecial idx, 3)) (kk : Y X (cl + ymc a) (sl + yms a) (pc + 3) L r hp1) : Y X cl sl pc L st hp := by
  obtain ⟨p, l, e, R, s, m, args, below, meth, c, nL, D, cA, ad, lo, cells, slots, Tg⟩ := X
  obtain ⟨hx, hb, hml, hown, hts, hK, hmn, hR, hcs⟩ := C
  intro H locs ls hP hS hl
  obtain ⟨w1, w2, w3, w4, w5, w6, w7⟩ := hw
  have hB : CallB R s args own idx (yY a) (yCc a) (yNL a) none (.code (yY a) (yCc a) (yNL a) none :: zT) (yroom d a) (ymc a) (yms a) n := callB_of n hts (zT_code w4) rfl rfl rfl (hts _ w3) (hts _ w1) w5 ⟨hR.1, by show 8 + (yNL a + 11) + 40 * d ≤ R.locals; omega⟩
  refine ygo (va_runI (As := as.map (zcv (yad lo (ad 44 0)))) (rest := r.map (zcv (yad lo (ad 44 0)))) ⟨hx, hb, hml, hown, hts⟩ (hM l D cA lo (ad 44 0)) ⟨hB, w6, hts _ w2⟩ ⟨yBlind, fun U hU hWU => ⟨rfl, yK.moved hWU hK, by rw [hU]; exact hP⟩⟩ rfl (by rw [List.length_map]; exact hn) hl.1 (by rw [hst, List.map_append, List.map_reverse]; rfl) (lv_room (by rw [zsz_ok]; exact hW)) hd ⟨by rw [hcs.1]; exact h1, by rw [hcs.2]; exact h2⟩) hS (fun H1 locs1 hat hS1 => kk H1 locs1 ls hat hS1 hl)
end YL
/-- where the two machines meet: the new objects stand -/
theorem y_to_z {p : Program} {l : Launch} {e : Env} {R : Room} {s : State} {m : MethodId} {args : Array Value} {below : List Frame} {meth : Method} {c : Code} {D : va_G} {cA : Nat → ClassId} {ad : Nat → Nat → Nat} {lo pc cl sl : Nat} {Tg : State → Prop} (had : ∀ k n, k ≠ 44 → ad k n = lo + zoff k n)
    (kk : Z (p, l, e, R, s, m, args, below, meth, c, 4, D, cA, ad, lo, cl, sl, Tg) pc [some (zr 44 0), some (zr 0 0), some (zr 25 0), none] [] z0) : Y (p, l, e, R, s, m, args, below, meth, c, 4, D, cA, ad, lo, cl, sl, Tg) cl sl pc [some (zr 44 0), some (zr 0 0), some (zr 0 192), none] [] yXM := by
  intro H locs ls hP hS hl
  refine kk H locs ls (zAt_start had hP) hS ?_
  have e1 : zlv ad 0 [some (zr 44 0), some (zr 0 0), some (zr 25 0), none] = zlv (yad lo (ad 44 0)) 0 [some (zr 44 0), some (zr 0 0), some (zr 0 192), none] := by
    simp only [zlv, zcv, yad]
    rw [had 0 0 (by decide), had 25 0 (by decide)]
    rfl
  rw [e1]
  exact hl
theorem yd9 (lo j : Nat) (hj : j < 6) : defaultValue (tyX9 j) = vp_V ((ydef 9).map (yfv lo)) j := by
  rcases (show j = 0 ∨ j = 1 ∨ j = 2 ∨ j = 3 ∨ j = 4 ∨ j = 5 by omega) with rfl | rfl | rfl | rfl | rfl | rfl <;> rfl
theorem yd10 (lo j : Nat) (hj : j < 29) : defaultValue (tyX10 j) = vp_V ((ydef 10).map (yfv lo)) j := by
  rcases (show j = 0 ∨ j = 1 ∨ j = 2 ∨ j = 3 ∨ j = 4 ∨ j = 5 ∨ j = 6 ∨ j = 7 ∨ j = 8 ∨ j = 9 ∨ j = 10 ∨ j = 11 ∨ j = 12 ∨ j = 13 ∨ j = 14 ∨ j = 15 ∨ j = 16 ∨ j = 17 ∨ j = 18 ∨ j = 19 ∨ j = 20 ∨ j = 21 ∨ j = 22 ∨ j = 23 ∨ j = 24 ∨ j = 25 ∨ j = 26 ∨ j = 27 ∨ j = 28 by omega) with rfl | rfl | rfl | rfl | rfl | rfl | rfl | rfl | rfl | rfl | rfl | rfl | rfl | rfl | rfl | rfl | rfl | rfl | rfl | rfl | rfl | rfl | rfl | rfl | rfl | rfl | rfl | rfl | rfl <;> rfl
theorem yc_law_x : yCi 9 9 0 "SentRoadsLaw" := ⟨zw_61, zw_62, zw_40, zw_63, ⟨by decide +kernel, by decide +kernel, by decide +kernel⟩, rfl, by decide⟩
theorem yc_law_m : yCi 12 10 0 "SentRoadsLaw" := ⟨zw_1020, zw_1021, zw_50, zw_1022, ⟨by decide +kernel, by decide +kernel, by decide +kernel⟩, rfl, by decide⟩
theorem yn_law_x : yNw "SentRoadsLaw" 7 9 6 (ydef 9) := ⟨_, _, tyX9, rfl, zin_9, tyX9_ok, fun lo j hj => yd9 lo j hj, (zmem 59 (by decide +kernel) rfl), (zmem 60 (by decide +kernel) rfl), zw_40⟩
theorem yn_law_m : yNw "SentRoadsLaw" 10 10 29 (ydef 10) := ⟨_, _, tyX10, rfl, zin_10, tyX10_ok, fun lo j hj => yd10 lo j hj, (zmem 1018 (by decide +kernel) rfl), (zmem 1019 (by decide +kernel) rfl), zw_50⟩
