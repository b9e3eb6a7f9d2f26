/-! ===== the law's loop ===== -/
theorem zlen7 {Ln b : Nat} (h31 : Ln < 2 ^ 31) (hb31 : b < 2 ^ 31) : (nI Ln - 7 < nI b) ↔ Ln < b + 7 := by
  by_cases h : 7 ≤ Ln
  · have e : nI Ln - 7 = nI (Ln - 7) := by
      rw [show nI Ln = nI (Ln - 7) + 7 from by rw [show (7 : Int32) = nI 7 from rfl, nI_add]; congr 1; omega, Int32.add_sub_cancel]
    rw [e, nI_ltI (by omega) hb31]
    omega
  · have h1 : (nI Ln - 7) < 0 := by
      rcases (show Ln = 0 ∨ Ln = 1 ∨ Ln = 2 ∨ Ln = 3 ∨ Ln = 4 ∨ Ln = 5 ∨ Ln = 6 by omega) with rfl | rfl | rfl | rfl | rfl | rfl | rfl <;> decide
    have h2 : (0 : Int32) ≤ nI b := nI_pos' hb31
    constructor
    · intro _; omega
    · intro _
      rw [z32lt] at h1 ⊢
      rw [z32le] at h2
      omega
set_option maxRecDepth 100000 in
set_option maxHeartbeats 4000000 in
theorem law_one {X : zX} {Ln b : Nat} {xs a : Nat → Int32} {f : zM} {J : zM → Prop} (C : zC X cL_law RL 15) (hn : znL X = 4) (hs : zXs X Ln xs) (hb : b + 7 ≤ Ln) (h31 : Ln < 2 ^ 31) (hT : zXst X) (ha : ∀ j, xs (b + j) = a j) (hx : ∀ k, k < 35 → zCall k f a J) (h0 : J f) (kk : ∀ g, J g → Z X 1501 [some (zr 44 0), some (zr 0 0), some (zr 25 0), some (zi (nI b))] [] g) : Z X 27 [some (zr 44 0), some (zr 0 0), some (zr 25 0), some (zi (nI b))] [] f := by
  refine z_aload_n (pc := 27) C dL_law_27 rfl ?_
  refine z_iload_n (pc := 28) C dL_law_28 rfl ?_
  refine z_sldk (pc := 29) (b := b) (k := 0) C hs rfl (by omega) h31 dL_law_29 ?_
  refine z_bipush (pc := 30) (v := 63) C dL_law_30 (by decide) ?_
  refine z_iand (pc := 32) C dL_law_32 ?_
  generalize xs (b + 0) &&& 63 = v
  by_cases hsw : v.toInt < 0 ∨ 34 < v.toInt
  · exact z_tabOut (pc := 33) 1501 C dL_law_33 hsw (by decide) (kk f h0)
  · rcases (show v.toInt = 0 ∨ v.toInt = 1 ∨ v.toInt = 2 ∨ v.toInt = 3 ∨ v.toInt = 4 ∨ v.toInt = 5 ∨ v.toInt = 6 ∨ v.toInt = 7 ∨ v.toInt = 8 ∨ v.toInt = 9 ∨ v.toInt = 10 ∨ v.toInt = 11 ∨ v.toInt = 12 ∨ v.toInt = 13 ∨ v.toInt = 14 ∨ v.toInt = 15 ∨ v.toInt = 16 ∨ v.toInt = 17 ∨ v.toInt = 18 ∨ v.toInt = 19 ∨ v.toInt = 20 ∨ v.toInt = 21 ∨ v.toInt = 22 ∨ v.toInt = 23 ∨ v.toInt = 24 ∨ v.toInt = 25 ∨ v.toInt = 26 ∨ v.toInt = 27 ∨ v.toInt = 28 ∨ v.toInt = 29 ∨ v.toInt = 30 ∨ v.toInt = 31 ∨ v.toInt = 32 ∨ v.toInt = 33 ∨ v.toInt = 34 by omega) with hsv | hsv | hsv | hsv | hsv | hsv | hsv | hsv | hsv | hsv | hsv | hsv | hsv | hsv | hsv | hsv | hsv | hsv | hsv | hsv | hsv | hsv | hsv | hsv | hsv | hsv | hsv | hsv | hsv | hsv | hsv | hsv | hsv | hsv | hsv
    · obtain rfl : v = 0 := (z32eq v 0).mpr (by rw [hsv]; decide)
      exact z_tabIn (pc := 33) 188 C dL_law_33 (by decide) (by decide) rfl (by decide) (law_0 C hn hs hb h31 hT ha (hx 0 (by decide)) kk)
    · obtain rfl : v = 1 := (z32eq v 1).mpr (by rw [hsv]; decide)
      exact z_tabIn (pc := 33) 279 C dL_law_33 (by decide) (by decide) rfl (by decide) (law_1 C hn hs hb h31 hT ha (hx 1 (by decide)) kk)
    · obtain rfl : v = 2 := (z32eq v 2).mpr (by rw [hsv]; decide)
      exact z_tabIn (pc := 33) 332 C dL_law_33 (by decide) (by decide) rfl (by decide) (law_2 C hn hs hb h31 hT ha (hx 2 (by decide)) kk)
    · obtain rfl : v = 3 := (z32eq v 3).mpr (by rw [hsv]; decide)
      exact z_tabIn (pc := 33) 407 C dL_law_33 (by decide) (by decide) rfl (by decide) (law_3 C hn hs hb h31 hT ha (hx 3 (by decide)) kk)
    · obtain rfl : v = 4 := (z32eq v 4).mpr (by rw [hsv]; decide)
      exact z_tabIn (pc := 33) 482 C dL_law_33 (by decide) (by decide) rfl (by decide) (law_4 C hn hs hb h31 hT ha (hx 4 (by decide)) kk)
    · obtain rfl : v = 5 := (z32eq v 5).mpr (by rw [hsv]; decide)
      exact z_tabIn (pc := 33) 545 C dL_law_33 (by decide) (by decide) rfl (by decide) (law_5 C hn hs hb h31 hT ha (hx 5 (by decide)) kk)
    · obtain rfl : v = 6 := (z32eq v 6).mpr (by rw [hsv]; decide)
      exact z_tabIn (pc := 33) 608 C dL_law_33 (by decide) (by decide) rfl (by decide) (law_6 C hn hs hb h31 hT ha (hx 6 (by decide)) kk)
    · obtain rfl : v = 7 := (z32eq v 7).mpr (by rw [hsv]; decide)
      exact z_tabIn (pc := 33) 621 C dL_law_33 (by decide) (by decide) rfl (by decide) (law_7 C hn hs hb h31 hT ha (hx 7 (by decide)) kk)
    · obtain rfl : v = 8 := (z32eq v 8).mpr (by rw [hsv]; decide)
      exact z_tabIn (pc := 33) 654 C dL_law_33 (by decide) (by decide) rfl (by decide) (law_8 C hn hs hb h31 hT ha (hx 8 (by decide)) kk)
    · obtain rfl : v = 9 := (z32eq v 9).mpr (by rw [hsv]; decide)
      exact z_tabIn (pc := 33) 687 C dL_law_33 (by decide) (by decide) rfl (by decide) (law_9 C hn hs hb h31 hT ha (hx 9 (by decide)) kk)
    · obtain rfl : v = 10 := (z32eq v 10).mpr (by rw [hsv]; decide)
      exact z_tabIn (pc := 33) 720 C dL_law_33 (by decide) (by decide) rfl (by decide) (law_10 C hn hs hb h31 hT ha (hx 10 (by decide)) kk)
    · obtain rfl : v = 11 := (z32eq v 11).mpr (by rw [hsv]; decide)
      exact z_tabIn (pc := 33) 763 C dL_law_33 (by decide) (by decide) rfl (by decide) (law_11 C hn hs hb h31 hT ha (hx 11 (by decide)) kk)
    · obtain rfl : v = 12 := (z32eq v 12).mpr (by rw [hsv]; decide)
      exact z_tabIn (pc := 33) 806 C dL_law_33 (by decide) (by decide) rfl (by decide) (law_12 C hn hs hb h31 hT ha (hx 12 (by decide)) kk)
    · obtain rfl : v = 13 := (z32eq v 13).mpr (by rw [hsv]; decide)
      exact z_tabIn (pc := 33) 859 C dL_law_33 (by decide) (by decide) rfl (by decide) (law_13 C hn hs hb h31 hT ha (hx 13 (by decide)) kk)
    · obtain rfl : v = 14 := (z32eq v 14).mpr (by rw [hsv]; decide)
      exact z_tabIn (pc := 33) 882 C dL_law_33 (by decide) (by decide) rfl (by decide) (law_14 C hn hs hb h31 hT ha (hx 14 (by decide)) kk)
    · obtain rfl : v = 15 := (z32eq v 15).mpr (by rw [hsv]; decide)
      exact z_tabIn (pc := 33) 915 C dL_law_33 (by decide) (by decide) rfl (by decide) (law_15 C hn hs hb h31 hT ha (hx 15 (by decide)) kk)
    · obtain rfl : v = 16 := (z32eq v 16).mpr (by rw [hsv]; decide)
      exact z_tabIn (pc := 33) 964 C dL_law_33 (by decide) (by decide) rfl (by decide) (law_16 C hn hs hb h31 hT ha (hx 16 (by decide)) kk)
    · obtain rfl : v = 17 := (z32eq v 17).mpr (by rw [hsv]; decide)
      exact z_tabIn (pc := 33) 987 C dL_law_33 (by decide) (by decide) rfl (by decide) (law_17 C hn hs hb h31 hT ha (hx 17 (by decide)) kk)
    · obtain rfl : v = 18 := (z32eq v 18).mpr (by rw [hsv]; decide)
      exact z_tabIn (pc := 33) 1010 C dL_law_33 (by decide) (by decide) rfl (by decide) (law_18 C hn hs hb h31 hT ha (hx 18 (by decide)) kk)
    · obtain rfl : v = 19 := (z32eq v 19).mpr (by rw [hsv]; decide)
      exact z_tabIn (pc := 33) 1033 C dL_law_33 (by decide) (by decide) rfl (by decide) (law_19 C hn hs hb h31 hT ha (hx 19 (by decide)) kk)
    · obtain rfl : v = 20 := (z32eq v 20).mpr (by rw [hsv]; decide)
      exact z_tabIn (pc := 33) 1066 C dL_law_33 (by decide) (by decide) rfl (by decide) (law_20 C hn hs hb h31 hT ha (hx 20 (by decide)) kk)
    · obtain rfl : v = 21 := (z32eq v 21).mpr (by rw [hsv]; decide)
      exact z_tabIn (pc := 33) 1089 C dL_law_33 (by decide) (by decide) rfl (by decide) (law_21 C hn hs hb h31 hT ha (hx 21 (by decide)) kk)
    · obtain rfl : v = 22 := (z32eq v 22).mpr (by rw [hsv]; decide)
      exact z_tabIn (pc := 33) 1102 C dL_law_33 (by decide) (by decide) rfl (by decide) (law_22 C hn hs hb h31 hT ha (hx 22 (by decide)) kk)
    · obtain rfl : v = 23 := (z32eq v 23).mpr (by rw [hsv]; decide)
      exact z_tabIn (pc := 33) 1145 C dL_law_33 (by decide) (by decide) rfl (by decide) (law_23 C hn hs hb h31 hT ha (hx 23 (by decide)) kk)
    · obtain rfl : v = 24 := (z32eq v 24).mpr (by rw [hsv]; decide)
      exact z_tabIn (pc := 33) 1158 C dL_law_33 (by decide) (by decide) rfl (by decide) (law_24 C hn hs hb h31 hT ha (hx 24 (by decide)) kk)
    · obtain rfl : v = 25 := (z32eq v 25).mpr (by rw [hsv]; decide)
      exact z_tabIn (pc := 33) 1181 C dL_law_33 (by decide) (by decide) rfl (by decide) (law_25 C hn hs hb h31 hT ha (hx 25 (by decide)) kk)
    · obtain rfl : v = 26 := (z32eq v 26).mpr (by rw [hsv]; decide)
      exact z_tabIn (pc := 33) 1224 C dL_law_33 (by decide) (by decide) rfl (by decide) (law_26 C hn hs hb h31 hT ha (hx 26 (by decide)) kk)
    · obtain rfl : v = 27 := (z32eq v 27).mpr (by rw [hsv]; decide)
      exact z_tabIn (pc := 33) 1247 C dL_law_33 (by decide) (by decide) rfl (by decide) (law_27 C hn hs hb h31 hT ha (hx 27 (by decide)) kk)
    · obtain rfl : v = 28 := (z32eq v 28).mpr (by rw [hsv]; decide)
      exact z_tabIn (pc := 33) 1280 C dL_law_33 (by decide) (by decide) rfl (by decide) (law_28 C hn hs hb h31 hT ha (hx 28 (by decide)) kk)
    · obtain rfl : v = 29 := (z32eq v 29).mpr (by rw [hsv]; decide)
      exact z_tabIn (pc := 33) 1313 C dL_law_33 (by decide) (by decide) rfl (by decide) (law_29 C hn hs hb h31 hT ha (hx 29 (by decide)) kk)
    · obtain rfl : v = 30 := (z32eq v 30).mpr (by rw [hsv]; decide)
      exact z_tabIn (pc := 33) 1356 C dL_law_33 (by decide) (by decide) rfl (by decide) (law_30 C hn hs hb h31 hT ha (hx 30 (by decide)) kk)
    · obtain rfl : v = 31 := (z32eq v 31).mpr (by rw [hsv]; decide)
      exact z_tabIn (pc := 33) 1369 C dL_law_33 (by decide) (by decide) rfl (by decide) (law_31 C hn hs hb h31 hT ha (hx 31 (by decide)) kk)
    · obtain rfl : v = 32 := (z32eq v 32).mpr (by rw [hsv]; decide)
      exact z_tabIn (pc := 33) 1382 C dL_law_33 (by decide) (by decide) rfl (by decide) (law_32 C hn hs hb h31 hT ha (hx 32 (by decide)) kk)
    · obtain rfl : v = 33 := (z32eq v 33).mpr (by rw [hsv]; decide)
      exact z_tabIn (pc := 33) 1425 C dL_law_33 (by decide) (by decide) rfl (by decide) (law_33 C hn hs hb h31 hT ha (hx 33 (by decide)) kk)
    · obtain rfl : v = 34 := (z32eq v 34).mpr (by rw [hsv]; decide)
      exact z_tabIn (pc := 33) 1448 C dL_law_33 (by decide) (by decide) rfl (by decide) (law_34 C hn hs hb h31 hT ha (hx 34 (by decide)) kk)
set_option maxRecDepth 100000 in
set_option maxHeartbeats 4000000 in
theorem law_loop {X : zX} {Ln : Nat} {xs : Nat → Int32} (C : zC X cL_law RL 15) (hn : znL X = 4) (hs : zXs X Ln xs) (h31 : Ln + 14 < 2 ^ 31) (hT : zXst X) (I : Nat → zM → Prop) (hskip : ∀ j f, I j f → I (j + 1) f)
    (hx : ∀ j f, I j f → 7 * j + 7 ≤ Ln → ∀ k, k < 35 → zCall k f (fun i => xs (7 * j + i)) (I (j + 1)))
    (kk : ∀ (f : zM) (o3 : Option zV), Z X 1507 [some (zr 44 0), some (zr 0 0), some (zr 25 0), o3] [] f) :
    ∀ (m j : Nat) (f : zM), Ln ≤ 7 * j + m → 7 * j ≤ Ln + 7 → I j f → Z X 18 [some (zr 44 0), some (zr 0 0), some (zr 25 0), some (zi (nI (7 * j)))] [] f := by
  intro m
  induction m using Nat.strongRecOn with
  | _ m ih =>
    intro j f h1 h2 hI
    refine z_iload_n (pc := 18) C dL_law_18 rfl ?_
    refine z_aload_n (pc := 19) C dL_law_19 rfl ?_
    refine z_slen (pc := 20) (v := nI Ln) C hs rfl dL_law_20 ?_
    refine z_bipush (pc := 21) (v := 7) C dL_law_21 (by decide) ?_
    refine z_isub (pc := 23) C dL_law_23 ?_
    refine z_icmp_gt (pc := 24) 1507 C dL_law_24 (by decide) (fun _ => kk f _) (fun h => ?_)
    have hle : 7 * j + 7 ≤ Ln := by
      rcases Nat.lt_or_ge Ln (7 * j + 7) with q | q
      · exact absurd ((zlen7 (by omega) (by omega)).mpr q) h
      · exact q
    refine law_one (a := fun i => xs (7 * j + i)) C hn hs hle (by omega) hT (fun _ => rfl) (hx j f hI hle) (hskip j f hI) (fun g hg => ?_)
    refine z_iinc (pc := 1501) (v := 7) C dL_law_1501 rfl (by decide) (by rw [hn]; decide) rfl ?_
    refine z_goto (pc := 1504) 18 C dL_law_1504 (by decide) ?_
    rw [show nI (7 * j) + 7 = nI (7 * (j + 1)) from nI_add (7 * j) 7]
    exact ih (m - 7) (by omega) (j + 1) g (by omega) (by omega) hg
/-! ===== the start ===== -/
theorem zarrK {s : State} {ty : FieldType} {c : ClassId} {k : Class} {comp : ClassId} (h1 : s.vm.classes[c]? = some k) (h2 : k.kind = .array comp ty) : ArrOfT s c ty := fun n z => ⟨fun q h => (by cases h), k, h1, comp, h2⟩
theorem zK_start {s : State} {args : Array Value} (hts : ∀ w ∈ lw_tbl, w.before args s = true) : ∃ (D : va_G) (cA : Nat → ClassId), yK D cA s := by
  have hT : ∀ w ∈ zT, w.before args s = true := fun w hw => hts w (List.mem_filter.mp hw).1
  obtain ⟨c0, i0, k0⟩ := u_known (C := RX0) (T := TX0) (N := 6) (n := 6) hT zin_0 (hts (.instantiable RX0 6) (List.mem_of_getElem? (i := 121) (by decide +kernel)))
  obtain ⟨c1, i1, k1⟩ := u_known (C := RX1) (T := TX1) (N := 10) (n := 10) hT zin_1 (hts (.instantiable RX1 10) (List.mem_of_getElem? (i := 155) (by decide +kernel)))
  obtain ⟨c2, i2, k2⟩ := u_known (C := RX2) (T := TX2) (N := 6) (n := 6) hT zin_2 (hts (.instantiable RX2 6) (List.mem_of_getElem? (i := 262) (by decide +kernel)))
  obtain ⟨c3, i3, k3⟩ := u_known (C := RX3) (T := TX3) (N := 7) (n := 7) hT zin_3 (hts (.instantiable RX3 7) (List.mem_of_getElem? (i := 82) (by decide +kernel)))
  obtain ⟨c4, i4, k4⟩ := u_known (C := RX4) (T := TX4) (N := 10) (n := 10) hT zin_4 (hts (.instantiable RX4 10) (List.mem_of_getElem? (i := 209) (by decide +kernel)))
  obtain ⟨c5, i5, k5⟩ := u_known (C := RX5) (T := TX5) (N := 8) (n := 8) hT zin_5 (hts (.instantiable RX5 8) (List.mem_of_getElem? (i := 334) (by decide +kernel)))
  obtain ⟨c6, i6, k6⟩ := u_known (C := RX6) (T := TX6) (N := 3) (n := 3) hT zin_6 (hts (.instantiable RX6 3) (List.mem_of_getElem? (i := 409) (by decide +kernel)))
  obtain ⟨c7, i7, k7⟩ := u_known (C := RX7) (T := TX7) (N := 8) (n := 8) hT zin_7 (hts (.instantiable RX7 8) (List.mem_of_getElem? (i := 367) (by decide +kernel)))
  obtain ⟨c8, i8, k8⟩ := u_known (C := RX8) (T := TX8) (N := 9) (n := 9) hT zin_8 (hts (.instantiable RX8 9) (List.mem_of_getElem? (i := 68) (by decide +kernel)))
  obtain ⟨c9, i9, k9⟩ := u_known (C := RX9) (T := TX9) (N := 6) (n := 6) hT zin_9 (hts (.instantiable RX9 6) (List.mem_of_getElem? (i := 60) (by decide +kernel)))
  obtain ⟨c10, i10, k10⟩ := u_known (C := RX10) (T := TX10) (N := 29) (n := 29) hT zin_10 (hts (.instantiable RX10 29) (List.mem_of_getElem? (i := 1019) (by decide +kernel)))
  obtain ⟨a0, q0, p0, u0, v0, w0⟩ := Cond.arrayClass_spec (hts (.arrayClass .int) (List.mem_of_getElem? (i := 208) (by decide +kernel)))
  obtain ⟨a1, q1, p1, u1, v1, w1⟩ := Cond.arrayClass_spec (hts (.arrayClass .char) (List.mem_of_getElem? (i := 406) (by decide +kernel)))
  have o2 := hts (.arrayOver (.object "SentRoads$Crime")) (List.mem_of_getElem? (i := 74) (by decide +kernel))
  obtain ⟨m2, a2, q2, u2, x2, v2, w2, y2⟩ := Cond.arrayOver_spec o2
  have o3 := hts (.arrayOver (.object "SentRoads$Deed")) (List.mem_of_getElem? (i := 76) (by decide +kernel))
  obtain ⟨m3, a3, q3, u3, x3, v3, w3, y3⟩ := Cond.arrayOver_spec o3
  have o4 := hts (.arrayOver (.object "SentRoads$Paper")) (List.mem_of_getElem? (i := 78) (by decide +kernel))
  obtain ⟨m4, a4, q4, u4, x4, v4, w4, y4⟩ := Cond.arrayOver_spec o4
  have o5 := hts (.arrayOver (.object "SentRoads$Demand")) (List.mem_of_getElem? (i := 80) (by decide +kernel))
  obtain ⟨m5, a5, q5, u5, x5, v5, w5, y5⟩ := Cond.arrayOver_spec o5
  have o6 := hts (.arrayOver (.object "SentRoads$Sheet")) (List.mem_of_getElem? (i := 408) (by decide +kernel))
  obtain ⟨m6, a6, q6, u6, x6, v6, w6, y6⟩ := Cond.arrayOver_spec o6
  refine ⟨((fun k => match k with | 0 => c0 | 1 => c1 | 2 => c2 | 3 => c3 | 4 => c4 | 5 => c5 | 6 => c6 | 7 => c7 | 8 => c8 | 9 => c9 | _ => c10), (fun k => match k with | 0 => i0 | 1 => i1 | 2 => i2 | 3 => i3 | 4 => i4 | 5 => i5 | 6 => i6 | 7 => i7 | 8 => i8 | 9 => i9 | _ => i10)), (fun k => match k with | 0 => a0 | 1 => a1 | 2 => a2 | 3 => a3 | 4 => a4 | 5 => a5 | _ => a6), ⟨⟨?_, ?_⟩, ?_⟩, ?_, ?_⟩
  · intro k q hq
    match k, hq with
    | 0, hq => cases hq; exact k0
    | 1, hq => cases hq; exact k1
    | 2, hq => cases hq; exact k2
    | 3, hq => cases hq; exact k3
    | 4, hq => cases hq; exact k4
    | 5, hq => cases hq; exact k5
    | 6, hq => cases hq; exact k6
    | 7, hq => cases hq; exact k7
    | 8, hq => cases hq; exact k8
    | 9, hq => cases hq; exact k9
    | 10, hq => cases hq; exact k10
    | k + 11, hq => simp [vwCl] at hq
  · intro k q hq
    match k, hq with
    | 0, hq => cases hq; exact ⟨zarrK v0 w0, u0⟩
    | 1, hq => cases hq; exact ⟨zarrK v1 w1, u1⟩
    | 2, hq => cases hq; exact ⟨zarrK v2 w2, q2, m2, v2, w2, u2, y2⟩
    | 3, hq => cases hq; exact ⟨zarrK v3 w3, q3, m3, v3, w3, u3, y3⟩
    | 4, hq => cases hq; exact ⟨zarrK v4 w4, q4, m4, v4, w4, u4, y4⟩
    | 5, hq => cases hq; exact ⟨zarrK v5 w5, q5, m5, v5, w5, u5, y5⟩
    | 6, hq => cases hq; exact ⟨zarrK v6 w6, q6, m6, v6, w6, u6, y6⟩
    | k + 7, hq => simp [ztys] at hq
  · exact va_Nw.of rfl (hts zNest (List.mem_of_getElem? (i := 564) (by decide +kernel)))
  · intro q hq
    simp only [yN, List.mem_cons, List.not_mem_nil, or_false] at hq
    rcases hq with rfl | rfl | rfl | rfl | rfl | rfl | rfl | rfl | rfl
    · exact va_Nw.of rfl (hts _ (List.mem_of_getElem? (i := 410) (by decide +kernel)))
    · exact va_Nw.of rfl (hts _ (List.mem_of_getElem? (i := 340) (by decide +kernel)))
    · exact va_Nw.of rfl (hts _ (List.mem_of_getElem? (i := 374) (by decide +kernel)))
    · exact va_Nw.of rfl (hts _ (List.mem_of_getElem? (i := 375) (by decide +kernel)))
    · exact va_Nw.of rfl (hts _ (List.mem_of_getElem? (i := 83) (by decide +kernel)))
    · exact va_Nw.of rfl (hts _ (List.mem_of_getElem? (i := 122) (by decide +kernel)))
    · exact va_Nw.of rfl (hts _ (List.mem_of_getElem? (i := 156) (by decide +kernel)))
    · exact va_Nw.of rfl (hts _ (List.mem_of_getElem? (i := 210) (by decide +kernel)))
    · exact va_Nw.of rfl (hts _ (List.mem_of_getElem? (i := 263) (by decide +kernel)))
  · intro t h1 h2
    rcases (show t = 2 ∨ t = 3 ∨ t = 4 ∨ t = 5 ∨ t = 6 by omega) with rfl | rfl | rfl | rfl | rfl
    · exact va_AO.of o2
    · exact va_AO.of o3
    · exact va_AO.of o4
    · exact va_AO.of o5
    · exact va_AO.of o6
/-! the invariant at the start -/
theorem zrgC_0 (r : Nat) : (zrgC r).1 ≤ 0 ∧ 0 ≤ (zrgC r).2 := by unfold zrgC; split <;> decide
theorem zrgD_0 (r : Nat) : (zrgD r).1 ≤ 0 ∧ 0 ≤ (zrgD r).2 := by unfold zrgD; split <;> decide
theorem zrgP_0 (r : Nat) : (zrgP r).1 ≤ 0 ∧ 0 ≤ (zrgP r).2 := by unfold zrgP; split <;> decide
theorem zrgK_0 (r : Nat) : (zrgK r).1 ≤ 0 ∧ 0 ≤ (zrgK r).2 := by unfold zrgK; split <;> decide
theorem zrgM_0 (r : Nat) : (zrgM r).1 ≤ 0 ∧ 0 ≤ (zrgM r).2 := by unfold zrgM; split <;> decide
theorem zrgN_0 (r : Nat) : (zrgN r).1 ≤ 0 ∧ 0 ≤ (zrgN r).2 := by unfold zrgN; split <;> decide
theorem zrg39_0 (j : Nat) : (zrg 39 j).1 ≤ 0 ∧ 0 ≤ (zrg 39 j).2 := by
  have e : zrg 39 j = (if j < 4 then zrgN j else if j < 148 then zrgC ((j - 4) % 6) else if j < 188 then zrgD ((j - 148) % 5) else if j < 284 then zrgP ((j - 188) % 8) else if j < 308 then zrgK ((j - 284) % 3) else if j < 315 then zrgM (j - 308) else (0, 0)) := rfl
  rw [e]
  split
  · exact zrgN_0 _
  · split
    · exact zrgC_0 _
    · split
      · exact zrgD_0 _
      · split
        · exact zrgP_0 _
        · split
          · exact zrgK_0 _
          · split
            · exact zrgM_0 _
            · decide
theorem zrg_0 (k j : Nat) : (zrg k j).1 ≤ 0 ∧ 0 ≤ (zrg k j).2 := by
  by_cases hk : k = 39
  · subst hk; exact zrg39_0 j
  · unfold zrg
    split
    all_goals first
      | exact absurd rfl hk
      | exact zrgC_0 _
      | exact zrgD_0 _
      | exact zrgP_0 _
      | exact zrgK_0 _
      | exact zrgM_0 _
      | exact zrgN_0 _
      | decide
      | (split <;> decide)
theorem zInv_0 : zInv z0 := by
  intro k n j
  have h0 := zrg_0 k j
  have hz : (0 : Int32).toInt = 0 := by decide
  unfold z0
  split
  · split
    · subst_vars; decide
    · split
      · subst_vars; decide
      · rw [hz]; exact h0
  · split
    · subst_vars; decide
    · rw [hz]; exact h0
  · simp only [yri, z0w, ylk]
    by_cases h5 : 5 = j
    · subst h5; decide
    · by_cases h4 : 4 = j
      · subst h4; decide
      · by_cases h3 : 3 = j
        · subst h3; decide
        · simp only [h5, h4, h3, if_false]; rw [hz]; exact h0
  · simp only [yri, z0w, ylk]
    by_cases h5 : 3 = j
    · subst h5; decide
    · by_cases h4 : 2 = j
      · subst h4; decide
      · by_cases h3 : 1 = j
        · subst h3; decide
        · by_cases h2 : 0 = j
          · subst h2; decide
          · simp only [h5, h4, h3, h2, if_false]; rw [hz]; exact h0
  · rw [hz]; exact h0
/-! the two texts at the start -/
theorem vk_S_congr {N : Nat} {len : List Nat} {byt : List (List Int32)} {adK adV aK aV : Nat → Nat} {A : Nat → Prop} {U : State} {H : Heap} (h : vk_S N len byt adK adV A U H) (e1 : ∀ i, i < N → aK i = adK i) (e2 : ∀ i, i < N → aV i = adV i) : vk_S N len byt aK aV A U H :=
  ⟨fun i hi => by rw [e1 i hi, e2 i hi]; exact h.1 i hi, fun i j hi hj e => h.2 i j hi hj (by rw [← e1 i hi, ← e1 j hj]; exact e)⟩
theorem zSt_start {s : State} {args : Array Value} {A : Nat → Prop} (hts : ∀ w ∈ lw_tbl, w.before args s = true) (hgv : (Jvm.Cond.and given_1 narrow_1).before args s = true) (hA : ∀ a : Nat, a < s.heap.size → ¬ A a) : ∃ adK adV : Nat → Nat, vk_S 2 zLen zByt adK adV A s s.heap ∧ va_Z "java/lang/String" "COMPACT_STRINGS" "Z" (.int 1) A s s.heap ∧ vk_R "SentRoads$Tape" 89 "ojpkh" (adK 0) s ∧ vk_R "SentRoads$Tape" 115 "DSO" (adK 1) s := by
  have hs := flat_of_before _ hgv
  have two : ∀ i : Nat, i < 2 → i = 0 ∨ i = 1 := fun i hi => by omega
  obtain ⟨adK, adV, h1, h2⟩ := vk_Sof (args := args) (s := s) (N := 2) (tm := fun i => if i = 0 then .string "SentRoads$Tape" 89 else .string "SentRoads$Tape" 115) (len := zLen) (byt := zByt) (A := A)
    (fun i hi => by rcases two i hi with rfl | rfl <;> decide)
    (fun i hi => by rcases two i hi with rfl | rfl <;> exact hs _ (by decide +kernel))
    (fun i hi => by rcases two i hi with rfl | rfl <;> exact hs _ (by decide +kernel))
    (fun i hi => by rcases two i hi with rfl | rfl <;> exact hs _ (by decide +kernel))
    (fun i hi => by rcases two i hi with rfl | rfl <;> exact hs _ (by decide +kernel))
    (fun i hi j hj => by
      rcases two i hi with rfl | rfl
      · have hj : j < 5 := hj
        rcases (show j = 0 ∨ j = 1 ∨ j = 2 ∨ j = 3 ∨ j = 4 by omega) with rfl | rfl | rfl | rfl | rfl <;> exact hs _ (by decide +kernel)
      · have hj : j < 3 := hj
        rcases (show j = 0 ∨ j = 1 ∨ j = 2 by omega) with rfl | rfl | rfl <;> exact hs _ (by decide +kernel))
    (fun i j hi hj hij => by
      rcases two i hi with rfl | rfl <;> rcases two j hj with rfl | rfl
      · exact absurd rfl hij
      · first | exact Or.inl (hs _ (by decide +kernel)) | exact Or.inr (hs _ (by decide +kernel))
      · first | exact Or.inl (hs _ (by decide +kernel)) | exact Or.inr (hs _ (by decide +kernel))
      · exact absurd rfl hij)
    hA
  refine ⟨adK, adV, h1, va_Zof (hts (.laysStatic "java/lang/String" "COMPACT_STRINGS" "Z") (List.mem_of_getElem? (i := 612) (by decide +kernel))) (hts (.initialized "java/lang/String") (List.mem_of_getElem? (i := 53) (by decide +kernel))) (va_eqi (hs (.eq (.static "java/lang/String" "COMPACT_STRINGS" "Z") (.int 1)) (by decide +kernel))) hA, vk_R.of (hts (.stringRef "SentRoads$Tape" 89 "ojpkh") (List.mem_of_getElem? (i := 598) (by decide +kernel))) (h2 0 (by decide)), vk_R.of (hts (.stringRef "SentRoads$Tape" 115 "DSO") (List.mem_of_getElem? (i := 690) (by decide +kernel))) (h2 1 (by decide))⟩
