theorem zbl_B (x : Int32) : zB (zbl x) 0 1 := by unfold zbl; split <;> decide
theorem qc_0 (f : zM) (hI : zInv f) (a : Nat → Int32) : zCall_0 f a zInv := ZM.mono (w_X9_crime 11 f ((a 1)) (zB_any _) ((a 2)) (zB_any _) ((a 3)) (zB_any _) ((a 4)) (zB_any _) ((a 5)) (zB_any _) ((zbl (a 6))) (zbl_B _) hI) (fun r g h => by
  obtain ⟨⟨v, rfl, _⟩, hg, _⟩ := h
  refine ⟨v, rfl, ?_⟩
  refine ZM.mono (w_X10_crime 12 g ((a 1)) (zB_any _) ((a 2)) (zB_any _) ((a 3)) (zB_any _) ((a 4)) (zB_any _) ((a 5)) (zB_any _) ((zbl (a 6))) (zbl_B _) hg) (fun r2 g2 h2 => ?_)
  obtain ⟨⟨v2, rfl, _⟩, hg2, _⟩ := h2
  exact ⟨⟨v2, rfl⟩, hg2⟩)
theorem qc_1 (f : zM) (hI : zInv f) (a : Nat → Int32) : zCall_1 f a zInv := ZM.mono (w_X9_deed 10 f ((a 1)) (zB_any _) ((a 2)) (zB_any _) ((a 3)) (zB_any _) ((a 4)) (zB_any _) hI) (fun r g h => by
  obtain ⟨⟨v, rfl, _⟩, hg, _⟩ := h
  refine ⟨v, rfl, ?_⟩
  refine ZM.mono (w_X10_deed 12 g ((a 1)) (zB_any _) ((a 2)) (zB_any _) ((a 3)) (zB_any _) ((a 4)) (zB_any _) hg) (fun r2 g2 h2 => ?_)
  obtain ⟨⟨v2, rfl, _⟩, hg2, _⟩ := h2
  exact ⟨⟨v2, rfl⟩, hg2⟩)
theorem qc_2 (f : zM) (hI : zInv f) (a : Nat → Int32) : zCall_2 f a zInv := ZM.mono (w_X9_years 12 f ((a 1)) (zB_any _) ((a 2)) (zB_any _) ((a 3)) (zB_any _) ((a 4)) (zB_any _) ((a 5)) (zB_any _) ((a 6)) (zB_any _) hI) (fun r g h => by
  obtain ⟨⟨v, rfl, _⟩, hg, _⟩ := h
  refine ⟨v, rfl, ?_⟩
  refine ZM.mono (w_X10_years 11 g ((a 1)) (zB_any _) ((a 2)) (zB_any _) ((a 3)) (zB_any _) ((a 4)) (zB_any _) ((a 5)) (zB_any _) ((a 6)) (zB_any _) hg) (fun r2 g2 h2 => ?_)
  obtain ⟨⟨v2, rfl, _⟩, hg2, _⟩ := h2
  exact ⟨⟨v2, rfl⟩, hg2⟩)
theorem qc_3 (f : zM) (hI : zInv f) (a : Nat → Int32) : zCall_3 f a zInv := ZM.mono (w_X9_named 12 f ((a 1)) (zB_any _) ((a 2)) (zB_any _) ((a 3)) (zB_any _) ((a 4)) (zB_any _) ((a 5)) (zB_any _) ((a 6)) (zB_any _) hI) (fun r g h => by
  obtain ⟨⟨v, rfl, _⟩, hg, _⟩ := h
  refine ⟨v, rfl, ?_⟩
  refine ZM.mono (w_X10_named 11 g ((a 1)) (zB_any _) ((a 2)) (zB_any _) ((a 3)) (zB_any _) ((a 4)) (zB_any _) ((a 5)) (zB_any _) ((a 6)) (zB_any _) hg) (fun r2 g2 h2 => ?_)
  obtain ⟨⟨v2, rfl, _⟩, hg2, _⟩ := h2
  exact ⟨⟨v2, rfl⟩, hg2⟩)
theorem qc_4 (f : zM) (hI : zInv f) (a : Nat → Int32) : zCall_4 f a zInv := ZM.mono (w_X9_custom 12 f ((a 1)) (zB_any _) ((a 2)) (zB_any _) ((a 3)) (zB_any _) ((a 4)) (zB_any _) ((a 5)) (zB_any _) hI) (fun r g h => by
  obtain ⟨⟨v, rfl, _⟩, hg, _⟩ := h
  refine ⟨v, rfl, ?_⟩
  refine ZM.mono (w_X10_custom 11 g ((a 1)) (zB_any _) ((a 2)) (zB_any _) ((a 3)) (zB_any _) ((a 4)) (zB_any _) ((a 5)) (zB_any _) hg) (fun r2 g2 h2 => ?_)
  obtain ⟨⟨v2, rfl, _⟩, hg2, _⟩ := h2
  exact ⟨⟨v2, rfl⟩, hg2⟩)
theorem qc_5 (f : zM) (hI : zInv f) (a : Nat → Int32) : zCall_5 f a zInv := ZM.mono (w_X9_type 13 f (((a 1).toInt64 <<< ((32 : Int32).toInt64 &&& 63) ||| (a 2).toInt64 &&& 4294967295)) ((a 3)) (zB_any _) hI) (fun r g h => by
  obtain ⟨⟨v, rfl, _⟩, hg, _⟩ := h
  refine ⟨v, rfl, ?_⟩
  refine ZM.mono (w_X10_type 13 g (((a 1).toInt64 <<< ((32 : Int32).toInt64 &&& 63) ||| (a 2).toInt64 &&& 4294967295)) ((a 3)) (zB_any _) hg) (fun r2 g2 h2 => ?_)
  obtain ⟨⟨v2, rfl, _⟩, hg2, _⟩ := h2
  exact ⟨⟨v2, rfl⟩, hg2⟩)
theorem qc_6 (f : zM) (hI : zInv f) (a : Nat → Int32) : zCall_6 f a zInv := ZMs.mono (w_X9_world 5 f  hI) (fun r g h => by
  obtain ⟨⟨v, rfl, _⟩, hg, _⟩ := h
  refine ⟨v, rfl, ?_⟩
  refine ZM.mono (w_X10_world 10 g  hg) (fun r2 g2 h2 => ?_)
  obtain ⟨⟨v2, rfl, _⟩, hg2, _⟩ := h2
  exact ⟨⟨v2, rfl⟩, hg2⟩)
theorem qc_7 (f : zM) (hI : zInv f) (a : Nat → Int32) : zCall_7 f a zInv := ZM.mono (w_X9_crimeOf 14 f ((a 1)) (zB_any _) ((a 2)) (zB_any _) hI) (fun r g h => by
  obtain ⟨⟨v, rfl, _⟩, hg, _⟩ := h
  refine ⟨v, rfl, ?_⟩
  refine ZM.mono (w_X10_crimeOf 13 g ((a 1)) (zB_any _) ((a 2)) (zB_any _) hg) (fun r2 g2 h2 => ?_)
  obtain ⟨⟨v2, rfl, _⟩, hg2, _⟩ := h2
  exact ⟨⟨v2, rfl⟩, hg2⟩)
theorem qc_8 (f : zM) (hI : zInv f) (a : Nat → Int32) : zCall_8 f a zInv := ZM.mono (w_X9_paper 13 f ((a 1)) (zB_any _) ((a 2)) (zB_any _) hI) (fun r g h => by
  obtain ⟨⟨v, rfl, _⟩, hg, _⟩ := h
  refine ⟨v, rfl, ?_⟩
  refine ZM.mono (w_X10_paper 12 g ((a 1)) (zB_any _) ((a 2)) (zB_any _) hg) (fun r2 g2 h2 => ?_)
  obtain ⟨⟨v2, rfl, _⟩, hg2, _⟩ := h2
  exact ⟨⟨v2, rfl⟩, hg2⟩)
theorem qc_9 (f : zM) (hI : zInv f) (a : Nat → Int32) : zCall_9 f a zInv := ZM.mono (w_X9_bars 13 f ((a 1)) (zB_any _) ((a 2)) (zB_any _) hI) (fun r g h => by
  obtain ⟨⟨v, rfl, _⟩, hg, _⟩ := h
  refine ⟨v, rfl, ?_⟩
  refine ZM.mono (w_X10_bars 12 g ((a 1)) (zB_any _) ((a 2)) (zB_any _) hg) (fun r2 g2 h2 => ?_)
  obtain ⟨⟨v2, rfl, _⟩, hg2, _⟩ := h2
  exact ⟨⟨v2, rfl⟩, hg2⟩)
theorem qc_10 (f : zM) (hI : zInv f) (a : Nat → Int32) : zCall_10 f a zInv := ZM.mono (w_X9_matches 13 f ((a 1)) (zB_any _) ((a 2)) (zB_any _) ((a 3)) (zB_any _) hI) (fun r g h => by
  obtain ⟨⟨v, rfl, _⟩, hg, _⟩ := h
  refine ⟨v, rfl, ?_⟩
  refine ZM.mono (w_X10_matches 12 g ((a 1)) (zB_any _) ((a 2)) (zB_any _) ((a 3)) (zB_any _) hg) (fun r2 g2 h2 => ?_)
  obtain ⟨⟨v2, rfl, _⟩, hg2, _⟩ := h2
  exact ⟨⟨v2, rfl⟩, hg2⟩)
theorem qc_11 (f : zM) (hI : zInv f) (a : Nat → Int32) : zCall_11 f a zInv := ZM.mono (w_X9_yearsOf 13 f ((a 1)) (zB_any _) ((a 2)) (zB_any _) ((a 3)) (zB_any _) hI) (fun r g h => by
  obtain ⟨⟨v, rfl, _⟩, hg, _⟩ := h
  refine ⟨v, rfl, ?_⟩
  refine ZM.mono (w_X10_yearsOf 11 g ((a 1)) (zB_any _) ((a 2)) (zB_any _) ((a 3)) (zB_any _) hg) (fun r2 g2 h2 => ?_)
  obtain ⟨⟨v2, rfl, _⟩, hg2, _⟩ := h2
  exact ⟨⟨v2, rfl⟩, hg2⟩)
theorem qc_12 (f : zM) (hI : zInv f) (a : Nat → Int32) : zCall_12 f a zInv := ZM.mono (w_X9_shows 11 f ((a 1)) (zB_any _) ((a 2)) (zB_any _) ((a 3)) (zB_any _) ((a 4)) (zB_any _) hI) (fun r g h => by
  obtain ⟨⟨v, rfl, _⟩, hg, _⟩ := h
  refine ⟨v, rfl, ?_⟩
  refine ZM.mono (w_X10_shows 12 g ((a 1)) (zB_any _) ((a 2)) (zB_any _) ((a 3)) (zB_any _) ((a 4)) (zB_any _) hg) (fun r2 g2 h2 => ?_)
  obtain ⟨⟨v2, rfl, _⟩, hg2, _⟩ := h2
  exact ⟨⟨v2, rfl⟩, hg2⟩)
theorem qc_13 (f : zM) (hI : zInv f) (a : Nat → Int32) : zCall_13 f a zInv := ZM.mono (w_X9_count 14 f ((a 1)) (zB_any _) hI) (fun r g h => by
  obtain ⟨⟨v, rfl, _⟩, hg, _⟩ := h
  refine ⟨v, rfl, ?_⟩
  refine ZM.mono (w_X10_count 14 g ((a 1)) (zB_any _) hg) (fun r2 g2 h2 => ?_)
  obtain ⟨⟨v2, rfl, _⟩, hg2, _⟩ := h2
  exact ⟨⟨v2, rfl⟩, hg2⟩)
theorem qc_14 (f : zM) (hI : zInv f) (a : Nat → Int32) : zCall_14 f a zInv := ZM.mono (w_X9_man 13 f ((a 1)) (zB_any _) ((a 2)) (zB_any _) hI) (fun r g h => by
  obtain ⟨⟨v, rfl, _⟩, hg, _⟩ := h
  refine ⟨v, rfl, ?_⟩
  refine ZM.mono (w_X10_man 12 g ((a 1)) (zB_any _) ((a 2)) (zB_any _) hg) (fun r2 g2 h2 => ?_)
  obtain ⟨⟨v2, rfl, _⟩, hg2, _⟩ := h2
  exact ⟨⟨v2, rfl⟩, hg2⟩)
theorem qc_15 (f : zM) (hI : zInv f) (a : Nat → Int32) : zCall_15 f a zInv := ZM.mono (w_X9_judged 13 f ((a 1)) (zB_any _) ((zbl (a 2))) (zbl_B _) hI) (fun r g h => by
  obtain ⟨⟨v, rfl, _⟩, hg, _⟩ := h
  refine ⟨v, rfl, ?_⟩
  refine ZM.mono (w_X10_judged 12 g ((a 1)) (zB_any _) ((zbl (a 2))) (zbl_B _) hg) (fun r2 g2 h2 => ?_)
  obtain ⟨⟨v2, rfl, _⟩, hg2, _⟩ := h2
  exact ⟨⟨v2, rfl⟩, hg2⟩)
theorem qc_16 (f : zM) (hI : zInv f) (a : Nat → Int32) : zCall_16 f a zInv := ZM.mono (w_X9_bound 13 f ((a 1)) (zB_any _) hI) (fun r g h => by
  obtain ⟨⟨v, rfl, _⟩, hg, _⟩ := h
  refine ⟨v, rfl, ?_⟩
  refine ZM.mono (w_X10_bound 13 g ((a 1)) (zB_any _) hg) (fun r2 g2 h2 => ?_)
  obtain ⟨⟨v2, rfl, _⟩, hg2, _⟩ := h2
  exact ⟨⟨v2, rfl⟩, hg2⟩)
theorem qc_17 (f : zM) (hI : zInv f) (a : Nat → Int32) : zCall_17 f a zInv := ZM.mono (w_X9_covers 12 f ((a 1)) (zB_any _) hI) (fun r g h => by
  obtain ⟨⟨v, rfl, _⟩, hg, _⟩ := h
  refine ⟨v, rfl, ?_⟩
  refine ZM.mono (w_X10_covers 10 g ((a 1)) (zB_any _) hg) (fun r2 g2 h2 => ?_)
  obtain ⟨⟨v2, rfl, _⟩, hg2, _⟩ := h2
  exact ⟨⟨v2, rfl⟩, hg2⟩)
theorem qc_18 (f : zM) (hI : zInv f) (a : Nat → Int32) : zCall_18 f a zInv := ZM.mono (w_X9_lets 11 f ((a 1)) (zB_any _) hI) (fun r g h => by
  obtain ⟨⟨v, rfl, _⟩, hg, _⟩ := h
  refine ⟨v, rfl, ?_⟩
  refine ZM.mono (w_X10_lets 8 g ((a 1)) (zB_any _) hg) (fun r2 g2 h2 => ?_)
  obtain ⟨⟨v2, rfl, _⟩, hg2, _⟩ := h2
  exact ⟨⟨v2, rfl⟩, hg2⟩)
theorem qc_19 (f : zM) (hI : zInv f) (a : Nat → Int32) : zCall_19 f a zInv := ZM.mono (w_X9_barred 12 f ((a 1)) (zB_any _) ((a 2)) (zB_any _) hI) (fun r g h => by
  obtain ⟨⟨v, rfl, _⟩, hg, _⟩ := h
  refine ⟨v, rfl, ?_⟩
  refine ZM.mono (w_X10_barred 10 g ((a 1)) (zB_any _) ((a 2)) (zB_any _) hg) (fun r2 g2 h2 => ?_)
  obtain ⟨⟨v2, rfl, _⟩, hg2, _⟩ := h2
  exact ⟨⟨v2, rfl⟩, hg2⟩)
theorem qc_20 (f : zM) (hI : zInv f) (a : Nat → Int32) : zCall_20 f a zInv := ZM.mono (w_X9_send 10 f ((a 1)) (zB_any _) hI) (fun r g h => by
  obtain ⟨⟨v, rfl, _⟩, hg, _⟩ := h
  refine ⟨v, rfl, ?_⟩
  refine ZM.mono (w_X10_send 7 g ((a 1)) (zB_any _) hg) (fun r2 g2 h2 => ?_)
  obtain ⟨⟨v2, rfl, _⟩, hg2, _⟩ := h2
  exact ⟨⟨v2, rfl⟩, hg2⟩)
theorem qc_21 (f : zM) (hI : zInv f) (a : Nat → Int32) : zCall_21 f a zInv := ZM.mono (w_X9_tried 12 f  hI) (fun r g h => by
  obtain ⟨⟨v, rfl, _⟩, hg, _⟩ := h
  refine ⟨v, rfl, ?_⟩
  refine ZM.mono (w_X10_tried 10 g  hg) (fun r2 g2 h2 => ?_)
  obtain ⟨⟨v2, rfl, _⟩, hg2, _⟩ := h2
  exact ⟨⟨v2, rfl⟩, hg2⟩)
theorem qc_22 (f : zM) (hI : zInv f) (a : Nat → Int32) : zCall_22 f a zInv := ZM.mono (w_X9_road 10 f ((a 1)) (zB_any _) ((a 2)) (zB_any _) ((a 3)) (zB_any _) hI) (fun r g h => by
  obtain ⟨⟨v, rfl, _⟩, hg, _⟩ := h
  refine ⟨v, rfl, ?_⟩
  refine ZM.mono (w_X10_road 8 g ((a 1)) (zB_any _) ((a 2)) (zB_any _) ((a 3)) (zB_any _) hg) (fun r2 g2 h2 => ?_)
  obtain ⟨⟨v2, rfl, _⟩, hg2, _⟩ := h2
  exact ⟨⟨v2, rfl⟩, hg2⟩)
theorem qc_23 (f : zM) (hI : zInv f) (a : Nat → Int32) : zCall_23 f a zInv := ZM.mono (w_X9_lands 10 f  hI) (fun r g h => by
  obtain ⟨⟨v, rfl, _⟩, hg, _⟩ := h
  refine ⟨v, rfl, ?_⟩
  refine ZM.mono (w_X10_lands 8 g  hg) (fun r2 g2 h2 => ?_)
  obtain ⟨⟨v2, rfl, _⟩, hg2, _⟩ := h2
  exact ⟨⟨v2, rfl⟩, hg2⟩)
theorem qc_24 (f : zM) (hI : zInv f) (a : Nat → Int32) : zCall_24 f a zInv := ZM.mono (w_X9_safe 10 f ((a 1)) (zB_any _) hI) (fun r g h => by
  obtain ⟨⟨v, rfl, _⟩, hg, _⟩ := h
  refine ⟨v, rfl, ?_⟩
  refine ZM.mono (w_X10_safe 9 g ((a 1)) (zB_any _) hg) (fun r2 g2 h2 => ?_)
  obtain ⟨⟨v2, rfl, _⟩, hg2, _⟩ := h2
  exact ⟨⟨v2, rfl⟩, hg2⟩)
theorem qc_25 (f : zM) (hI : zInv f) (a : Nat → Int32) : zCall_25 f a zInv := ZM.mono (w_X9_demand 13 f ((a 1)) (zB_any _) ((a 2)) (zB_any _) ((a 3)) (zB_any _) hI) (fun r g h => by
  obtain ⟨⟨v, rfl, _⟩, hg, _⟩ := h
  refine ⟨v, rfl, ?_⟩
  refine ZM.mono (w_X10_demand 12 g ((a 1)) (zB_any _) ((a 2)) (zB_any _) ((a 3)) (zB_any _) hg) (fun r2 g2 h2 => ?_)
  obtain ⟨⟨v2, rfl, _⟩, hg2, _⟩ := h2
  exact ⟨⟨v2, rfl⟩, hg2⟩)
theorem qc_26 (f : zM) (hI : zInv f) (a : Nat → Int32) : zCall_26 f a zInv := ZM.mono (w_X9_ahead 10 f ((a 1)) (zB_any _) hI) (fun r g h => by
  obtain ⟨⟨v, rfl, _⟩, hg, _⟩ := h
  refine ⟨v, rfl, ?_⟩
  refine ZM.mono (w_X10_ahead 5 g ((a 1)) (zB_any _) hg) (fun r2 g2 h2 => ?_)
  obtain ⟨⟨v2, rfl, _⟩, hg2, _⟩ := h2
  exact ⟨⟨v2, rfl⟩, hg2⟩)
theorem qc_27 (f : zM) (hI : zInv f) (a : Nat → Int32) : zCall_27 f a zInv := ZM.mono (w_X9_promises 10 f ((a 1)) (zB_any _) ((a 2)) (zB_any _) hI) (fun r g h => by
  obtain ⟨⟨v, rfl, _⟩, hg, _⟩ := h
  refine ⟨v, rfl, ?_⟩
  refine ZM.mono (w_X10_promises 8 g ((a 1)) (zB_any _) ((a 2)) (zB_any _) hg) (fun r2 g2 h2 => ?_)
  obtain ⟨⟨v2, rfl, _⟩, hg2, _⟩ := h2
  exact ⟨⟨v2, rfl⟩, hg2⟩)
theorem qc_28 (f : zM) (hI : zInv f) (a : Nat → Int32) : zCall_28 f a zInv := ZM.mono (w_X9_mended 10 f ((a 1)) (zB_any _) ((a 2)) (zB_any _) hI) (fun r g h => by
  obtain ⟨⟨v, rfl, _⟩, hg, _⟩ := h
  refine ⟨v, rfl, ?_⟩
  refine ZM.mono (w_X10_mended 9 g ((a 1)) (zB_any _) ((a 2)) (zB_any _) hg) (fun r2 g2 h2 => ?_)
  obtain ⟨⟨v2, rfl, _⟩, hg2, _⟩ := h2
  exact ⟨⟨v2, rfl⟩, hg2⟩)
theorem qc_29 (f : zM) (hI : zInv f) (a : Nat → Int32) : zCall_29 f a zInv := ZM.mono (w_X9_part 12 f ((a 1)) (zB_any _) ((a 2)) (zB_any _) ((a 3)) (zB_any _) hI) (fun r g h => by
  obtain ⟨⟨v, rfl, _⟩, hg, _⟩ := h
  refine ⟨v, rfl, ?_⟩
  refine ZM.mono (w_X10_part 12 g ((a 1)) (zB_any _) ((a 2)) (zB_any _) ((a 3)) (zB_any _) hg) (fun r2 g2 h2 => ?_)
  obtain ⟨⟨v2, rfl, _⟩, hg2, _⟩ := h2
  exact ⟨⟨v2, rfl⟩, hg2⟩)
theorem qc_30 (f : zM) (hI : zInv f) (a : Nat → Int32) : zCall_30 f a zInv := ZM.mono (w_X9_image 10 f  hI) (fun r g h => by
  obtain ⟨⟨v, rfl, hb⟩, hg, hv⟩ := h
  refine ⟨v, rfl, ?_⟩
  refine ZM.mono (w_X10_image 13 g  hg) (fun r2 g2 h2 => ?_)
  obtain ⟨⟨v2, rfl, hb2⟩, hg2, hv2⟩ := h2
  refine ⟨?_, hg2⟩
  rw [(z32eq v2 v).mpr (by omega)])
theorem qc_31 (f : zM) (hI : zInv f) (a : Nat → Int32) : zCall_31 f a zInv := ZM.mono (w_X9_restore 10 f  hI) (fun r g h => by
  obtain ⟨⟨v, rfl, _⟩, hg, _⟩ := h
  refine ⟨v, rfl, ?_⟩
  refine ZM.mono (w_X10_restore 13 g  hg) (fun r2 g2 h2 => ?_)
  obtain ⟨⟨v2, rfl, _⟩, hg2, _⟩ := h2
  exact ⟨⟨v2, rfl⟩, hg2⟩)
theorem qc_32 (f : zM) (hI : zInv f) (a : Nat → Int32) : zCall_32 f a zInv := ZM.mono (w_X9_sheet 12 f ((a 1)) (zB_any _) ((a 2)) (zB_any _) ((a 3)) (zB_any _) hI) (fun r g h => by
  obtain ⟨⟨v, rfl, _⟩, hg, _⟩ := h
  refine ⟨v, rfl, ?_⟩
  refine ZM.mono (w_X10_sheet 12 g ((a 1)) (zB_any _) ((a 2)) (zB_any _) ((a 3)) (zB_any _) hg) (fun r2 g2 h2 => ?_)
  obtain ⟨⟨v2, rfl, _⟩, hg2, _⟩ := h2
  exact ⟨⟨v2, rfl⟩, hg2⟩)
theorem qc_33 (f : zM) (hI : zInv f) (a : Nat → Int32) : zCall_33 f a zInv := ZM.mono (w_X9_drop 13 f ((a 1)) (zB_any _) hI) (fun r g h => by
  obtain ⟨⟨v, rfl, _⟩, hg, _⟩ := h
  refine ⟨v, rfl, ?_⟩
  refine ZM.mono (w_X10_drop 13 g ((a 1)) (zB_any _) hg) (fun r2 g2 h2 => ?_)
  obtain ⟨⟨v2, rfl, _⟩, hg2, _⟩ := h2
  exact ⟨⟨v2, rfl⟩, hg2⟩)
theorem qc_34 (f : zM) (hI : zInv f) (a : Nat → Int32) : zCall_34 f a zInv := ZM.mono (w_X9_item 13 f ((a 1)) (zB_any _) ((a 2)) (zB_any _) ((a 3)) (zB_any _) ((a 4)) (zB_any _) hI) (fun r g h => by
  obtain ⟨⟨v, rfl, _⟩, hg, _⟩ := h
  refine ⟨v, rfl, ?_⟩
  refine ZM.mono (w_X10_item 12 g ((a 1)) (zB_any _) ((a 2)) (zB_any _) ((a 3)) (zB_any _) ((a 4)) (zB_any _) hg) (fun r2 g2 h2 => ?_)
  obtain ⟨⟨v2, rfl, _⟩, hg2, _⟩ := h2
  exact ⟨⟨v2, rfl⟩, hg2⟩)
theorem qc_all (f : zM) (hI : zInv f) (a : Nat → Int32) : ∀ k, k < 35 → zCall k f a zInv
  | 0, _ => qc_0 f hI a
  | 1, _ => qc_1 f hI a
  | 2, _ => qc_2 f hI a
  | 3, _ => qc_3 f hI a
  | 4, _ => qc_4 f hI a
  | 5, _ => qc_5 f hI a
  | 6, _ => qc_6 f hI a
  | 7, _ => qc_7 f hI a
  | 8, _ => qc_8 f hI a
  | 9, _ => qc_9 f hI a
  | 10, _ => qc_10 f hI a
  | 11, _ => qc_11 f hI a
  | 12, _ => qc_12 f hI a
  | 13, _ => qc_13 f hI a
  | 14, _ => qc_14 f hI a
  | 15, _ => qc_15 f hI a
  | 16, _ => qc_16 f hI a
  | 17, _ => qc_17 f hI a
  | 18, _ => qc_18 f hI a
  | 19, _ => qc_19 f hI a
  | 20, _ => qc_20 f hI a
  | 21, _ => qc_21 f hI a
  | 22, _ => qc_22 f hI a
  | 23, _ => qc_23 f hI a
  | 24, _ => qc_24 f hI a
  | 25, _ => qc_25 f hI a
  | 26, _ => qc_26 f hI a
  | 27, _ => qc_27 f hI a
  | 28, _ => qc_28 f hI a
  | 29, _ => qc_29 f hI a
  | 30, _ => qc_30 f hI a
  | 31, _ => qc_31 f hI a
  | 32, _ => qc_32 f hI a
  | 33, _ => qc_33 f hI a
  | 34, _ => qc_34 f hI a
  | k + 35, h => absurd h (by omega)