theorem zbl_B (x : Int32) : zB (zbl x) 0 1 := by unfold zbl; split <;> decide
def zRel (f : zM) : Prop := ∀ s, s < 4 → f 23 s 1 = f 41 0 s ∧ f 23 s 2 = f 42 0 s
theorem zRel_keep {S T : List (Nat × Option Nat)} {f g g2 : zM} (h : zRel f) (hF : zFr S f g) (hG : zFr T g g2) (s1 : zS S 23 1 = false) (s2 : zS S 23 2 = false) (s3 : ∀ j, zS S 41 j = false) (s4 : ∀ j, zS S 42 j = false) (t1 : zS T 23 1 = false) (t2 : zS T 23 2 = false) (t3 : ∀ j, zS T 41 j = false) (t4 : ∀ j, zS T 42 j = false) : zRel g2 := by
  intro s hs
  rw [hG 23 s 1 t1, hG 23 s 2 t2, hG 41 0 s (t3 s), hG 42 0 s (t4 s), hF 23 s 1 s1, hF 23 s 2 s2, hF 41 0 s (s3 s), hF 42 0 s (s4 s)]
  exact h s hs
theorem zRel_0 : zRel z0 := by
  intro s hs
  rcases (show s = 0 ∨ s = 1 ∨ s = 2 ∨ s = 3 by omega) with rfl | rfl | rfl | rfl <;> exact ⟨rfl, rfl⟩
theorem zfill_any {f : zM} (hI : zInv f) {k n len : Nat} {v : Int32} (h : ∀ j, (zrg k j).1 ≤ v.toInt ∧ v.toInt ≤ (zrg k j).2) : zInv (zfill f k n len v) := by
  intro a b c
  unfold zfill
  split
  · rename_i q
    obtain ⟨rfl, rfl, _⟩ := q
    exact h c
  · exact hI a b c
theorem zfo_any {f : zM} (hI : zInv f) {k n a len : Nat} {v : Int32} (h : ∀ j, (zrg k j).1 ≤ v.toInt ∧ v.toInt ≤ (zrg k j).2) : zInv (zfo f k n a len v) := by
  intro x y z
  unfold zfo
  split
  · rename_i q
    obtain ⟨rfl, rfl, _⟩ := q
    exact h z
  · exact hI x y z
theorem qc_0 (f : zM) (hI : zInv f) (hR : zRel f) (a : Nat → Int32) : zCall_0 f a (fun g => zInv g ∧ zRel g) := ZM.mono (w_X9_crime 11 f ((a 1)) (zB_any _) ((a 2)) (zB_any _) ((a 3)) (zB_any _) ((a 4)) (zB_any _) ((a 5)) (zB_any _) ((zbl (a 6))) (zbl_B _) hI) (fun r g h => by
  obtain ⟨⟨v, rfl, _⟩, hg, hF⟩ := h
  refine ⟨v, rfl, ?_⟩
  refine ZM.mono (w_X10_crime 12 g ((a 1)) (zB_any _) ((a 2)) (zB_any _) ((a 3)) (zB_any _) ((a 4)) (zB_any _) ((a 5)) (zB_any _) ((zbl (a 6))) (zbl_B _) hg) (fun r2 g2 h2 => ?_)
  obtain ⟨⟨v2, rfl, _⟩, hg2, hF2⟩ := h2
  exact ⟨⟨v2, rfl⟩, hg2, zRel_keep hR hF hF2 rfl rfl (fun _ => rfl) (fun _ => rfl) rfl rfl (fun _ => rfl) (fun _ => rfl)⟩)
theorem qc_1 (f : zM) (hI : zInv f) (hR : zRel f) (a : Nat → Int32) : zCall_1 f a (fun g => zInv g ∧ zRel g) := ZM.mono (w_X9_deed 10 f ((a 1)) (zB_any _) ((a 2)) (zB_any _) ((a 3)) (zB_any _) ((a 4)) (zB_any _) hI) (fun r g h => by
  obtain ⟨⟨v, rfl, _⟩, hg, hF⟩ := h
  refine ⟨v, rfl, ?_⟩
  refine ZM.mono (w_X10_deed 12 g ((a 1)) (zB_any _) ((a 2)) (zB_any _) ((a 3)) (zB_any _) ((a 4)) (zB_any _) hg) (fun r2 g2 h2 => ?_)
  obtain ⟨⟨v2, rfl, _⟩, hg2, hF2⟩ := h2
  exact ⟨⟨v2, rfl⟩, hg2, zRel_keep hR hF hF2 rfl rfl (fun _ => rfl) (fun _ => rfl) rfl rfl (fun _ => rfl) (fun _ => rfl)⟩)
theorem qc_2 (f : zM) (hI : zInv f) (hR : zRel f) (a : Nat → Int32) : zCall_2 f a (fun g => zInv g ∧ zRel g) := ZM.mono (w_X9_years 12 f ((a 1)) (zB_any _) ((a 2)) (zB_any _) ((a 3)) (zB_any _) ((a 4)) (zB_any _) ((a 5)) (zB_any _) ((a 6)) (zB_any _) hI) (fun r g h => by
  obtain ⟨⟨v, rfl, _⟩, hg, hF⟩ := h
  refine ⟨v, rfl, ?_⟩
  refine ZM.mono (w_X10_years 11 g ((a 1)) (zB_any _) ((a 2)) (zB_any _) ((a 3)) (zB_any _) ((a 4)) (zB_any _) ((a 5)) (zB_any _) ((a 6)) (zB_any _) hg) (fun r2 g2 h2 => ?_)
  obtain ⟨⟨v2, rfl, _⟩, hg2, hF2⟩ := h2
  exact ⟨⟨v2, rfl⟩, hg2, zRel_keep hR hF hF2 rfl rfl (fun _ => rfl) (fun _ => rfl) rfl rfl (fun _ => rfl) (fun _ => rfl)⟩)
theorem qc_3 (f : zM) (hI : zInv f) (hR : zRel f) (a : Nat → Int32) : zCall_3 f a (fun g => zInv g ∧ zRel g) := ZM.mono (w_X9_named 12 f ((a 1)) (zB_any _) ((a 2)) (zB_any _) ((a 3)) (zB_any _) ((a 4)) (zB_any _) ((a 5)) (zB_any _) ((a 6)) (zB_any _) hI) (fun r g h => by
  obtain ⟨⟨v, rfl, _⟩, hg, hF⟩ := h
  refine ⟨v, rfl, ?_⟩
  refine ZM.mono (w_X10_named 11 g ((a 1)) (zB_any _) ((a 2)) (zB_any _) ((a 3)) (zB_any _) ((a 4)) (zB_any _) ((a 5)) (zB_any _) ((a 6)) (zB_any _) hg) (fun r2 g2 h2 => ?_)
  obtain ⟨⟨v2, rfl, _⟩, hg2, hF2⟩ := h2
  exact ⟨⟨v2, rfl⟩, hg2, zRel_keep hR hF hF2 rfl rfl (fun _ => rfl) (fun _ => rfl) rfl rfl (fun _ => rfl) (fun _ => rfl)⟩)
theorem qc_4 (f : zM) (hI : zInv f) (hR : zRel f) (a : Nat → Int32) : zCall_4 f a (fun g => zInv g ∧ zRel g) := ZM.mono (w_X9_custom 12 f ((a 1)) (zB_any _) ((a 2)) (zB_any _) ((a 3)) (zB_any _) ((a 4)) (zB_any _) ((a 5)) (zB_any _) hI) (fun r g h => by
  obtain ⟨⟨v, rfl, _⟩, hg, hF⟩ := h
  refine ⟨v, rfl, ?_⟩
  refine ZM.mono (w_X10_custom 11 g ((a 1)) (zB_any _) ((a 2)) (zB_any _) ((a 3)) (zB_any _) ((a 4)) (zB_any _) ((a 5)) (zB_any _) hg) (fun r2 g2 h2 => ?_)
  obtain ⟨⟨v2, rfl, _⟩, hg2, hF2⟩ := h2
  exact ⟨⟨v2, rfl⟩, hg2, zRel_keep hR hF hF2 rfl rfl (fun _ => rfl) (fun _ => rfl) rfl rfl (fun _ => rfl) (fun _ => rfl)⟩)
theorem qc_5 (f : zM) (hI : zInv f) (hR : zRel f) (a : Nat → Int32) : zCall_5 f a (fun g => zInv g ∧ zRel g) := ZM.mono (w_X9_type 13 f (((a 1).toInt64 <<< ((32 : Int32).toInt64 &&& 63) ||| (a 2).toInt64 &&& 4294967295)) ((a 3)) (zB_any _) hI) (fun r g h => by
  obtain ⟨⟨v, rfl, _⟩, hg, hF⟩ := h
  refine ⟨v, rfl, ?_⟩
  refine ZM.mono (w_X10_type 13 g (((a 1).toInt64 <<< ((32 : Int32).toInt64 &&& 63) ||| (a 2).toInt64 &&& 4294967295)) ((a 3)) (zB_any _) hg) (fun r2 g2 h2 => ?_)
  obtain ⟨⟨v2, rfl, _⟩, hg2, hF2⟩ := h2
  exact ⟨⟨v2, rfl⟩, hg2, zRel_keep hR hF hF2 rfl rfl (fun _ => rfl) (fun _ => rfl) rfl rfl (fun _ => rfl) (fun _ => rfl)⟩)
theorem qc_6 (f : zM) (hI : zInv f) (hR : zRel f) (a : Nat → Int32) : zCall_6 f a (fun g => zInv g ∧ zRel g) := ZMs.mono (w_X9_world 5 f  hI) (fun r g h => by
  obtain ⟨⟨v, rfl, _⟩, hg, hF⟩ := h
  refine ⟨v, rfl, ?_⟩
  refine ZM.mono (w_X10_world 10 g  hg) (fun r2 g2 h2 => ?_)
  obtain ⟨⟨v2, rfl, _⟩, hg2, hF2⟩ := h2
  exact ⟨⟨v2, rfl⟩, hg2, zRel_keep hR hF hF2 rfl rfl (fun _ => rfl) (fun _ => rfl) rfl rfl (fun _ => rfl) (fun _ => rfl)⟩)
theorem qc_7 (f : zM) (hI : zInv f) (hR : zRel f) (a : Nat → Int32) : zCall_7 f a (fun g => zInv g ∧ zRel g) := ZM.mono (w_X9_crimeOf 14 f ((a 1)) (zB_any _) ((a 2)) (zB_any _) hI) (fun r g h => by
  obtain ⟨⟨v, rfl, _⟩, hg, hF⟩ := h
  refine ⟨v, rfl, ?_⟩
  refine ZM.mono (w_X10_crimeOf 13 g ((a 1)) (zB_any _) ((a 2)) (zB_any _) hg) (fun r2 g2 h2 => ?_)
  obtain ⟨⟨v2, rfl, _⟩, hg2, hF2⟩ := h2
  exact ⟨⟨v2, rfl⟩, hg2, zRel_keep hR hF hF2 rfl rfl (fun _ => rfl) (fun _ => rfl) rfl rfl (fun _ => rfl) (fun _ => rfl)⟩)
theorem qc_8 (f : zM) (hI : zInv f) (hR : zRel f) (a : Nat → Int32) : zCall_8 f a (fun g => zInv g ∧ zRel g) := ZM.mono (w_X9_paper 13 f ((a 1)) (zB_any _) ((a 2)) (zB_any _) hI) (fun r g h => by
  obtain ⟨⟨v, rfl, _⟩, hg, hF⟩ := h
  refine ⟨v, rfl, ?_⟩
  refine ZM.mono (w_X10_paper 12 g ((a 1)) (zB_any _) ((a 2)) (zB_any _) hg) (fun r2 g2 h2 => ?_)
  obtain ⟨⟨v2, rfl, _⟩, hg2, hF2⟩ := h2
  exact ⟨⟨v2, rfl⟩, hg2, zRel_keep hR hF hF2 rfl rfl (fun _ => rfl) (fun _ => rfl) rfl rfl (fun _ => rfl) (fun _ => rfl)⟩)
theorem qc_9 (f : zM) (hI : zInv f) (hR : zRel f) (a : Nat → Int32) : zCall_9 f a (fun g => zInv g ∧ zRel g) := ZM.mono (w_X9_bars 13 f ((a 1)) (zB_any _) ((a 2)) (zB_any _) hI) (fun r g h => by
  obtain ⟨⟨v, rfl, _⟩, hg, hF⟩ := h
  refine ⟨v, rfl, ?_⟩
  refine ZM.mono (w_X10_bars 12 g ((a 1)) (zB_any _) ((a 2)) (zB_any _) hg) (fun r2 g2 h2 => ?_)
  obtain ⟨⟨v2, rfl, _⟩, hg2, hF2⟩ := h2
  exact ⟨⟨v2, rfl⟩, hg2, zRel_keep hR hF hF2 rfl rfl (fun _ => rfl) (fun _ => rfl) rfl rfl (fun _ => rfl) (fun _ => rfl)⟩)
theorem qc_10 (f : zM) (hI : zInv f) (hR : zRel f) (a : Nat → Int32) : zCall_10 f a (fun g => zInv g ∧ zRel g) := ZM.mono (w_X9_matches 13 f ((a 1)) (zB_any _) ((a 2)) (zB_any _) ((a 3)) (zB_any _) hI) (fun r g h => by
  obtain ⟨⟨v, rfl, _⟩, hg, hF⟩ := h
  refine ⟨v, rfl, ?_⟩
  refine ZM.mono (w_X10_matches 12 g ((a 1)) (zB_any _) ((a 2)) (zB_any _) ((a 3)) (zB_any _) hg) (fun r2 g2 h2 => ?_)
  obtain ⟨⟨v2, rfl, _⟩, hg2, hF2⟩ := h2
  exact ⟨⟨v2, rfl⟩, hg2, zRel_keep hR hF hF2 rfl rfl (fun _ => rfl) (fun _ => rfl) rfl rfl (fun _ => rfl) (fun _ => rfl)⟩)
theorem qc_11 (f : zM) (hI : zInv f) (hR : zRel f) (a : Nat → Int32) : zCall_11 f a (fun g => zInv g ∧ zRel g) := ZM.mono (w_X9_yearsOf 13 f ((a 1)) (zB_any _) ((a 2)) (zB_any _) ((a 3)) (zB_any _) hI) (fun r g h => by
  obtain ⟨⟨v, rfl, _⟩, hg, hF⟩ := h
  refine ⟨v, rfl, ?_⟩
  refine ZM.mono (w_X10_yearsOf 11 g ((a 1)) (zB_any _) ((a 2)) (zB_any _) ((a 3)) (zB_any _) hg) (fun r2 g2 h2 => ?_)
  obtain ⟨⟨v2, rfl, _⟩, hg2, hF2⟩ := h2
  exact ⟨⟨v2, rfl⟩, hg2, zRel_keep hR hF hF2 rfl rfl (fun _ => rfl) (fun _ => rfl) rfl rfl (fun _ => rfl) (fun _ => rfl)⟩)
theorem qc_12 (f : zM) (hI : zInv f) (hR : zRel f) (a : Nat → Int32) : zCall_12 f a (fun g => zInv g ∧ zRel g) := ZM.mono (w_X9_shows 11 f ((a 1)) (zB_any _) ((a 2)) (zB_any _) ((a 3)) (zB_any _) ((a 4)) (zB_any _) hI) (fun r g h => by
  obtain ⟨⟨v, rfl, _⟩, hg, hF⟩ := h
  refine ⟨v, rfl, ?_⟩
  refine ZM.mono (w_X10_shows 12 g ((a 1)) (zB_any _) ((a 2)) (zB_any _) ((a 3)) (zB_any _) ((a 4)) (zB_any _) hg) (fun r2 g2 h2 => ?_)
  obtain ⟨⟨v2, rfl, _⟩, hg2, hF2⟩ := h2
  exact ⟨⟨v2, rfl⟩, hg2, zRel_keep hR hF hF2 rfl rfl (fun _ => rfl) (fun _ => rfl) rfl rfl (fun _ => rfl) (fun _ => rfl)⟩)
theorem qc_13 (f : zM) (hI : zInv f) (hR : zRel f) (a : Nat → Int32) : zCall_13 f a (fun g => zInv g ∧ zRel g) := ZM.mono (w_X9_count 14 f ((a 1)) (zB_any _) hI) (fun r g h => by
  obtain ⟨⟨v, rfl, _⟩, hg, hF⟩ := h
  refine ⟨v, rfl, ?_⟩
  refine ZM.mono (w_X10_count 14 g ((a 1)) (zB_any _) hg) (fun r2 g2 h2 => ?_)
  obtain ⟨⟨v2, rfl, _⟩, hg2, hF2⟩ := h2
  exact ⟨⟨v2, rfl⟩, hg2, zRel_keep hR hF hF2 rfl rfl (fun _ => rfl) (fun _ => rfl) rfl rfl (fun _ => rfl) (fun _ => rfl)⟩)
theorem qc_14 (f : zM) (hI : zInv f) (hR : zRel f) (a : Nat → Int32) : zCall_14 f a (fun g => zInv g ∧ zRel g) := ZM.mono (w_X9_man 13 f ((a 1)) (zB_any _) ((a 2)) (zB_any _) hI) (fun r g h => by
  obtain ⟨⟨v, rfl, _⟩, hg, hF⟩ := h
  refine ⟨v, rfl, ?_⟩
  refine ZM.mono (w_X10_man 12 g ((a 1)) (zB_any _) ((a 2)) (zB_any _) hg) (fun r2 g2 h2 => ?_)
  obtain ⟨⟨v2, rfl, _⟩, hg2, hF2⟩ := h2
  exact ⟨⟨v2, rfl⟩, hg2, zRel_keep hR hF hF2 rfl rfl (fun _ => rfl) (fun _ => rfl) rfl rfl (fun _ => rfl) (fun _ => rfl)⟩)
theorem qc_15 (f : zM) (hI : zInv f) (hR : zRel f) (a : Nat → Int32) : zCall_15 f a (fun g => zInv g ∧ zRel g) := ZM.mono (w_X9_judged 13 f ((a 1)) (zB_any _) ((zbl (a 2))) (zbl_B _) hI) (fun r g h => by
  obtain ⟨⟨v, rfl, _⟩, hg, hF⟩ := h
  refine ⟨v, rfl, ?_⟩
  refine ZM.mono (w_X10_judged 12 g ((a 1)) (zB_any _) ((zbl (a 2))) (zbl_B _) hg) (fun r2 g2 h2 => ?_)
  obtain ⟨⟨v2, rfl, _⟩, hg2, hF2⟩ := h2
  exact ⟨⟨v2, rfl⟩, hg2, zRel_keep hR hF hF2 rfl rfl (fun _ => rfl) (fun _ => rfl) rfl rfl (fun _ => rfl) (fun _ => rfl)⟩)
theorem qc_16 (f : zM) (hI : zInv f) (hR : zRel f) (a : Nat → Int32) : zCall_16 f a (fun g => zInv g ∧ zRel g) := ZM.mono (w_X9_bound 13 f ((a 1)) (zB_any _) hI) (fun r g h => by
  obtain ⟨⟨v, rfl, _⟩, hg, hF⟩ := h
  refine ⟨v, rfl, ?_⟩
  refine ZM.mono (w_X10_bound 13 g ((a 1)) (zB_any _) hg) (fun r2 g2 h2 => ?_)
  obtain ⟨⟨v2, rfl, _⟩, hg2, hF2⟩ := h2
  exact ⟨⟨v2, rfl⟩, hg2, zRel_keep hR hF hF2 rfl rfl (fun _ => rfl) (fun _ => rfl) rfl rfl (fun _ => rfl) (fun _ => rfl)⟩)
theorem qc_17 (f : zM) (hI : zInv f) (hR : zRel f) (a : Nat → Int32) : zCall_17 f a (fun g => zInv g ∧ zRel g) := ZM.mono (w_X9_covers 12 f ((a 1)) (zB_any _) hI) (fun r g h => by
  obtain ⟨⟨v, rfl, _⟩, hg, hF⟩ := h
  refine ⟨v, rfl, ?_⟩
  refine ZM.mono (w_X10_covers 10 g ((a 1)) (zB_any _) hg) (fun r2 g2 h2 => ?_)
  obtain ⟨⟨v2, rfl, _⟩, hg2, hF2⟩ := h2
  exact ⟨⟨v2, rfl⟩, hg2, zRel_keep hR hF hF2 rfl rfl (fun _ => rfl) (fun _ => rfl) rfl rfl (fun _ => rfl) (fun _ => rfl)⟩)
theorem qc_18 (f : zM) (hI : zInv f) (hR : zRel f) (a : Nat → Int32) : zCall_18 f a (fun g => zInv g ∧ zRel g) := ZM.mono (w_X9_lets 11 f ((a 1)) (zB_any _) hI) (fun r g h => by
  obtain ⟨⟨v, rfl, _⟩, hg, hF, _⟩ := h
  refine ⟨v, rfl, ?_⟩
  refine ZM.mono (w_X10_lets 8 g ((a 1)) (zB_any _) hg) (fun r2 g2 h2 => ?_)
  obtain ⟨⟨v2, rfl, _⟩, hg2, hF2, _⟩ := h2
  exact ⟨⟨v2, rfl⟩, hg2, zRel_keep hR hF hF2 rfl rfl (fun _ => rfl) (fun _ => rfl) rfl rfl (fun _ => rfl) (fun _ => rfl)⟩)
theorem qc_19 (f : zM) (hI : zInv f) (hR : zRel f) (a : Nat → Int32) : zCall_19 f a (fun g => zInv g ∧ zRel g) := ZM.mono (w_X9_barred 12 f ((a 1)) (zB_any _) ((a 2)) (zB_any _) hI) (fun r g h => by
  obtain ⟨⟨v, rfl, _⟩, hg, hF⟩ := h
  refine ⟨v, rfl, ?_⟩
  refine ZM.mono (w_X10_barred 10 g ((a 1)) (zB_any _) ((a 2)) (zB_any _) hg) (fun r2 g2 h2 => ?_)
  obtain ⟨⟨v2, rfl, _⟩, hg2, hF2⟩ := h2
  exact ⟨⟨v2, rfl⟩, hg2, zRel_keep hR hF hF2 rfl rfl (fun _ => rfl) (fun _ => rfl) rfl rfl (fun _ => rfl) (fun _ => rfl)⟩)
theorem qc_20 (f : zM) (hI : zInv f) (hR : zRel f) (a : Nat → Int32) : zCall_20 f a (fun g => zInv g ∧ zRel g) := ZM.mono (w_X9_send 10 f ((a 1)) (zB_any _) hI) (fun r g h => by
  obtain ⟨⟨v, rfl, _⟩, hg, hF⟩ := h
  refine ⟨v, rfl, ?_⟩
  refine ZM.mono (w_X10_send 7 g ((a 1)) (zB_any _) hg) (fun r2 g2 h2 => ?_)
  obtain ⟨⟨v2, rfl, _⟩, hg2, hF2⟩ := h2
  exact ⟨⟨v2, rfl⟩, hg2, zRel_keep hR hF hF2 rfl rfl (fun _ => rfl) (fun _ => rfl) rfl rfl (fun _ => rfl) (fun _ => rfl)⟩)
theorem qc_21 (f : zM) (hI : zInv f) (hR : zRel f) (a : Nat → Int32) : zCall_21 f a (fun g => zInv g ∧ zRel g) := ZM.mono (w_X9_tried 12 f  hI) (fun r g h => by
  obtain ⟨⟨v, rfl, _⟩, hg, hF⟩ := h
  refine ⟨v, rfl, ?_⟩
  refine ZM.mono (w_X10_tried 10 g  hg) (fun r2 g2 h2 => ?_)
  obtain ⟨⟨v2, rfl, _⟩, hg2, hF2⟩ := h2
  exact ⟨⟨v2, rfl⟩, hg2, zRel_keep hR hF hF2 rfl rfl (fun _ => rfl) (fun _ => rfl) rfl rfl (fun _ => rfl) (fun _ => rfl)⟩)
theorem qc_22 (f : zM) (hI : zInv f) (hR : zRel f) (a : Nat → Int32) : zCall_22 f a (fun g => zInv g ∧ zRel g) := ZM.mono (w_X9_road 10 f ((a 1)) (zB_any _) ((a 2)) (zB_any _) ((a 3)) (zB_any _) hI) (fun r g h => by
  obtain ⟨⟨v, rfl, _⟩, hg, hF⟩ := h
  refine ⟨v, rfl, ?_⟩
  refine ZM.mono (w_X10_road 8 g ((a 1)) (zB_any _) ((a 2)) (zB_any _) ((a 3)) (zB_any _) hg) (fun r2 g2 h2 => ?_)
  obtain ⟨⟨v2, rfl, _⟩, hg2, hF2⟩ := h2
  exact ⟨⟨v2, rfl⟩, hg2, zRel_keep hR hF hF2 rfl rfl (fun _ => rfl) (fun _ => rfl) rfl rfl (fun _ => rfl) (fun _ => rfl)⟩)
theorem qc_23 (f : zM) (hI : zInv f) (hR : zRel f) (a : Nat → Int32) : zCall_23 f a (fun g => zInv g ∧ zRel g) := ZM.mono (w_X9_lands 10 f  hI) (fun r g h => by
  obtain ⟨⟨v, rfl, _⟩, hg, hF⟩ := h
  refine ⟨v, rfl, ?_⟩
  refine ZM.mono (w_X10_lands 8 g  hg) (fun r2 g2 h2 => ?_)
  obtain ⟨⟨v2, rfl, _⟩, hg2, hF2⟩ := h2
  exact ⟨⟨v2, rfl⟩, hg2, zRel_keep hR hF hF2 rfl rfl (fun _ => rfl) (fun _ => rfl) rfl rfl (fun _ => rfl) (fun _ => rfl)⟩)
theorem qc_24 (f : zM) (hI : zInv f) (hR : zRel f) (a : Nat → Int32) : zCall_24 f a (fun g => zInv g ∧ zRel g) := ZM.mono (w_X9_safe 10 f ((a 1)) (zB_any _) hI) (fun r g h => by
  obtain ⟨⟨v, rfl, _⟩, hg, hF⟩ := h
  refine ⟨v, rfl, ?_⟩
  refine ZM.mono (w_X10_safe 9 g ((a 1)) (zB_any _) hg) (fun r2 g2 h2 => ?_)
  obtain ⟨⟨v2, rfl, _⟩, hg2, hF2⟩ := h2
  exact ⟨⟨v2, rfl⟩, hg2, zRel_keep hR hF hF2 rfl rfl (fun _ => rfl) (fun _ => rfl) rfl rfl (fun _ => rfl) (fun _ => rfl)⟩)
theorem qc_25 (f : zM) (hI : zInv f) (hR : zRel f) (a : Nat → Int32) : zCall_25 f a (fun g => zInv g ∧ zRel g) := ZM.mono (w_X9_demand 13 f ((a 1)) (zB_any _) ((a 2)) (zB_any _) ((a 3)) (zB_any _) hI) (fun r g h => by
  obtain ⟨⟨v, rfl, _⟩, hg, hF⟩ := h
  refine ⟨v, rfl, ?_⟩
  refine ZM.mono (w_X10_demand 12 g ((a 1)) (zB_any _) ((a 2)) (zB_any _) ((a 3)) (zB_any _) hg) (fun r2 g2 h2 => ?_)
  obtain ⟨⟨v2, rfl, _⟩, hg2, hF2⟩ := h2
  exact ⟨⟨v2, rfl⟩, hg2, zRel_keep hR hF hF2 rfl rfl (fun _ => rfl) (fun _ => rfl) rfl rfl (fun _ => rfl) (fun _ => rfl)⟩)
theorem qc_26 (f : zM) (hI : zInv f) (hR : zRel f) (a : Nat → Int32) : zCall_26 f a (fun g => zInv g ∧ zRel g) := ZM.mono (w_X9_ahead 10 f ((a 1)) (zB_any _) hI) (fun r g h => by
  obtain ⟨⟨v, rfl, _⟩, hg, hF⟩ := h
  refine ⟨v, rfl, ?_⟩
  refine ZM.mono (w_X10_ahead 5 g ((a 1)) (zB_any _) hg) (fun r2 g2 h2 => ?_)
  obtain ⟨⟨v2, rfl, _⟩, hg2, hF2⟩ := h2
  exact ⟨⟨v2, rfl⟩, hg2, zRel_keep hR hF hF2 rfl rfl (fun _ => rfl) (fun _ => rfl) rfl rfl (fun _ => rfl) (fun _ => rfl)⟩)
theorem qc_27 (f : zM) (hI : zInv f) (hR : zRel f) (a : Nat → Int32) : zCall_27 f a (fun g => zInv g ∧ zRel g) := ZM.mono (w_X9_promises 10 f ((a 1)) (zB_any _) ((a 2)) (zB_any _) hI) (fun r g h => by
  obtain ⟨⟨v, rfl, _⟩, hg, hF⟩ := h
  refine ⟨v, rfl, ?_⟩
  refine ZM.mono (w_X10_promises 8 g ((a 1)) (zB_any _) ((a 2)) (zB_any _) hg) (fun r2 g2 h2 => ?_)
  obtain ⟨⟨v2, rfl, _⟩, hg2, hF2⟩ := h2
  exact ⟨⟨v2, rfl⟩, hg2, zRel_keep hR hF hF2 rfl rfl (fun _ => rfl) (fun _ => rfl) rfl rfl (fun _ => rfl) (fun _ => rfl)⟩)
theorem qc_28 (f : zM) (hI : zInv f) (hR : zRel f) (a : Nat → Int32) : zCall_28 f a (fun g => zInv g ∧ zRel g) := ZM.mono (w_X9_mended 10 f ((a 1)) (zB_any _) ((a 2)) (zB_any _) hI) (fun r g h => by
  obtain ⟨⟨v, rfl, _⟩, hg, hF⟩ := h
  refine ⟨v, rfl, ?_⟩
  refine ZM.mono (w_X10_mended 9 g ((a 1)) (zB_any _) ((a 2)) (zB_any _) hg) (fun r2 g2 h2 => ?_)
  obtain ⟨⟨v2, rfl, _⟩, hg2, hF2⟩ := h2
  exact ⟨⟨v2, rfl⟩, hg2, zRel_keep hR hF hF2 rfl rfl (fun _ => rfl) (fun _ => rfl) rfl rfl (fun _ => rfl) (fun _ => rfl)⟩)
theorem qc_29 (f : zM) (hI : zInv f) (hR : zRel f) (a : Nat → Int32) : zCall_29 f a (fun g => zInv g ∧ zRel g) := ZM.mono (w_X9_part 12 f ((a 1)) (zB_any _) ((a 2)) (zB_any _) ((a 3)) (zB_any _) hI) (fun r g h => by
  obtain ⟨⟨v, rfl, _⟩, hg, hF⟩ := h
  refine ⟨v, rfl, ?_⟩
  refine ZM.mono (w_X10_part 12 g ((a 1)) (zB_any _) ((a 2)) (zB_any _) ((a 3)) (zB_any _) hg) (fun r2 g2 h2 => ?_)
  obtain ⟨⟨v2, rfl, _⟩, hg2, hF2⟩ := h2
  exact ⟨⟨v2, rfl⟩, hg2, zRel_keep hR hF hF2 rfl rfl (fun _ => rfl) (fun _ => rfl) rfl rfl (fun _ => rfl) (fun _ => rfl)⟩)
theorem qc_30 (f : zM) (hI : zInv f) (hR : zRel f) (a : Nat → Int32) : zCall_30 f a (fun g => zInv g ∧ zRel g) := ZM.mono (w_X9_image 10 f  hI) (fun r g h => by
  obtain ⟨⟨v, rfl, _⟩, hg, hF⟩ := h
  refine ⟨v, rfl, ?_⟩
  refine ZM.mono (w_X10_image 13 g  hg) (fun r2 g2 h2 => ?_)
  obtain ⟨⟨v2, rfl, _⟩, hg2, hF2⟩ := h2
  exact ⟨⟨v2, rfl⟩, hg2, zRel_keep hR hF hF2 rfl rfl (fun _ => rfl) (fun _ => rfl) rfl rfl (fun _ => rfl) (fun _ => rfl)⟩)
theorem qc_31 (f : zM) (hI : zInv f) (hR : zRel f) (a : Nat → Int32) : zCall_31 f a (fun g => zInv g ∧ zRel g) := ZM.mono (w_X9_restore 10 f  hI) (fun r g h => by
  obtain ⟨⟨v, rfl, _⟩, hg, hF⟩ := h
  refine ⟨v, rfl, ?_⟩
  refine ZM.mono (w_X10_restore 13 g  hg) (fun r2 g2 h2 => ?_)
  obtain ⟨⟨v2, rfl, _⟩, hg2, hF2⟩ := h2
  exact ⟨⟨v2, rfl⟩, hg2, zRel_keep hR hF hF2 rfl rfl (fun _ => rfl) (fun _ => rfl) rfl rfl (fun _ => rfl) (fun _ => rfl)⟩)
theorem qc_32 (f : zM) (hI : zInv f) (hR : zRel f) (a : Nat → Int32) : zCall_32 f a (fun g => zInv g ∧ zRel g) := ZM.mono (m_X9_sheet 12 f (a 1) (a 2) (a 3)) (fun r g h => by
  rcases h with ⟨hg, h0, rfl, rfl⟩ | ⟨hg, h0, rfl, rfl⟩ | ⟨hg, rfl, rfl⟩
  · refine ⟨_, rfl, ?_⟩
    refine ZM.mono (m_X10_sheet 12 _ (a 1) (a 2) (a 3)) (fun r2 g2 h2 => ?_)
    rcases h2 with ⟨_, _, rfl, rfl⟩ | ⟨_, h1, _, _⟩ | ⟨h1, _, _⟩
    · refine ⟨⟨_, rfl⟩, ?_, ?_⟩
      · refine zfo_any (k := 43) (v := 0) (zInv.up (k := 42) (zInv.up (k := 41) (zfill_any (k := 24) (v := 0) (zInv.up (k := 23) (j := 2) (zInv.up (k := 23) (j := 1) hI ?_) ?_) (fun j => (show (-2147483648 : Int) ≤ (0 : Int32).toInt ∧ (0 : Int32).toInt ≤ 2147483647 from by decide))) ?_) ?_) (fun j => (show (-2147483648 : Int) ≤ (0 : Int32).toInt ∧ (0 : Int32).toInt ≤ 2147483647 from by decide))
        · exact ⟨by show (-1 : Int) ≤ _; omega, by show _ ≤ (2 : Int); omega⟩
        · exact ⟨by show (0 : Int) ≤ _; omega, by show _ ≤ (16 : Int); omega⟩
        · exact ⟨by show (-1 : Int) ≤ _; omega, by show _ ≤ (2 : Int); omega⟩
        · exact ⟨by show (0 : Int) ≤ _; omega, by show _ ≤ (16 : Int); omega⟩
      · intro s hs
        have := hR s hs
        by_cases e : s = (a 1).toNatClampNeg
        · simp [zfo, zfill, zup, e]
        · simp [zfo, zfill, zup, e, this]
    · omega
    · exact absurd hg h1
  · refine ⟨_, rfl, ?_⟩
    refine ZM.mono (m_X10_sheet 12 _ (a 1) (a 2) (a 3)) (fun r2 g2 h2 => ?_)
    rcases h2 with ⟨_, h1, _, _⟩ | ⟨_, _, rfl, rfl⟩ | ⟨h1, _, _⟩
    · omega
    · exact ⟨⟨_, rfl⟩, hI, hR⟩
    · exact absurd hg h1
  · refine ⟨_, rfl, ?_⟩
    refine ZM.mono (m_X10_sheet 12 _ (a 1) (a 2) (a 3)) (fun r2 g2 h2 => ?_)
    rcases h2 with ⟨h1, _, _, _⟩ | ⟨h1, _, _, _⟩ | ⟨_, rfl, rfl⟩
    · exact absurd h1 hg
    · exact absurd h1 hg
    · exact ⟨⟨_, rfl⟩, hI, hR⟩)
theorem qc_33 (f : zM) (hI : zInv f) (hR : zRel f) (a : Nat → Int32) : zCall_33 f a (fun g => zInv g ∧ zRel g) := ZM.mono (m_X9_drop 13 f (a 1)) (fun r g h => by
  rcases h with ⟨hg, rfl, rfl⟩ | ⟨hg, hl, rfl, rfl⟩ | ⟨hg, hl, rfl, rfl⟩
  · refine ⟨_, rfl, ?_⟩
    refine ZM.mono (m_X10_drop 13 _ (a 1)) (fun r2 g2 h2 => ?_)
    rcases h2 with ⟨_, rfl, rfl⟩ | ⟨h1, _, _, _⟩ | ⟨h1, _, _, _⟩
    · exact ⟨rfl, hI, hR⟩
    · exact absurd h1 hg
    · exact absurd h1 hg
  · have hs4 : (a 1).toNatClampNeg < 4 := (zidx (n := 4) hg.1 (by have := hg.2; omega)).2
    have e1 := (hR _ hs4).1
    refine ⟨_, rfl, ?_⟩
    refine ZM.mono (m_X10_drop 13 _ (a 1)) (fun r2 g2 h2 => ?_)
    rcases h2 with ⟨h1, _, _⟩ | ⟨_, h2, rfl, rfl⟩ | ⟨_, h2, _, _⟩
    · exact absurd hg h1
    · exact ⟨rfl, hI, hR⟩
    · rw [← e1, hl] at h2; exact absurd (by decide) h2
  · have hs4 : (a 1).toNatClampNeg < 4 := (zidx (n := 4) hg.1 (by have := hg.2; omega)).2
    obtain ⟨e1, e2⟩ := hR _ hs4
    have q : zB (f 41 0 (a 1).toNatClampNeg) (-1) 2 := hI 41 0 _
    have hl2 : ¬ f 41 0 (a 1).toNatClampNeg < 0 := by
      rw [e1, z32eq] at hl
      rw [z32lt]
      have q1 := q.1
      have c1 : (-1 : Int32).toInt = -1 := by decide
      have c0 : (0 : Int32).toInt = 0 := by decide
      omega
    have k41 : zup f 23 (a 1).toNatClampNeg 1 (-1) 41 0 (a 1).toNatClampNeg = f 41 0 (a 1).toNatClampNeg := zup_ne f (-1) (by omega)
    have k42 : zup f 23 (a 1).toNatClampNeg 1 (-1) 42 0 (a 1).toNatClampNeg = f 42 0 (a 1).toNatClampNeg := zup_ne f (-1) (by omega)
    refine ⟨_, rfl, ?_⟩
    refine ZM.mono (m_X10_drop 13 _ (a 1)) (fun r2 g2 h2 => ?_)
    rcases h2 with ⟨h1, _, _⟩ | ⟨_, h2, _, _⟩ | ⟨_, _, rfl, rfl⟩
    · exact absurd hg h1
    · rw [k41] at h2; exact absurd h2 hl2
    · refine ⟨by rw [k42, e2], ?_, ?_⟩
      · exact zInv.up (k := 41) (n := 0) (zInv.up (k := 23) (j := 1) hI (show (-1 : Int) ≤ (-1 : Int32).toInt ∧ (-1 : Int32).toInt ≤ 2 from by decide)) (show (-1 : Int) ≤ (-1 : Int32).toInt ∧ (-1 : Int32).toInt ≤ 2 from by decide)
      · intro s hs
        have := hR s hs
        by_cases e : s = (a 1).toNatClampNeg
        · subst e; simp [zup]; exact e2
        · simp [zup, e, this])
theorem qc_34 (f : zM) (hI : zInv f) (hR : zRel f) (a : Nat → Int32) : zCall_34 f a (fun g => zInv g ∧ zRel g) := ZM.mono (w_X9_item 13 f ((a 1)) (zB_any _) ((a 2)) (zB_any _) ((a 3)) (zB_any _) ((a 4)) (zB_any _) hI) (fun r g h => by
  obtain ⟨⟨v, rfl, _⟩, hg, hF⟩ := h
  refine ⟨v, rfl, ?_⟩
  refine ZM.mono (w_X10_item 12 g ((a 1)) (zB_any _) ((a 2)) (zB_any _) ((a 3)) (zB_any _) ((a 4)) (zB_any _) hg) (fun r2 g2 h2 => ?_)
  obtain ⟨⟨v2, rfl, _⟩, hg2, hF2⟩ := h2
  exact ⟨⟨v2, rfl⟩, hg2, zRel_keep hR hF hF2 rfl rfl (fun _ => rfl) (fun _ => rfl) rfl rfl (fun _ => rfl) (fun _ => rfl)⟩)
theorem qc_all (f : zM) (hI : zInv f ∧ zRel f) (a : Nat → Int32) : ∀ k, k < 35 → zCall k f a (fun g => zInv g ∧ zRel g)
  | 0, _ => qc_0 f hI.1 hI.2 a
  | 1, _ => qc_1 f hI.1 hI.2 a
  | 2, _ => qc_2 f hI.1 hI.2 a
  | 3, _ => qc_3 f hI.1 hI.2 a
  | 4, _ => qc_4 f hI.1 hI.2 a
  | 5, _ => qc_5 f hI.1 hI.2 a
  | 6, _ => qc_6 f hI.1 hI.2 a
  | 7, _ => qc_7 f hI.1 hI.2 a
  | 8, _ => qc_8 f hI.1 hI.2 a
  | 9, _ => qc_9 f hI.1 hI.2 a
  | 10, _ => qc_10 f hI.1 hI.2 a
  | 11, _ => qc_11 f hI.1 hI.2 a
  | 12, _ => qc_12 f hI.1 hI.2 a
  | 13, _ => qc_13 f hI.1 hI.2 a
  | 14, _ => qc_14 f hI.1 hI.2 a
  | 15, _ => qc_15 f hI.1 hI.2 a
  | 16, _ => qc_16 f hI.1 hI.2 a
  | 17, _ => qc_17 f hI.1 hI.2 a
  | 18, _ => qc_18 f hI.1 hI.2 a
  | 19, _ => qc_19 f hI.1 hI.2 a
  | 20, _ => qc_20 f hI.1 hI.2 a
  | 21, _ => qc_21 f hI.1 hI.2 a
  | 22, _ => qc_22 f hI.1 hI.2 a
  | 23, _ => qc_23 f hI.1 hI.2 a
  | 24, _ => qc_24 f hI.1 hI.2 a
  | 25, _ => qc_25 f hI.1 hI.2 a
  | 26, _ => qc_26 f hI.1 hI.2 a
  | 27, _ => qc_27 f hI.1 hI.2 a
  | 28, _ => qc_28 f hI.1 hI.2 a
  | 29, _ => qc_29 f hI.1 hI.2 a
  | 30, _ => qc_30 f hI.1 hI.2 a
  | 31, _ => qc_31 f hI.1 hI.2 a
  | 32, _ => qc_32 f hI.1 hI.2 a
  | 33, _ => qc_33 f hI.1 hI.2 a
  | 34, _ => qc_34 f hI.1 hI.2 a
  | k + 35, h => absurd h (by omega)