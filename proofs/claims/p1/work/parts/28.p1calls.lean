/-! ===== p1: every call on a fresh object ===== -/
theorem pc_0 (a : Nat → Int32) {J : zM → Prop} (hJ : ∀ g, J g) : zCall_0 z0 a J := ZM.mono (p_X9_crime 13 ((a 1)) ((a 2)) ((a 3)) ((a 4)) ((a 5)) ((zbl (a 6))) (zbl_01 _)) (fun r g h => by
  refine ⟨_, h.1, ?_⟩
  rw [h.2.mix]
  exact ZM.mono (p_X10_crime 12 g ((a 1)) ((a 2)) ((a 3)) ((a 4)) ((a 5)) ((zbl (a 6)))) (fun r2 g2 h2 => ⟨h2, hJ _⟩))
theorem pc_1 (a : Nat → Int32) {J : zM → Prop} (hJ : ∀ g, J g) : zCall_1 z0 a J := ZM.mono (p_X9_deed 10 ((a 1)) ((a 2)) ((a 3)) ((a 4))) (fun r g h => by
  refine ⟨_, h.1, ?_⟩
  rw [h.2.mix]
  exact ZM.mono (p_X10_deed 12 g ((a 1)) ((a 2)) ((a 3)) ((a 4))) (fun r2 g2 h2 => ⟨h2, hJ _⟩))
theorem pc_2 (a : Nat → Int32) {J : zM → Prop} (hJ : ∀ g, J g) : zCall_2 z0 a J := ZM.mono (p_X9_years 12 ((a 1)) ((a 2)) ((a 3)) ((a 4)) ((a 5)) ((a 6))) (fun r g h => by
  refine ⟨_, h.1, ?_⟩
  rw [h.2.mix]
  exact ZM.mono (p_X10_years 11 g ((a 1)) ((a 2)) ((a 3)) ((a 4)) ((a 5)) ((a 6))) (fun r2 g2 h2 => ⟨h2, hJ _⟩))
theorem pc_3 (a : Nat → Int32) {J : zM → Prop} (hJ : ∀ g, J g) : zCall_3 z0 a J := ZM.mono (p_X9_named 13 ((a 1)) ((a 2)) ((a 3)) ((a 4)) ((a 5)) ((a 6))) (fun r g h => by
  refine ⟨_, h.1, ?_⟩
  rw [h.2.mix]
  exact ZM.mono (p_X10_named 11 g ((a 1)) ((a 2)) ((a 3)) ((a 4)) ((a 5)) ((a 6))) (fun r2 g2 h2 => ⟨h2, hJ _⟩))
theorem pc_4 (a : Nat → Int32) {J : zM → Prop} (hJ : ∀ g, J g) : zCall_4 z0 a J := ZM.mono (p_X9_custom 12 ((a 1)) ((a 2)) ((a 3)) ((a 4)) ((a 5))) (fun r g h => by
  refine ⟨_, h.1, ?_⟩
  rw [h.2.mix]
  exact ZM.mono (p_X10_custom 11 g ((a 1)) ((a 2)) ((a 3)) ((a 4)) ((a 5))) (fun r2 g2 h2 => ⟨h2, hJ _⟩))
theorem pc_5 (a : Nat → Int32) {J : zM → Prop} (hJ : ∀ g, J g) : zCall_5 z0 a J := ZM.mono (p_X9_type 13 (((a 1).toInt64 <<< ((32 : Int32).toInt64 &&& 63) ||| (a 2).toInt64 &&& 4294967295)) ((a 3))) (fun r g h => by
  rcases h with ⟨⟨q, rfl⟩ | ⟨q, rfl⟩, hk⟩
  · refine ⟨_, rfl, ?_⟩
    rw [hk.mix]
    exact ZM.mono (p_X10_type 13 g (((a 1).toInt64 <<< ((32 : Int32).toInt64 &&& 63) ||| (a 2).toInt64 &&& 4294967295)) ((a 3))) (fun r2 g2 h2 => ⟨h2.elim (fun e => e.2) (fun e => absurd q e.1), hJ _⟩)
  · refine ⟨_, rfl, ?_⟩
    rw [hk.mix]
    exact ZM.mono (p_X10_type 13 g (((a 1).toInt64 <<< ((32 : Int32).toInt64 &&& 63) ||| (a 2).toInt64 &&& 4294967295)) ((a 3))) (fun r2 g2 h2 => ⟨h2.elim (fun e => absurd e.1 q) (fun e => e.2), hJ _⟩))
theorem pc_6 (a : Nat → Int32) {J : zM → Prop} (hJ : ∀ g, J g) : zCall_6 z0 a J := ZM.mono (p_X9_world 10 ) (fun r g h => by
  refine ⟨_, h.1, ?_⟩
  rw [h.2.mix]
  exact ZM.mono (p_X10_world 11 g ) (fun r2 g2 h2 => ⟨h2, hJ _⟩))
theorem pc_7 (a : Nat → Int32) {J : zM → Prop} (hJ : ∀ g, J g) : zCall_7 z0 a J := ZM.mono (p_X9_crimeOf 14 ((a 1)) ((a 2))) (fun r g h => by
  refine ⟨_, h.1, ?_⟩
  rw [h.2.mix]
  exact ZM.mono (p_X10_crimeOf 13 g ((a 1)) ((a 2))) (fun r2 g2 h2 => ⟨h2, hJ _⟩))
theorem pc_8 (a : Nat → Int32) {J : zM → Prop} (hJ : ∀ g, J g) : zCall_8 z0 a J := ZM.mono (p_X9_paper 13 ((a 1)) ((a 2))) (fun r g h => by
  refine ⟨_, h.1, ?_⟩
  rw [h.2.mix]
  exact ZM.mono (p_X10_paper 12 g ((a 1)) ((a 2))) (fun r2 g2 h2 => ⟨h2, hJ _⟩))
theorem pc_9 (a : Nat → Int32) {J : zM → Prop} (hJ : ∀ g, J g) : zCall_9 z0 a J := ZM.mono (p_X9_bars 13 ((a 1)) ((a 2))) (fun r g h => by
  refine ⟨_, h.1, ?_⟩
  rw [h.2.mix]
  exact ZM.mono (p_X10_bars 12 g ((a 1)) ((a 2))) (fun r2 g2 h2 => ⟨h2, hJ _⟩))
theorem pc_10 (a : Nat → Int32) {J : zM → Prop} (hJ : ∀ g, J g) : zCall_10 z0 a J := ZM.mono (p_X9_matches 13 ((a 1)) ((a 2)) ((a 3))) (fun r g h => by
  refine ⟨_, h.1, ?_⟩
  rw [h.2.mix]
  exact ZM.mono (p_X10_matches 12 g ((a 1)) ((a 2)) ((a 3))) (fun r2 g2 h2 => ⟨h2, hJ _⟩))
theorem pc_11 (a : Nat → Int32) {J : zM → Prop} (hJ : ∀ g, J g) : zCall_11 z0 a J := ZM.mono (p_X9_yearsOf 13 ((a 1)) ((a 2)) ((a 3))) (fun r g h => by
  refine ⟨_, h.1, ?_⟩
  rw [h.2.mix]
  exact ZM.mono (p_X10_yearsOf 12 g ((a 1)) ((a 2)) ((a 3))) (fun r2 g2 h2 => ⟨h2, hJ _⟩))
theorem pc_12 (a : Nat → Int32) {J : zM → Prop} (hJ : ∀ g, J g) : zCall_12 z0 a J := ZM.mono (p_X9_shows 13 ((a 1)) ((a 2)) ((a 3)) ((a 4))) (fun r g h => by
  refine ⟨_, h.1, ?_⟩
  rw [h.2.mix]
  exact ZM.mono (p_X10_shows 12 g ((a 1)) ((a 2)) ((a 3)) ((a 4))) (fun r2 g2 h2 => ⟨h2, hJ _⟩))
theorem pc_13 (a : Nat → Int32) {J : zM → Prop} (hJ : ∀ g, J g) : zCall_13 z0 a J := ZM.mono (p_X9_count 14 ((a 1))) (fun r g h => by
  refine ⟨_, h.1, ?_⟩
  rw [h.2.mix]
  exact ZM.mono (p_X10_count 14 g ((a 1))) (fun r2 g2 h2 => ⟨h2, hJ _⟩))
theorem pc_14 (a : Nat → Int32) {J : zM → Prop} (hJ : ∀ g, J g) : zCall_14 z0 a J := ZM.mono (p_X9_man 13 ((a 1)) ((a 2))) (fun r g h => by
  refine ⟨_, h.1, ?_⟩
  rw [h.2.mix]
  exact ZM.mono (p_X10_man 12 g ((a 1)) ((a 2))) (fun r2 g2 h2 => ⟨h2, hJ _⟩))
theorem pc_15 (a : Nat → Int32) {J : zM → Prop} (hJ : ∀ g, J g) : zCall_15 z0 a J := ZM.mono (p_X9_judged 13 ((a 1)) ((zbl (a 2)))) (fun r g h => by
  refine ⟨_, h.1, ?_⟩
  rw [h.2.mix]
  exact ZM.mono (p_X10_judged 12 g ((a 1)) ((zbl (a 2)))) (fun r2 g2 h2 => ⟨h2, hJ _⟩))
theorem pc_16 (a : Nat → Int32) {J : zM → Prop} (hJ : ∀ g, J g) : zCall_16 z0 a J := ZM.mono (p_X9_bound 13 ((a 1))) (fun r g h => by
  refine ⟨_, h.1, ?_⟩
  rw [h.2.mix]
  exact ZM.mono (p_X10_bound 13 g ((a 1))) (fun r2 g2 h2 => ⟨h2, hJ _⟩))
theorem pc_17 (a : Nat → Int32) {J : zM → Prop} (hJ : ∀ g, J g) : zCall_17 z0 a J := ZM.mono (p_X9_covers 13 ((a 1))) (fun r g h => by
  refine ⟨_, h.1, ?_⟩
  rw [h.2.mix]
  exact ZM.mono (p_X10_covers 12 g ((a 1))) (fun r2 g2 h2 => ⟨h2, hJ _⟩))
theorem pc_18 (a : Nat → Int32) {J : zM → Prop} (hJ : ∀ g, J g) : zCall_18 z0 a J := ZM.mono (p_X9_lets 13 ((a 1))) (fun r g h => by
  refine ⟨_, h.1, ?_⟩
  rw [h.2.mix]
  exact ZM.mono (p_X10_lets 12 g ((a 1))) (fun r2 g2 h2 => ⟨h2, hJ _⟩))
theorem pc_19 (a : Nat → Int32) {J : zM → Prop} (hJ : ∀ g, J g) : zCall_19 z0 a J := ZM.mono (p_X9_barred 13 ((a 1)) ((a 2))) (fun r g h => by
  refine ⟨_, h.1, ?_⟩
  rw [h.2.mix]
  exact ZM.mono (p_X10_barred 12 g ((a 1)) ((a 2))) (fun r2 g2 h2 => ⟨h2, hJ _⟩))
theorem pc_20 (a : Nat → Int32) {J : zM → Prop} (hJ : ∀ g, J g) : zCall_20 z0 a J := ZM.mono (p_X9_send 12 ((a 1))) (fun r g h => by
  refine ⟨_, h.1, ?_⟩
  rw [h.2.mix]
  exact ZM.mono (p_X10_send 11 g ((a 1))) (fun r2 g2 h2 => ⟨h2, hJ _⟩))
theorem pc_21 (a : Nat → Int32) {J : zM → Prop} (hJ : ∀ g, J g) : zCall_21 z0 a J := ZM.mono (p_X9_tried 13 ) (fun r g h => by
  refine ⟨_, h.1, ?_⟩
  rw [h.2.mix]
  exact ZM.mono (p_X10_tried 13 g ) (fun r2 g2 h2 => ⟨h2, hJ _⟩))
theorem pc_22 (a : Nat → Int32) {J : zM → Prop} (hJ : ∀ g, J g) : zCall_22 z0 a J := ZM.mono (p_X9_road 13 ((a 1)) ((a 2)) ((a 3))) (fun r g h => by
  refine ⟨_, h.1, ?_⟩
  rw [h.2.mix]
  exact ZM.mono (p_X10_road 12 g ((a 1)) ((a 2)) ((a 3))) (fun r2 g2 h2 => ⟨h2, hJ _⟩))
theorem pc_23 (a : Nat → Int32) {J : zM → Prop} (hJ : ∀ g, J g) : zCall_23 z0 a J := ZM.mono (p_X9_lands 11 ) (fun r g h => by
  refine ⟨_, h.1, ?_⟩
  rw [h.2.mix]
  exact ZM.mono (p_X10_lands 11 g ) (fun r2 g2 h2 => ⟨h2, hJ _⟩))
theorem pc_24 (a : Nat → Int32) {J : zM → Prop} (hJ : ∀ g, J g) : zCall_24 z0 a J := ZM.mono (p_X9_safe 12 ((a 1))) (fun r g h => by
  refine ⟨_, h.1, ?_⟩
  rw [h.2.mix]
  exact ZM.mono (p_X10_safe 13 g ((a 1))) (fun r2 g2 h2 => ⟨h2, hJ _⟩))
theorem pc_25 (a : Nat → Int32) {J : zM → Prop} (hJ : ∀ g, J g) : zCall_25 z0 a J := ZM.mono (p_X9_demand 13 ((a 1)) ((a 2)) ((a 3))) (fun r g h => by
  refine ⟨_, h.1, ?_⟩
  rw [h.2.mix]
  exact ZM.mono (p_X10_demand 12 g ((a 1)) ((a 2)) ((a 3))) (fun r2 g2 h2 => ⟨h2, hJ _⟩))
theorem pc_26 (a : Nat → Int32) {J : zM → Prop} (hJ : ∀ g, J g) : zCall_26 z0 a J := ZM.mono (p_X9_ahead 13 ((a 1))) (fun r g h => by
  refine ⟨_, h.1, ?_⟩
  rw [h.2.mix]
  exact ZM.mono (p_X10_ahead 13 g ((a 1))) (fun r2 g2 h2 => ⟨h2, hJ _⟩))
theorem pc_27 (a : Nat → Int32) {J : zM → Prop} (hJ : ∀ g, J g) : zCall_27 z0 a J := ZM.mono (p_X9_promises 13 ((a 1)) ((a 2))) (fun r g h => by
  refine ⟨_, h.1, ?_⟩
  rw [h.2.mix]
  exact ZM.mono (p_X10_promises 12 g ((a 1)) ((a 2))) (fun r2 g2 h2 => ⟨h2, hJ _⟩))
theorem pc_28 (a : Nat → Int32) {J : zM → Prop} (hJ : ∀ g, J g) : zCall_28 z0 a J := ZM.mono (p_X9_mended 13 ((a 1)) ((a 2))) (fun r g h => by
  refine ⟨_, h.1, ?_⟩
  rw [h.2.mix]
  exact ZM.mono (p_X10_mended 12 g ((a 1)) ((a 2))) (fun r2 g2 h2 => ⟨h2, hJ _⟩))
theorem pc_29 (a : Nat → Int32) {J : zM → Prop} (hJ : ∀ g, J g) : zCall_29 z0 a J := ZM.mono (p_X9_part 13 ((a 1)) ((a 2)) ((a 3))) (fun r g h => by
  refine ⟨_, h.1, ?_⟩
  rw [h.2.mix]
  exact ZM.mono (p_X10_part 12 g ((a 1)) ((a 2)) ((a 3))) (fun r2 g2 h2 => ⟨h2, hJ _⟩))
theorem pc_30 (a : Nat → Int32) {J : zM → Prop} (hJ : ∀ g, J g) : zCall_30 z0 a J := ZM.mono (p_X9_image 11 ) (fun r g h => by
  refine ⟨_, h.1, ?_⟩
  rw [h.2.mix]
  exact ZM.mono (p_X10_image 13 g ) (fun r2 g2 h2 => ⟨h2, hJ _⟩))
theorem pc_31 (a : Nat → Int32) {J : zM → Prop} (hJ : ∀ g, J g) : zCall_31 z0 a J := ZM.mono (p_X9_restore 14 ) (fun r g h => by
  refine ⟨_, h.1, ?_⟩
  rw [h.2.mix]
  exact ZM.mono (p_X10_restore 14 g ) (fun r2 g2 h2 => ⟨h2, hJ _⟩))
theorem pc_32 (a : Nat → Int32) {J : zM → Prop} (hJ : ∀ g, J g) : zCall_32 z0 a J := ZM.mono (p_X9_sheet 12 ((a 1)) ((a 2)) ((a 3))) (fun r g h => by
  refine ⟨_, h.1, ?_⟩
  rw [h.2.mix]
  exact ZM.mono (p_X10_sheet 12 g ((a 1)) ((a 2)) ((a 3))) (fun r2 g2 h2 => ⟨h2, hJ _⟩))
theorem pc_33 (a : Nat → Int32) {J : zM → Prop} (hJ : ∀ g, J g) : zCall_33 z0 a J := ZM.mono (p_X9_drop 13 ((a 1))) (fun r g h => by
  refine ⟨_, h.1, ?_⟩
  rw [h.2.mix]
  exact ZM.mono (p_X10_drop 13 g ((a 1))) (fun r2 g2 h2 => ⟨h2, hJ _⟩))
theorem pc_34 (a : Nat → Int32) {J : zM → Prop} (hJ : ∀ g, J g) : zCall_34 z0 a J := ZM.mono (p_X9_item 13 ((a 1)) ((a 2)) ((a 3)) ((a 4))) (fun r g h => by
  refine ⟨_, h.1, ?_⟩
  rw [h.2.mix]
  exact ZM.mono (p_X10_item 12 g ((a 1)) ((a 2)) ((a 3)) ((a 4))) (fun r2 g2 h2 => ⟨h2, hJ _⟩))
theorem pc_all (a : Nat → Int32) {J : zM → Prop} (hJ : ∀ g, J g) : ∀ k, k < 35 → zCall k z0 a J
  | 0, _ => pc_0 a hJ
  | 1, _ => pc_1 a hJ
  | 2, _ => pc_2 a hJ
  | 3, _ => pc_3 a hJ
  | 4, _ => pc_4 a hJ
  | 5, _ => pc_5 a hJ
  | 6, _ => pc_6 a hJ
  | 7, _ => pc_7 a hJ
  | 8, _ => pc_8 a hJ
  | 9, _ => pc_9 a hJ
  | 10, _ => pc_10 a hJ
  | 11, _ => pc_11 a hJ
  | 12, _ => pc_12 a hJ
  | 13, _ => pc_13 a hJ
  | 14, _ => pc_14 a hJ
  | 15, _ => pc_15 a hJ
  | 16, _ => pc_16 a hJ
  | 17, _ => pc_17 a hJ
  | 18, _ => pc_18 a hJ
  | 19, _ => pc_19 a hJ
  | 20, _ => pc_20 a hJ
  | 21, _ => pc_21 a hJ
  | 22, _ => pc_22 a hJ
  | 23, _ => pc_23 a hJ
  | 24, _ => pc_24 a hJ
  | 25, _ => pc_25 a hJ
  | 26, _ => pc_26 a hJ
  | 27, _ => pc_27 a hJ
  | 28, _ => pc_28 a hJ
  | 29, _ => pc_29 a hJ
  | 30, _ => pc_30 a hJ
  | 31, _ => pc_31 a hJ
  | 32, _ => pc_32 a hJ
  | 33, _ => pc_33 a hJ
  | 34, _ => pc_34 a hJ
  | k + 35, h => absurd h (by omega)
