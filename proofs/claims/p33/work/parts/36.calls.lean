theorem zbl_B (x : Int32) : zB (zbl x) 0 1 := by unfold zbl; split <;> decide
def zRel (f : zM) : Prop := f 0 0 5 = f 25 0 22
theorem zRel_keep {S T : List (Nat × Option Nat)} {f g g2 : zM} (h : zRel f) (hF : zFr S f g) (hG : zFr T g g2) (s1 : zS S 0 5 = false) (s2 : zS S 25 22 = false) (t1 : zS T 0 5 = false) (t2 : zS T 25 22 = false) : zRel g2 := by
  unfold zRel
  rw [hG 0 0 5 t1, hG 25 0 22 t2, hF 0 0 5 s1, hF 25 0 22 s2]; exact h
theorem zRel_0 : zRel z0 := rfl
set_option maxRecDepth 100000 in
set_option maxHeartbeats 4000000 in
theorem w_X9_imageA (d : Nat) (f : zM)  (hI : zInv f) : ZM (d + 4) yX9_image cX9_image 1 (some .int) [zr 0 0] f (fun r g => (∃ v, r = some (zi v) ∧ zB v 1 1) ∧ zInv g ∧ zFr [(0, some 5), (1, some 5), (1, some 6), (1, some 7), (1, some 8), (6, some 0), (6, some 1), (6, some 2), (6, some 3), (6, some 4), (6, some 5), (6, some 6), (7, some 0), (7, some 1), (7, some 2), (7, some 3), (7, some 4), (7, some 5), (8, some 0), (8, some 1), (8, some 2), (8, some 3), (8, some 4), (8, some 5), (8, some 6), (8, some 7), (9, none), (10, none), (11, some 0), (11, some 1), (11, some 2), (11, some 3), (11, some 4), (11, some 5), (11, some 6), (11, some 7), (12, some 0), (12, some 1), (12, some 2)] f g ∧ (∀ v : Int32, r = some (zi v) → (g 0 0 5).toInt = 1)) := by
  refine ZM.intro (by decide +kernel) (Nat.le_of_ble_eq_true rfl) ?_
  intro X C hr hn
  have hF : zFr [(0, some 5), (1, some 5), (1, some 6), (1, some 7), (1, some 8), (6, some 0), (6, some 1), (6, some 2), (6, some 3), (6, some 4), (6, some 5), (6, some 6), (7, some 0), (7, some 1), (7, some 2), (7, some 3), (7, some 4), (7, some 5), (8, some 0), (8, some 1), (8, some 2), (8, some 3), (8, some 4), (8, some 5), (8, some 6), (8, some 7), (9, none), (10, none), (11, some 0), (11, some 1), (11, some 2), (11, some 3), (11, some 4), (11, some 5), (11, some 6), (11, some 7), (12, some 0), (12, some 1), (12, some 2)] f f := zFr.rf _ _
  have ct0_0_5 : zB (f 0 0 5) 0 1 := hI 0 0 5
  show Z X 0 [some (zr 0 0)] [] f
  refine z_aload_n (pc := 0) C dX9_image_0 rfl ?_
  refine z_getR (pc := 1) C zf_X9_16 rfl rfl (by decide) dX9_image_1 ?_
  refine z_aload_n (pc := 4) C dX9_image_4 rfl ?_
  refine z_getR (pc := 5) C zf_X9_10 rfl rfl (by decide) dX9_image_5 ?_
  refine z_callV (pc := 8) C zk_X9_330 (w_X8_copy_1 _ _  hI) rfl rfl (by decide) rfl rfl (Nat.le_of_ble_eq_true rfl) dX9_image_8 (fun r1 g1 q1 => ?_)
  obtain ⟨rfl, hI1, hF1q⟩ := q1
  have hF1 := zFr.tr hF hF1q (by decide)
  simp only [Option.toList, List.cons_append, List.nil_append]
  have ek1_0_0_5 : (g1 0 0 5).toInt = (f 0 0 5).toInt := by rw [hF1q 0 0 5 rfl]
  have c1_0_0_5x : zB (g1 0 0 5) 0 1 := by have q9 := ct0_0_5; constructor <;> omega
  refine z_aload_n (pc := 11) C dX9_image_11 rfl ?_
  refine z_iconst (pc := 12) (v := 1) C dX9_image_12 (by decide) ?_
  refine z_putZ (pc := 13) C zf_X9_42 zp_9_5 (z01 (zB.wk (a' := 0) (b' := 1) (zB.of (x := 1) 1 (by decide)) (by decide) (by decide))) rfl rfl (by decide) dX9_image_13 ?_
  refine w_mem2 hI1 hF1 (zB.wk (a' := 0) (b' := 1) (zB.of (x := 1) 1 (by decide)) (by decide) (by decide)) rfl (fun g2 hI2 hF2 hq2 hx2 => ?_)
  have ec2 : (g2 0 0 5).toInt = (1 : Int32).toInt := by rw [hx2]
  have c2x : zB (g2 0 0 5) 1 1 := by have q9 := (zB.of (x := 1) 1 (by decide)); constructor <;> omega
  refine z_iconst (pc := 16) (v := 1) C dX9_image_16 (by decide) ?_
  exact z_iret (pc := 17) C hr dX9_image_17 ⟨⟨_, rfl, (zB.of (x := 1) 1 (by decide))⟩, hI2, hF2, (by intro v hv; cases hv; have qc0 : (1 : Int32).toInt = 1 := (by decide); omega)⟩

set_option maxRecDepth 100000 in
set_option maxHeartbeats 4000000 in
theorem w_X9_restoreA (d : Nat) (f : zM)  (hI : zInv f) : ZM (d + 4) yX9_restore cX9_restore 1 (some .int) [zr 0 0] f (fun r g => (∃ v, r = some (zi v) ∧ zB v (-4) 1) ∧ zInv g ∧ zFr [(1, some 5), (1, some 6), (1, some 7), (1, some 8), (6, some 0), (6, some 1), (6, some 2), (6, some 3), (6, some 4), (6, some 5), (6, some 6), (7, some 0), (7, some 1), (7, some 2), (7, some 3), (7, some 4), (7, some 5), (8, some 0), (8, some 1), (8, some 2), (8, some 3), (8, some 4), (8, some 5), (8, some 6), (8, some 7), (9, none), (10, none), (11, some 0), (11, some 1), (11, some 2), (11, some 3), (11, some 4), (11, some 5), (11, some 6), (11, some 7), (12, some 0), (12, some 1), (12, some 2)] f g ∧ (∀ v : Int32, r = some (zi v) → (((f 0 0 5).toInt = 0 → v.toInt = -4) ∧ (¬ (f 0 0 5).toInt = 0 → v.toInt = 1)))) := by
  refine ZM.intro (by decide +kernel) (Nat.le_of_ble_eq_true rfl) ?_
  intro X C hr hn
  have hF : zFr [(1, some 5), (1, some 6), (1, some 7), (1, some 8), (6, some 0), (6, some 1), (6, some 2), (6, some 3), (6, some 4), (6, some 5), (6, some 6), (7, some 0), (7, some 1), (7, some 2), (7, some 3), (7, some 4), (7, some 5), (8, some 0), (8, some 1), (8, some 2), (8, some 3), (8, some 4), (8, some 5), (8, some 6), (8, some 7), (9, none), (10, none), (11, some 0), (11, some 1), (11, some 2), (11, some 3), (11, some 4), (11, some 5), (11, some 6), (11, some 7), (12, some 0), (12, some 1), (12, some 2)] f f := zFr.rf _ _
  have ct0_0_5 : zB (f 0 0 5) 0 1 := hI 0 0 5
  show Z X 0 [some (zr 0 0)] [] f
  refine z_aload_n (pc := 0) C dX9_restore_0 rfl ?_
  refine z_getI (pc := 1) C zf_X9_42 rfl rfl (by decide) dX9_restore_1 ?_
  refine w_gp (fun v => v.toInt = (f 0 0 5).toInt) rfl (fun v1 e1 => ?_)
  have b1x : zB v1 0 1 := by have q9 : zB (f 0 0 5) 0 1 := ct0_0_5; constructor <;> omega
  refine z_if_ne (pc := 4) 10 C dX9_restore_4 (by decide) (fun h4_1 => ?_) (fun h4_1 => ?_)
  · skip
    have b3x : zB v1 1 1 := by have q1 := b1x; have q2 := (zB.of (x := 0) 0 (by decide)); simp only [z32lt, z32le, z32eq, Int32.reduceToInt, Int32.toInt_zero] at h4_1; constructor <;> omega
    have c4x : zB (f 0 0 5) 1 1 := by constructor <;> omega
    refine z_aload_n (pc := 10) C dX9_restore_10 rfl ?_
    refine z_getR (pc := 11) C zf_X9_10 rfl rfl (by decide) dX9_restore_11 ?_
    refine z_aload_n (pc := 14) C dX9_restore_14 rfl ?_
    refine z_getR (pc := 15) C zf_X9_16 rfl rfl (by decide) dX9_restore_15 ?_
    refine z_callV (pc := 18) C zk_X9_330 (w_X8_copy _ _  hI) rfl rfl (by decide) rfl rfl (Nat.le_of_ble_eq_true rfl) dX9_restore_18 (fun r5 g5 q5 => ?_)
    obtain ⟨rfl, hI5, hF5q⟩ := q5
    have hF5 := zFr.tr hF hF5q (by decide)
    simp only [Option.toList, List.cons_append, List.nil_append]
    have ek5_0_0_5 : (g5 0 0 5).toInt = (f 0 0 5).toInt := by rw [hF5q 0 0 5 rfl]
    have c5_0_0_5x : zB (g5 0 0 5) 1 1 := by have q9 := c4x; constructor <;> omega
    refine z_iconst (pc := 21) (v := 1) C dX9_restore_21 (by decide) ?_
    exact z_iret (pc := 22) C hr dX9_restore_22 ⟨⟨_, rfl, (zB.wk (a' := (-4)) (b' := 1) (zB.of (x := 1) 1 (by decide)) (by decide) (by decide))⟩, hI5, hF5, (by intro v hv; cases hv; have qc0 : (1 : Int32).toInt = 1 := (by decide); omega)⟩
  · skip
    have b6x : zB v1 0 0 := by have q1 := b1x; have q2 := (zB.of (x := 0) 0 (by decide)); simp only [z32lt, z32le, z32eq, Int32.reduceToInt, Int32.toInt_zero] at h4_1; constructor <;> omega
    have c7x : zB (f 0 0 5) 0 0 := by constructor <;> omega
    refine z_bipush (pc := 7) (v := -4) C dX9_restore_7 (by decide) ?_
    exact z_iret (pc := 9) C hr dX9_restore_9 ⟨⟨_, rfl, (zB.wk (a' := (-4)) (b' := 1) (zB.of (x := (-4)) (-4) (by decide)) (by decide) (by decide))⟩, hI, hF, (by intro v hv; cases hv; have qc0 : ((-4) : Int32).toInt = (-4) := (by decide); omega)⟩

theorem zim_inv {f : zM} (hI : zInv f) : zInv (zim f) := by
  unfold zim
  refine zInv.up (k := 25) (n := 0) (j := 22) (zkp_inv (zkp_inv (zkp_inv (zkp_inv (zkp_inv (zkp_inv ?_ (by decide) zr39_40) (by decide) zr39_26) (by decide) zr39_27) (by decide) zr39_28) (by decide) zr39_29) (by decide) zr39_30) (show (0 : Int) ≤ (1 : Int32).toInt ∧ (1 : Int32).toInt ≤ 1 from by decide)
  refine zInv.up (k := 40) (n := 0) (j := 3) ?_ (show (0 : Int) ≤ (f 25 0 6).toInt ∧ (f 25 0 6).toInt ≤ 8 from hI 25 0 6)
  refine zInv.up (k := 40) (n := 0) (j := 2) ?_ (show (0 : Int) ≤ (f 25 0 4).toInt ∧ (f 25 0 4).toInt ≤ 12 from hI 25 0 4)
  refine zInv.up (k := 40) (n := 0) (j := 1) ?_ (show (0 : Int) ≤ (f 25 0 2).toInt ∧ (f 25 0 2).toInt ≤ 8 from hI 25 0 2)
  refine zInv.up (k := 40) (n := 0) (j := 0) ?_ (show (0 : Int) ≤ (f 25 0 0).toInt ∧ (f 25 0 0).toInt ≤ 24 from hI 25 0 0)
  exact zInv.up (k := 25) (n := 0) (j := 24) hI (show (0 : Int) ≤ (0 : Int32).toInt ∧ (0 : Int32).toInt ≤ 320 from by decide)
theorem qc_0 (f : zM) (hI : zInv f) (hR : zRel f) (a : Nat → Int32) : zCall_0 f a (fun g => zInv g ∧ zRel g) := ZM.mono (w_X9_crime 11 f ((a 1)) (zB_any _) ((a 2)) (zB_any _) ((a 3)) (zB_any _) ((a 4)) (zB_any _) ((a 5)) (zB_any _) ((zbl (a 6))) (zbl_B _) hI) (fun r g h => by
  obtain ⟨⟨v, rfl, _⟩, hg, hF⟩ := h
  refine ⟨v, rfl, ?_⟩
  refine ZM.mono (w_X10_crime 12 g ((a 1)) (zB_any _) ((a 2)) (zB_any _) ((a 3)) (zB_any _) ((a 4)) (zB_any _) ((a 5)) (zB_any _) ((zbl (a 6))) (zbl_B _) hg) (fun r2 g2 h2 => ?_)
  obtain ⟨⟨v2, rfl, _⟩, hg2, hF2⟩ := h2
  exact ⟨⟨v2, rfl⟩, hg2, zRel_keep hR hF hF2 rfl rfl rfl rfl⟩)
theorem qc_1 (f : zM) (hI : zInv f) (hR : zRel f) (a : Nat → Int32) : zCall_1 f a (fun g => zInv g ∧ zRel g) := ZM.mono (w_X9_deed 10 f ((a 1)) (zB_any _) ((a 2)) (zB_any _) ((a 3)) (zB_any _) ((a 4)) (zB_any _) hI) (fun r g h => by
  obtain ⟨⟨v, rfl, _⟩, hg, hF⟩ := h
  refine ⟨v, rfl, ?_⟩
  refine ZM.mono (w_X10_deed 12 g ((a 1)) (zB_any _) ((a 2)) (zB_any _) ((a 3)) (zB_any _) ((a 4)) (zB_any _) hg) (fun r2 g2 h2 => ?_)
  obtain ⟨⟨v2, rfl, _⟩, hg2, hF2⟩ := h2
  exact ⟨⟨v2, rfl⟩, hg2, zRel_keep hR hF hF2 rfl rfl rfl rfl⟩)
theorem qc_2 (f : zM) (hI : zInv f) (hR : zRel f) (a : Nat → Int32) : zCall_2 f a (fun g => zInv g ∧ zRel g) := ZM.mono (w_X9_years 12 f ((a 1)) (zB_any _) ((a 2)) (zB_any _) ((a 3)) (zB_any _) ((a 4)) (zB_any _) ((a 5)) (zB_any _) ((a 6)) (zB_any _) hI) (fun r g h => by
  obtain ⟨⟨v, rfl, _⟩, hg, hF⟩ := h
  refine ⟨v, rfl, ?_⟩
  refine ZM.mono (w_X10_years 11 g ((a 1)) (zB_any _) ((a 2)) (zB_any _) ((a 3)) (zB_any _) ((a 4)) (zB_any _) ((a 5)) (zB_any _) ((a 6)) (zB_any _) hg) (fun r2 g2 h2 => ?_)
  obtain ⟨⟨v2, rfl, _⟩, hg2, hF2⟩ := h2
  exact ⟨⟨v2, rfl⟩, hg2, zRel_keep hR hF hF2 rfl rfl rfl rfl⟩)
theorem qc_3 (f : zM) (hI : zInv f) (hR : zRel f) (a : Nat → Int32) : zCall_3 f a (fun g => zInv g ∧ zRel g) := ZM.mono (w_X9_named 12 f ((a 1)) (zB_any _) ((a 2)) (zB_any _) ((a 3)) (zB_any _) ((a 4)) (zB_any _) ((a 5)) (zB_any _) ((a 6)) (zB_any _) hI) (fun r g h => by
  obtain ⟨⟨v, rfl, _⟩, hg, hF⟩ := h
  refine ⟨v, rfl, ?_⟩
  refine ZM.mono (w_X10_named 11 g ((a 1)) (zB_any _) ((a 2)) (zB_any _) ((a 3)) (zB_any _) ((a 4)) (zB_any _) ((a 5)) (zB_any _) ((a 6)) (zB_any _) hg) (fun r2 g2 h2 => ?_)
  obtain ⟨⟨v2, rfl, _⟩, hg2, hF2⟩ := h2
  exact ⟨⟨v2, rfl⟩, hg2, zRel_keep hR hF hF2 rfl rfl rfl rfl⟩)
theorem qc_4 (f : zM) (hI : zInv f) (hR : zRel f) (a : Nat → Int32) : zCall_4 f a (fun g => zInv g ∧ zRel g) := ZM.mono (w_X9_custom 12 f ((a 1)) (zB_any _) ((a 2)) (zB_any _) ((a 3)) (zB_any _) ((a 4)) (zB_any _) ((a 5)) (zB_any _) hI) (fun r g h => by
  obtain ⟨⟨v, rfl, _⟩, hg, hF⟩ := h
  refine ⟨v, rfl, ?_⟩
  refine ZM.mono (w_X10_custom 11 g ((a 1)) (zB_any _) ((a 2)) (zB_any _) ((a 3)) (zB_any _) ((a 4)) (zB_any _) ((a 5)) (zB_any _) hg) (fun r2 g2 h2 => ?_)
  obtain ⟨⟨v2, rfl, _⟩, hg2, hF2⟩ := h2
  exact ⟨⟨v2, rfl⟩, hg2, zRel_keep hR hF hF2 rfl rfl rfl rfl⟩)
theorem qc_5 (f : zM) (hI : zInv f) (hR : zRel f) (a : Nat → Int32) : zCall_5 f a (fun g => zInv g ∧ zRel g) := ZM.mono (w_X9_type 13 f (((a 1).toInt64 <<< ((32 : Int32).toInt64 &&& 63) ||| (a 2).toInt64 &&& 4294967295)) ((a 3)) (zB_any _) hI) (fun r g h => by
  obtain ⟨⟨v, rfl, _⟩, hg, hF⟩ := h
  refine ⟨v, rfl, ?_⟩
  refine ZM.mono (w_X10_type 13 g (((a 1).toInt64 <<< ((32 : Int32).toInt64 &&& 63) ||| (a 2).toInt64 &&& 4294967295)) ((a 3)) (zB_any _) hg) (fun r2 g2 h2 => ?_)
  obtain ⟨⟨v2, rfl, _⟩, hg2, hF2⟩ := h2
  exact ⟨⟨v2, rfl⟩, hg2, zRel_keep hR hF hF2 rfl rfl rfl rfl⟩)
theorem qc_6 (f : zM) (hI : zInv f) (hR : zRel f) (a : Nat → Int32) : zCall_6 f a (fun g => zInv g ∧ zRel g) := ZMs.mono (w_X9_world 5 f  hI) (fun r g h => by
  obtain ⟨⟨v, rfl, _⟩, hg, hF⟩ := h
  refine ⟨v, rfl, ?_⟩
  refine ZM.mono (w_X10_world 10 g  hg) (fun r2 g2 h2 => ?_)
  obtain ⟨⟨v2, rfl, _⟩, hg2, hF2⟩ := h2
  exact ⟨⟨v2, rfl⟩, hg2, zRel_keep hR hF hF2 rfl rfl rfl rfl⟩)
theorem qc_7 (f : zM) (hI : zInv f) (hR : zRel f) (a : Nat → Int32) : zCall_7 f a (fun g => zInv g ∧ zRel g) := ZM.mono (w_X9_crimeOf 14 f ((a 1)) (zB_any _) ((a 2)) (zB_any _) hI) (fun r g h => by
  obtain ⟨⟨v, rfl, _⟩, hg, hF⟩ := h
  refine ⟨v, rfl, ?_⟩
  refine ZM.mono (w_X10_crimeOf 13 g ((a 1)) (zB_any _) ((a 2)) (zB_any _) hg) (fun r2 g2 h2 => ?_)
  obtain ⟨⟨v2, rfl, _⟩, hg2, hF2⟩ := h2
  exact ⟨⟨v2, rfl⟩, hg2, zRel_keep hR hF hF2 rfl rfl rfl rfl⟩)
theorem qc_8 (f : zM) (hI : zInv f) (hR : zRel f) (a : Nat → Int32) : zCall_8 f a (fun g => zInv g ∧ zRel g) := ZM.mono (w_X9_paper 13 f ((a 1)) (zB_any _) ((a 2)) (zB_any _) hI) (fun r g h => by
  obtain ⟨⟨v, rfl, _⟩, hg, hF⟩ := h
  refine ⟨v, rfl, ?_⟩
  refine ZM.mono (w_X10_paper 12 g ((a 1)) (zB_any _) ((a 2)) (zB_any _) hg) (fun r2 g2 h2 => ?_)
  obtain ⟨⟨v2, rfl, _⟩, hg2, hF2⟩ := h2
  exact ⟨⟨v2, rfl⟩, hg2, zRel_keep hR hF hF2 rfl rfl rfl rfl⟩)
theorem qc_9 (f : zM) (hI : zInv f) (hR : zRel f) (a : Nat → Int32) : zCall_9 f a (fun g => zInv g ∧ zRel g) := ZM.mono (w_X9_bars 13 f ((a 1)) (zB_any _) ((a 2)) (zB_any _) hI) (fun r g h => by
  obtain ⟨⟨v, rfl, _⟩, hg, hF⟩ := h
  refine ⟨v, rfl, ?_⟩
  refine ZM.mono (w_X10_bars 12 g ((a 1)) (zB_any _) ((a 2)) (zB_any _) hg) (fun r2 g2 h2 => ?_)
  obtain ⟨⟨v2, rfl, _⟩, hg2, hF2⟩ := h2
  exact ⟨⟨v2, rfl⟩, hg2, zRel_keep hR hF hF2 rfl rfl rfl rfl⟩)
theorem qc_10 (f : zM) (hI : zInv f) (hR : zRel f) (a : Nat → Int32) : zCall_10 f a (fun g => zInv g ∧ zRel g) := ZM.mono (w_X9_matches 13 f ((a 1)) (zB_any _) ((a 2)) (zB_any _) ((a 3)) (zB_any _) hI) (fun r g h => by
  obtain ⟨⟨v, rfl, _⟩, hg, hF⟩ := h
  refine ⟨v, rfl, ?_⟩
  refine ZM.mono (w_X10_matches 12 g ((a 1)) (zB_any _) ((a 2)) (zB_any _) ((a 3)) (zB_any _) hg) (fun r2 g2 h2 => ?_)
  obtain ⟨⟨v2, rfl, _⟩, hg2, hF2⟩ := h2
  exact ⟨⟨v2, rfl⟩, hg2, zRel_keep hR hF hF2 rfl rfl rfl rfl⟩)
theorem qc_11 (f : zM) (hI : zInv f) (hR : zRel f) (a : Nat → Int32) : zCall_11 f a (fun g => zInv g ∧ zRel g) := ZM.mono (w_X9_yearsOf 13 f ((a 1)) (zB_any _) ((a 2)) (zB_any _) ((a 3)) (zB_any _) hI) (fun r g h => by
  obtain ⟨⟨v, rfl, _⟩, hg, hF⟩ := h
  refine ⟨v, rfl, ?_⟩
  refine ZM.mono (w_X10_yearsOf 11 g ((a 1)) (zB_any _) ((a 2)) (zB_any _) ((a 3)) (zB_any _) hg) (fun r2 g2 h2 => ?_)
  obtain ⟨⟨v2, rfl, _⟩, hg2, hF2⟩ := h2
  exact ⟨⟨v2, rfl⟩, hg2, zRel_keep hR hF hF2 rfl rfl rfl rfl⟩)
theorem qc_12 (f : zM) (hI : zInv f) (hR : zRel f) (a : Nat → Int32) : zCall_12 f a (fun g => zInv g ∧ zRel g) := ZM.mono (w_X9_shows 11 f ((a 1)) (zB_any _) ((a 2)) (zB_any _) ((a 3)) (zB_any _) ((a 4)) (zB_any _) hI) (fun r g h => by
  obtain ⟨⟨v, rfl, _⟩, hg, hF⟩ := h
  refine ⟨v, rfl, ?_⟩
  refine ZM.mono (w_X10_shows 12 g ((a 1)) (zB_any _) ((a 2)) (zB_any _) ((a 3)) (zB_any _) ((a 4)) (zB_any _) hg) (fun r2 g2 h2 => ?_)
  obtain ⟨⟨v2, rfl, _⟩, hg2, hF2⟩ := h2
  exact ⟨⟨v2, rfl⟩, hg2, zRel_keep hR hF hF2 rfl rfl rfl rfl⟩)
theorem qc_13 (f : zM) (hI : zInv f) (hR : zRel f) (a : Nat → Int32) : zCall_13 f a (fun g => zInv g ∧ zRel g) := ZM.mono (w_X9_count 14 f ((a 1)) (zB_any _) hI) (fun r g h => by
  obtain ⟨⟨v, rfl, _⟩, hg, hF⟩ := h
  refine ⟨v, rfl, ?_⟩
  refine ZM.mono (w_X10_count 14 g ((a 1)) (zB_any _) hg) (fun r2 g2 h2 => ?_)
  obtain ⟨⟨v2, rfl, _⟩, hg2, hF2⟩ := h2
  exact ⟨⟨v2, rfl⟩, hg2, zRel_keep hR hF hF2 rfl rfl rfl rfl⟩)
theorem qc_14 (f : zM) (hI : zInv f) (hR : zRel f) (a : Nat → Int32) : zCall_14 f a (fun g => zInv g ∧ zRel g) := ZM.mono (w_X9_man 13 f ((a 1)) (zB_any _) ((a 2)) (zB_any _) hI) (fun r g h => by
  obtain ⟨⟨v, rfl, _⟩, hg, hF⟩ := h
  refine ⟨v, rfl, ?_⟩
  refine ZM.mono (w_X10_man 12 g ((a 1)) (zB_any _) ((a 2)) (zB_any _) hg) (fun r2 g2 h2 => ?_)
  obtain ⟨⟨v2, rfl, _⟩, hg2, hF2⟩ := h2
  exact ⟨⟨v2, rfl⟩, hg2, zRel_keep hR hF hF2 rfl rfl rfl rfl⟩)
theorem qc_15 (f : zM) (hI : zInv f) (hR : zRel f) (a : Nat → Int32) : zCall_15 f a (fun g => zInv g ∧ zRel g) := ZM.mono (w_X9_judged 13 f ((a 1)) (zB_any _) ((zbl (a 2))) (zbl_B _) hI) (fun r g h => by
  obtain ⟨⟨v, rfl, _⟩, hg, hF⟩ := h
  refine ⟨v, rfl, ?_⟩
  refine ZM.mono (w_X10_judged 12 g ((a 1)) (zB_any _) ((zbl (a 2))) (zbl_B _) hg) (fun r2 g2 h2 => ?_)
  obtain ⟨⟨v2, rfl, _⟩, hg2, hF2⟩ := h2
  exact ⟨⟨v2, rfl⟩, hg2, zRel_keep hR hF hF2 rfl rfl rfl rfl⟩)
theorem qc_16 (f : zM) (hI : zInv f) (hR : zRel f) (a : Nat → Int32) : zCall_16 f a (fun g => zInv g ∧ zRel g) := ZM.mono (w_X9_bound 13 f ((a 1)) (zB_any _) hI) (fun r g h => by
  obtain ⟨⟨v, rfl, _⟩, hg, hF⟩ := h
  refine ⟨v, rfl, ?_⟩
  refine ZM.mono (w_X10_bound 13 g ((a 1)) (zB_any _) hg) (fun r2 g2 h2 => ?_)
  obtain ⟨⟨v2, rfl, _⟩, hg2, hF2⟩ := h2
  exact ⟨⟨v2, rfl⟩, hg2, zRel_keep hR hF hF2 rfl rfl rfl rfl⟩)
theorem qc_17 (f : zM) (hI : zInv f) (hR : zRel f) (a : Nat → Int32) : zCall_17 f a (fun g => zInv g ∧ zRel g) := ZM.mono (w_X9_covers 12 f ((a 1)) (zB_any _) hI) (fun r g h => by
  obtain ⟨⟨v, rfl, _⟩, hg, hF⟩ := h
  refine ⟨v, rfl, ?_⟩
  refine ZM.mono (w_X10_covers 10 g ((a 1)) (zB_any _) hg) (fun r2 g2 h2 => ?_)
  obtain ⟨⟨v2, rfl, _⟩, hg2, hF2⟩ := h2
  exact ⟨⟨v2, rfl⟩, hg2, zRel_keep hR hF hF2 rfl rfl rfl rfl⟩)
theorem qc_18 (f : zM) (hI : zInv f) (hR : zRel f) (a : Nat → Int32) : zCall_18 f a (fun g => zInv g ∧ zRel g) := ZM.mono (w_X9_lets 11 f ((a 1)) (zB_any _) hI) (fun r g h => by
  obtain ⟨⟨v, rfl, _⟩, hg, hF, _⟩ := h
  refine ⟨v, rfl, ?_⟩
  refine ZM.mono (w_X10_lets 8 g ((a 1)) (zB_any _) hg) (fun r2 g2 h2 => ?_)
  obtain ⟨⟨v2, rfl, _⟩, hg2, hF2, _⟩ := h2
  exact ⟨⟨v2, rfl⟩, hg2, zRel_keep hR hF hF2 rfl rfl rfl rfl⟩)
theorem qc_19 (f : zM) (hI : zInv f) (hR : zRel f) (a : Nat → Int32) : zCall_19 f a (fun g => zInv g ∧ zRel g) := ZM.mono (w_X9_barred 12 f ((a 1)) (zB_any _) ((a 2)) (zB_any _) hI) (fun r g h => by
  obtain ⟨⟨v, rfl, _⟩, hg, hF⟩ := h
  refine ⟨v, rfl, ?_⟩
  refine ZM.mono (w_X10_barred 10 g ((a 1)) (zB_any _) ((a 2)) (zB_any _) hg) (fun r2 g2 h2 => ?_)
  obtain ⟨⟨v2, rfl, _⟩, hg2, hF2⟩ := h2
  exact ⟨⟨v2, rfl⟩, hg2, zRel_keep hR hF hF2 rfl rfl rfl rfl⟩)
theorem qc_20 (f : zM) (hI : zInv f) (hR : zRel f) (a : Nat → Int32) : zCall_20 f a (fun g => zInv g ∧ zRel g) := ZM.mono (w_X9_send 10 f ((a 1)) (zB_any _) hI) (fun r g h => by
  obtain ⟨⟨v, rfl, _⟩, hg, hF⟩ := h
  refine ⟨v, rfl, ?_⟩
  refine ZM.mono (w_X10_send 7 g ((a 1)) (zB_any _) hg) (fun r2 g2 h2 => ?_)
  obtain ⟨⟨v2, rfl, _⟩, hg2, hF2⟩ := h2
  exact ⟨⟨v2, rfl⟩, hg2, zRel_keep hR hF hF2 rfl rfl rfl rfl⟩)
theorem qc_21 (f : zM) (hI : zInv f) (hR : zRel f) (a : Nat → Int32) : zCall_21 f a (fun g => zInv g ∧ zRel g) := ZM.mono (w_X9_tried 12 f  hI) (fun r g h => by
  obtain ⟨⟨v, rfl, _⟩, hg, hF⟩ := h
  refine ⟨v, rfl, ?_⟩
  refine ZM.mono (w_X10_tried 10 g  hg) (fun r2 g2 h2 => ?_)
  obtain ⟨⟨v2, rfl, _⟩, hg2, hF2⟩ := h2
  exact ⟨⟨v2, rfl⟩, hg2, zRel_keep hR hF hF2 rfl rfl rfl rfl⟩)
theorem qc_22 (f : zM) (hI : zInv f) (hR : zRel f) (a : Nat → Int32) : zCall_22 f a (fun g => zInv g ∧ zRel g) := ZM.mono (w_X9_road 10 f ((a 1)) (zB_any _) ((a 2)) (zB_any _) ((a 3)) (zB_any _) hI) (fun r g h => by
  obtain ⟨⟨v, rfl, _⟩, hg, hF⟩ := h
  refine ⟨v, rfl, ?_⟩
  refine ZM.mono (w_X10_road 8 g ((a 1)) (zB_any _) ((a 2)) (zB_any _) ((a 3)) (zB_any _) hg) (fun r2 g2 h2 => ?_)
  obtain ⟨⟨v2, rfl, _⟩, hg2, hF2⟩ := h2
  exact ⟨⟨v2, rfl⟩, hg2, zRel_keep hR hF hF2 rfl rfl rfl rfl⟩)
theorem qc_23 (f : zM) (hI : zInv f) (hR : zRel f) (a : Nat → Int32) : zCall_23 f a (fun g => zInv g ∧ zRel g) := ZM.mono (w_X9_lands 10 f  hI) (fun r g h => by
  obtain ⟨⟨v, rfl, _⟩, hg, hF⟩ := h
  refine ⟨v, rfl, ?_⟩
  refine ZM.mono (w_X10_lands 8 g  hg) (fun r2 g2 h2 => ?_)
  obtain ⟨⟨v2, rfl, _⟩, hg2, hF2⟩ := h2
  exact ⟨⟨v2, rfl⟩, hg2, zRel_keep hR hF hF2 rfl rfl rfl rfl⟩)
theorem qc_24 (f : zM) (hI : zInv f) (hR : zRel f) (a : Nat → Int32) : zCall_24 f a (fun g => zInv g ∧ zRel g) := ZM.mono (w_X9_safe 10 f ((a 1)) (zB_any _) hI) (fun r g h => by
  obtain ⟨⟨v, rfl, _⟩, hg, hF⟩ := h
  refine ⟨v, rfl, ?_⟩
  refine ZM.mono (w_X10_safe 9 g ((a 1)) (zB_any _) hg) (fun r2 g2 h2 => ?_)
  obtain ⟨⟨v2, rfl, _⟩, hg2, hF2⟩ := h2
  exact ⟨⟨v2, rfl⟩, hg2, zRel_keep hR hF hF2 rfl rfl rfl rfl⟩)
theorem qc_25 (f : zM) (hI : zInv f) (hR : zRel f) (a : Nat → Int32) : zCall_25 f a (fun g => zInv g ∧ zRel g) := ZM.mono (w_X9_demand 13 f ((a 1)) (zB_any _) ((a 2)) (zB_any _) ((a 3)) (zB_any _) hI) (fun r g h => by
  obtain ⟨⟨v, rfl, _⟩, hg, hF⟩ := h
  refine ⟨v, rfl, ?_⟩
  refine ZM.mono (w_X10_demand 12 g ((a 1)) (zB_any _) ((a 2)) (zB_any _) ((a 3)) (zB_any _) hg) (fun r2 g2 h2 => ?_)
  obtain ⟨⟨v2, rfl, _⟩, hg2, hF2⟩ := h2
  exact ⟨⟨v2, rfl⟩, hg2, zRel_keep hR hF hF2 rfl rfl rfl rfl⟩)
theorem qc_26 (f : zM) (hI : zInv f) (hR : zRel f) (a : Nat → Int32) : zCall_26 f a (fun g => zInv g ∧ zRel g) := ZM.mono (w_X9_ahead 10 f ((a 1)) (zB_any _) hI) (fun r g h => by
  obtain ⟨⟨v, rfl, _⟩, hg, hF⟩ := h
  refine ⟨v, rfl, ?_⟩
  refine ZM.mono (w_X10_ahead 5 g ((a 1)) (zB_any _) hg) (fun r2 g2 h2 => ?_)
  obtain ⟨⟨v2, rfl, _⟩, hg2, hF2⟩ := h2
  exact ⟨⟨v2, rfl⟩, hg2, zRel_keep hR hF hF2 rfl rfl rfl rfl⟩)
theorem qc_27 (f : zM) (hI : zInv f) (hR : zRel f) (a : Nat → Int32) : zCall_27 f a (fun g => zInv g ∧ zRel g) := ZM.mono (w_X9_promises 10 f ((a 1)) (zB_any _) ((a 2)) (zB_any _) hI) (fun r g h => by
  obtain ⟨⟨v, rfl, _⟩, hg, hF⟩ := h
  refine ⟨v, rfl, ?_⟩
  refine ZM.mono (w_X10_promises 8 g ((a 1)) (zB_any _) ((a 2)) (zB_any _) hg) (fun r2 g2 h2 => ?_)
  obtain ⟨⟨v2, rfl, _⟩, hg2, hF2⟩ := h2
  exact ⟨⟨v2, rfl⟩, hg2, zRel_keep hR hF hF2 rfl rfl rfl rfl⟩)
theorem qc_28 (f : zM) (hI : zInv f) (hR : zRel f) (a : Nat → Int32) : zCall_28 f a (fun g => zInv g ∧ zRel g) := ZM.mono (w_X9_mended 10 f ((a 1)) (zB_any _) ((a 2)) (zB_any _) hI) (fun r g h => by
  obtain ⟨⟨v, rfl, _⟩, hg, hF⟩ := h
  refine ⟨v, rfl, ?_⟩
  refine ZM.mono (w_X10_mended 9 g ((a 1)) (zB_any _) ((a 2)) (zB_any _) hg) (fun r2 g2 h2 => ?_)
  obtain ⟨⟨v2, rfl, _⟩, hg2, hF2⟩ := h2
  exact ⟨⟨v2, rfl⟩, hg2, zRel_keep hR hF hF2 rfl rfl rfl rfl⟩)
theorem qc_29 (f : zM) (hI : zInv f) (hR : zRel f) (a : Nat → Int32) : zCall_29 f a (fun g => zInv g ∧ zRel g) := ZM.mono (w_X9_part 12 f ((a 1)) (zB_any _) ((a 2)) (zB_any _) ((a 3)) (zB_any _) hI) (fun r g h => by
  obtain ⟨⟨v, rfl, _⟩, hg, hF⟩ := h
  refine ⟨v, rfl, ?_⟩
  refine ZM.mono (w_X10_part 12 g ((a 1)) (zB_any _) ((a 2)) (zB_any _) ((a 3)) (zB_any _) hg) (fun r2 g2 h2 => ?_)
  obtain ⟨⟨v2, rfl, _⟩, hg2, hF2⟩ := h2
  exact ⟨⟨v2, rfl⟩, hg2, zRel_keep hR hF hF2 rfl rfl rfl rfl⟩)
theorem qc_30 (f : zM) (hI : zInv f) (hR : zRel f) (a : Nat → Int32) : zCall_30 f a (fun g => zInv g ∧ zRel g) := ZM.mono (w_X9_imageA 10 f hI) (fun r g h => by
  obtain ⟨⟨v, rfl, _⟩, hg, _, hv⟩ := h
  have hv := hv v rfl
  refine ⟨v, rfl, ?_⟩
  refine ZM.mono (m_X10_image 13 g) (fun r2 g2 h2 => ?_)
  obtain ⟨rfl, rfl⟩ := h2
  refine ⟨⟨1, rfl⟩, zim_inv hg, ?_⟩
  show g 0 0 5 = 1
  exact (z32eq _ _).mpr hv)
theorem qc_31 (f : zM) (hI : zInv f) (hR : zRel f) (a : Nat → Int32) : zCall_31 f a (fun g => zInv g ∧ zRel g) := ZM.mono (w_X9_restoreA 10 f hI) (fun r g h => by
  obtain ⟨⟨v, rfl, _⟩, hg, hF, hv⟩ := h
  have hv := hv v rfl
  have e1 : g 25 0 22 = f 0 0 5 := by rw [hF 25 0 22 rfl]; exact hR.symm
  have e2 : g 0 0 5 = f 0 0 5 := hF 0 0 5 rfl
  refine ⟨v, rfl, ?_⟩
  refine ZM.mono (m_X10_restore 13 g) (fun r2 g2 h2 => ?_)
  rcases h2 with ⟨h0, rfl, rfl⟩ | ⟨h0, rfl, rfl⟩
  · rw [e1] at h0
    rw [h0] at hv
    refine ⟨?_, hg, by unfold zRel; rw [e1, e2]⟩
    rw [(z32eq v (-4)).mpr (hv.1 rfl)]
  · rw [e1, z32eq] at h0
    refine ⟨?_, zre_inv hg, ?_⟩
    · rw [(z32eq v 1).mpr (hv.2 h0)]
    · show g 0 0 5 = g 25 0 22
      rw [e1, e2])
theorem qc_32 (f : zM) (hI : zInv f) (hR : zRel f) (a : Nat → Int32) : zCall_32 f a (fun g => zInv g ∧ zRel g) := ZM.mono (w_X9_sheet 12 f ((a 1)) (zB_any _) ((a 2)) (zB_any _) ((a 3)) (zB_any _) hI) (fun r g h => by
  obtain ⟨⟨v, rfl, _⟩, hg, hF⟩ := h
  refine ⟨v, rfl, ?_⟩
  refine ZM.mono (w_X10_sheet 12 g ((a 1)) (zB_any _) ((a 2)) (zB_any _) ((a 3)) (zB_any _) hg) (fun r2 g2 h2 => ?_)
  obtain ⟨⟨v2, rfl, _⟩, hg2, hF2⟩ := h2
  exact ⟨⟨v2, rfl⟩, hg2, zRel_keep hR hF hF2 rfl rfl rfl rfl⟩)
theorem qc_33 (f : zM) (hI : zInv f) (hR : zRel f) (a : Nat → Int32) : zCall_33 f a (fun g => zInv g ∧ zRel g) := ZM.mono (w_X9_drop 13 f ((a 1)) (zB_any _) hI) (fun r g h => by
  obtain ⟨⟨v, rfl, _⟩, hg, hF⟩ := h
  refine ⟨v, rfl, ?_⟩
  refine ZM.mono (w_X10_drop 13 g ((a 1)) (zB_any _) hg) (fun r2 g2 h2 => ?_)
  obtain ⟨⟨v2, rfl, _⟩, hg2, hF2⟩ := h2
  exact ⟨⟨v2, rfl⟩, hg2, zRel_keep hR hF hF2 rfl rfl rfl rfl⟩)
theorem qc_34 (f : zM) (hI : zInv f) (hR : zRel f) (a : Nat → Int32) : zCall_34 f a (fun g => zInv g ∧ zRel g) := ZM.mono (w_X9_item 13 f ((a 1)) (zB_any _) ((a 2)) (zB_any _) ((a 3)) (zB_any _) ((a 4)) (zB_any _) hI) (fun r g h => by
  obtain ⟨⟨v, rfl, _⟩, hg, hF⟩ := h
  refine ⟨v, rfl, ?_⟩
  refine ZM.mono (w_X10_item 12 g ((a 1)) (zB_any _) ((a 2)) (zB_any _) ((a 3)) (zB_any _) ((a 4)) (zB_any _) hg) (fun r2 g2 h2 => ?_)
  obtain ⟨⟨v2, rfl, _⟩, hg2, hF2⟩ := h2
  exact ⟨⟨v2, rfl⟩, hg2, zRel_keep hR hF hF2 rfl rfl rfl rfl⟩)
theorem qc_all (f : zM) (hI : zInv f ∧ zRel f) (a : Nat → Int32) : ∀ k, k < 35 → zCall k f a (fun g => zInv g ∧ zRel g)
  | 0, _ => qc_0 f hI.1 hI.2 a
  | 1, _ => qc_1 f hI.1 hI.2 a
  | 2, _ => qc_2 f hI.1 hI.2 a
  | 3, _ => qc_3 f hI.1 hI.2 a
  | 4, _ => qc_4 f hI.1 hI.2 a
  | 5, _ => qc_5 f hI.1 hI.2 a
  | 6, _ => qc_6 f hI.1 hI.2 a
  | 7, _ => qc_7 f hI.1 hI.2 a
  | 8, _ => qc_8 f hI.1 hI.2 a
  | 9, _ => qc_9 f hI.1 hI.2 a
  | 10, _ => qc_10 f hI.1 hI.2 a
  | 11, _ => qc_11 f hI.1 hI.2 a
  | 12, _ => qc_12 f hI.1 hI.2 a
  | 13, _ => qc_13 f hI.1 hI.2 a
  | 14, _ => qc_14 f hI.1 hI.2 a
  | 15, _ => qc_15 f hI.1 hI.2 a
  | 16, _ => qc_16 f hI.1 hI.2 a
  | 17, _ => qc_17 f hI.1 hI.2 a
  | 18, _ => qc_18 f hI.1 hI.2 a
  | 19, _ => qc_19 f hI.1 hI.2 a
  | 20, _ => qc_20 f hI.1 hI.2 a
  | 21, _ => qc_21 f hI.1 hI.2 a
  | 22, _ => qc_22 f hI.1 hI.2 a
  | 23, _ => qc_23 f hI.1 hI.2 a
  | 24, _ => qc_24 f hI.1 hI.2 a
  | 25, _ => qc_25 f hI.1 hI.2 a
  | 26, _ => qc_26 f hI.1 hI.2 a
  | 27, _ => qc_27 f hI.1 hI.2 a
  | 28, _ => qc_28 f hI.1 hI.2 a
  | 29, _ => qc_29 f hI.1 hI.2 a
  | 30, _ => qc_30 f hI.1 hI.2 a
  | 31, _ => qc_31 f hI.1 hI.2 a
  | 32, _ => qc_32 f hI.1 hI.2 a
  | 33, _ => qc_33 f hI.1 hI.2 a
  | 34, _ => qc_34 f hI.1 hI.2 a
  | k + 35, h => absurd h (by omega)