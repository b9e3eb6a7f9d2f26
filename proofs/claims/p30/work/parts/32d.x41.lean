set_option maxRecDepth 100000 in
set_option maxHeartbeats 4000000 in
theorem x_X9_image (d : Nat) (f : zM)  (hI : zInv f) : ZM (d + 4) yX9_image cX9_image 1 (some .int) [zr 0 0] f (fun r g => (∃ v, r = some (zi v) ∧ zB v 1 1) ∧ zInv g ∧ zFr [(0, some 5), (1, some 5), (1, some 6), (1, some 7), (1, some 8), (6, some 0), (6, some 1), (6, some 2), (6, some 3), (6, some 4), (6, some 5), (6, some 6), (7, some 0), (7, some 1), (7, some 2), (7, some 3), (7, some 4), (7, some 5), (8, some 0), (8, some 1), (8, some 2), (8, some 3), (8, some 4), (8, some 5), (8, some 6), (8, some 7), (9, none), (10, none), (11, some 0), (11, some 1), (11, some 2), (11, some 3), (11, some 4), (11, some 5), (11, some 6), (11, some 7), (12, some 0), (12, some 1), (12, some 2)] f g ∧ (∀ v : Int32, r = some (zi v) → g 1 1 5 = f 1 0 5) ∧ (∀ v : Int32, r = some (zi v) → g 1 1 6 = f 1 0 6) ∧ (∀ v : Int32, r = some (zi v) → g 1 1 7 = f 1 0 7) ∧ (∀ v : Int32, r = some (zi v) → g 1 1 8 = f 1 0 8) ∧ (∀ v : Int32, r = some (zi v) → g 1 0 5 = f 1 0 5) ∧ (∀ v : Int32, r = some (zi v) → g 1 0 6 = f 1 0 6) ∧ (∀ v : Int32, r = some (zi v) → g 1 0 7 = f 1 0 7) ∧ (∀ v : Int32, r = some (zi v) → g 1 0 8 = f 1 0 8) ∧ (∀ v : Int32, r = some (zi v) → zcpd f g 7 24 0 (f 1 0 5).toInt.toNat 6 24) ∧ (∀ v : Int32, r = some (zi v) → zcpd f g 8 8 0 (f 1 0 6).toInt.toNat 5 8) ∧ (∀ v : Int32, r = some (zi v) → zcpd f g 11 12 0 (f 1 0 7).toInt.toNat 8 12) ∧ (∀ v : Int32, r = some (zi v) → zcpd f g 12 8 0 (f 1 0 8).toInt.toNat 3 8) ∧ (∀ v : Int32, r = some (zi v) → ∀ j, j < 7 → g 6 1 j = f 6 0 j) ∧ (∀ v : Int32, r = some (zi v) → ∀ j, j < 7 → g 6 0 j = f 6 0 j) ∧ (∀ v : Int32, r = some (zi v) → g 0 0 5 = 1) ∧ (∀ v : Int32, r = some (zi v) → zRl f → zRl g)) := by
  refine ZM.intro (by decide +kernel) (Nat.le_of_ble_eq_true rfl) ?_
  intro X C hr hn
  have hF : zFr [(0, some 5), (1, some 5), (1, some 6), (1, some 7), (1, some 8), (6, some 0), (6, some 1), (6, some 2), (6, some 3), (6, some 4), (6, some 5), (6, some 6), (7, some 0), (7, some 1), (7, some 2), (7, some 3), (7, some 4), (7, some 5), (8, some 0), (8, some 1), (8, some 2), (8, some 3), (8, some 4), (8, some 5), (8, some 6), (8, some 7), (9, none), (10, none), (11, some 0), (11, some 1), (11, some 2), (11, some 3), (11, some 4), (11, some 5), (11, some 6), (11, some 7), (12, some 0), (12, some 1), (12, some 2)] f f := zFr.rf _ _
  show Z X 0 [some (zr 0 0)] [] f
  refine z_aload_n (pc := 0) C dX9_image_0 rfl ?_
  refine z_getR (pc := 1) C zf_X9_16 rfl rfl (by decide) dX9_image_1 ?_
  refine z_aload_n (pc := 4) C dX9_image_4 rfl ?_
  refine z_getR (pc := 5) C zf_X9_10 rfl rfl (by decide) dX9_image_5 ?_
  refine z_callV (pc := 8) C zk_X9_330 (x_X8_copy_1 _ _  hI) rfl rfl (by decide) rfl rfl (Nat.le_of_ble_eq_true rfl) dX9_image_8 (fun r1 g1 q1 => ?_)
  obtain ⟨rfl, hI1, hF1q, hp1_0, hp1_1, hp1_2, hp1_3, hp1_4, hp1_5, hp1_6, hp1_7, hp1_8, hp1_9, hp1_10, hp1_11, hp1_12, hp1_13, hp1_14⟩ := q1
  have hF1 := zFr.tr hF hF1q (by decide)
  simp only [Option.toList, List.cons_append, List.nil_append]
  refine z_aload_n (pc := 11) C dX9_image_11 rfl ?_
  refine z_iconst (pc := 12) (v := 1) C dX9_image_12 (by decide) ?_
  refine z_putZ (pc := 13) C zf_X9_42 zp_9_5 (z01 (zB.wk (a' := 0) (b' := 1) (zB.of (x := 1) 1 (by decide)) (by decide) (by decide))) rfl rfl (by decide) dX9_image_13 ?_
  refine w_memy hI1 hF1 (zB.wk (a' := 0) (b' := 1) (zB.of (x := 1) 1 (by decide)) (by decide) (by decide)) rfl (fun g2 qm2 hI2 hF2 => ?_)
  refine z_iconst (pc := 16) (v := 1) C dX9_image_16 (by decide) ?_
  exact z_iret (pc := 17) C hr dX9_image_17 ⟨⟨_, rfl, (zB.of (x := 1) 1 (by decide))⟩, hI2, hF2, (by
                                                                                          intro v hv; cases hv
                                                                                          have h := hp1_0
                                                                                          subst qm2
                                                                                          exact (zup_ne _ _ (by omega)).trans h), (by
                                                                                          intro v hv; cases hv
                                                                                          have h := hp1_1
                                                                                          subst qm2
                                                                                          exact (zup_ne _ _ (by omega)).trans h), (by
                                                                                          intro v hv; cases hv
                                                                                          have h := hp1_2
                                                                                          subst qm2
                                                                                          exact (zup_ne _ _ (by omega)).trans h), (by
                                                                                          intro v hv; cases hv
                                                                                          have h := hp1_3
                                                                                          subst qm2
                                                                                          exact (zup_ne _ _ (by omega)).trans h), (by
                                                                                          intro v hv; cases hv
                                                                                          have h := hp1_4
                                                                                          subst qm2
                                                                                          exact (zup_ne _ _ (by omega)).trans h), (by
                                                                                          intro v hv; cases hv
                                                                                          have h := hp1_5
                                                                                          subst qm2
                                                                                          exact (zup_ne _ _ (by omega)).trans h), (by
                                                                                          intro v hv; cases hv
                                                                                          have h := hp1_6
                                                                                          subst qm2
                                                                                          exact (zup_ne _ _ (by omega)).trans h), (by
                                                                                          intro v hv; cases hv
                                                                                          have h := hp1_7
                                                                                          subst qm2
                                                                                          exact (zup_ne _ _ (by omega)).trans h), (by
                                                                                          intro v hv; cases hv
                                                                                          exact zcpd_keep hp1_8 (fun x j hj => by subst qm2; exact zup_ne _ _ (by omega))), (by
                                                                                          intro v hv; cases hv
                                                                                          exact zcpd_keep hp1_9 (fun x j hj => by subst qm2; exact zup_ne _ _ (by omega))), (by
                                                                                          intro v hv; cases hv
                                                                                          exact zcpd_keep hp1_10 (fun x j hj => by subst qm2; exact zup_ne _ _ (by omega))), (by
                                                                                          intro v hv; cases hv
                                                                                          exact zcpd_keep hp1_11 (fun x j hj => by subst qm2; exact zup_ne _ _ (by omega))), (by
                                                                                          intro v hv; cases hv
                                                                                          intro j hj
                                                                                          have h := hp1_12 j hj
                                                                                          subst qm2
                                                                                          exact (zup_ne _ _ (by omega)).trans h), (by
                                                                                          intro v hv; cases hv
                                                                                          intro j hj
                                                                                          have h := hp1_13 j hj
                                                                                          subst qm2
                                                                                          exact (zup_ne _ _ (by omega)).trans h), (by intro v hv; cases hv; subst qm2; rfl), (by
                                                                                          intro v hv; cases hv
                                                                                          intro hL
                                                                                          have h9 := hp1_14
                                                                                          exact zRl_k hL (((show g2 1 0 6 = g1 1 0 6 by rw [qm2]; exact zup_ne _ _ (by omega))).trans hp1_5) (((show g2 1 0 5 = g1 1 0 5 by rw [qm2]; exact zup_ne _ _ (by omega))).trans hp1_4) hI (fun x j hx hj => ((show g2 7 x j = g1 7 x j by rw [qm2]; exact zup_ne _ _ (by omega))).trans (by have e := hp1_8.2 x j hx hj; rw [Nat.zero_add] at e; exact e)) (fun i j hi _ => ((show g2 8 i j = g1 8 i j by rw [qm2]; exact zup_ne _ _ (by omega))).trans (h9.1 i j hi)) (fun i l hi _ => ((show g2 9 i l = g1 9 i l by rw [qm2]; exact zup_ne _ _ (by omega))).trans (h9.2.1 i l hi)) (fun i l hi _ => ((show g2 10 i l = g1 10 i l by rw [qm2]; exact zup_ne _ _ (by omega))).trans (h9.2.2 i l hi)))⟩

set_option maxRecDepth 100000 in
set_option maxHeartbeats 4000000 in
theorem x_X9_restore (d : Nat) (f : zM)  (hI : zInv f) : ZM (d + 4) yX9_restore cX9_restore 1 (some .int) [zr 0 0] f (fun r g => (∃ v, r = some (zi v) ∧ zB v (-4) 1) ∧ zInv g ∧ zFr [(1, some 5), (1, some 6), (1, some 7), (1, some 8), (6, some 0), (6, some 1), (6, some 2), (6, some 3), (6, some 4), (6, some 5), (6, some 6), (7, some 0), (7, some 1), (7, some 2), (7, some 3), (7, some 4), (7, some 5), (8, some 0), (8, some 1), (8, some 2), (8, some 3), (8, some 4), (8, some 5), (8, some 6), (8, some 7), (9, none), (10, none), (11, some 0), (11, some 1), (11, some 2), (11, some 3), (11, some 4), (11, some 5), (11, some 6), (11, some 7), (12, some 0), (12, some 1), (12, some 2)] f g ∧ (∀ v : Int32, r = some (zi v) → (f 0 0 5 = 0 ∧ v = -4 ∧ g = f) ∨ (¬ f 0 0 5 = 0 ∧ v = 1 ∧ (g 1 0 5 = f 1 1 5) ∧ (g 1 0 6 = f 1 1 6) ∧ (g 1 0 7 = f 1 1 7) ∧ (g 1 0 8 = f 1 1 8) ∧ (g 1 1 5 = f 1 1 5) ∧ (g 1 1 6 = f 1 1 6) ∧ (g 1 1 7 = f 1 1 7) ∧ (g 1 1 8 = f 1 1 8) ∧ (zcpd f g 7 0 24 (f 1 1 5).toInt.toNat 6 24) ∧ (zcpd f g 8 0 8 (f 1 1 6).toInt.toNat 5 8) ∧ (zcpd f g 11 0 12 (f 1 1 7).toInt.toNat 8 12) ∧ (zcpd f g 12 0 8 (f 1 1 8).toInt.toNat 3 8) ∧ (∀ j, j < 7 → g 6 0 j = f 6 1 j) ∧ (∀ j, j < 7 → g 6 1 j = f 6 1 j) ∧ (∀ i, i < (f 1 1 6).toInt.toNat → zLk g i (fun k j => g 7 k j) (g 1 0 5).toInt.toNat))) ∧ (∀ v : Int32, r = some (zi v) → zRl f → zRl g)) := by
  refine ZM.intro (by decide +kernel) (Nat.le_of_ble_eq_true rfl) ?_
  intro X C hr hn
  have hF : zFr [(1, some 5), (1, some 6), (1, some 7), (1, some 8), (6, some 0), (6, some 1), (6, some 2), (6, some 3), (6, some 4), (6, some 5), (6, some 6), (7, some 0), (7, some 1), (7, some 2), (7, some 3), (7, some 4), (7, some 5), (8, some 0), (8, some 1), (8, some 2), (8, some 3), (8, some 4), (8, some 5), (8, some 6), (8, some 7), (9, none), (10, none), (11, some 0), (11, some 1), (11, some 2), (11, some 3), (11, some 4), (11, some 5), (11, some 6), (11, some 7), (12, some 0), (12, some 1), (12, some 2)] f f := zFr.rf _ _
  show Z X 0 [some (zr 0 0)] [] f
  refine z_aload_n (pc := 0) C dX9_restore_0 rfl ?_
  refine z_getI (pc := 1) C zf_X9_42 rfl rfl (by decide) dX9_restore_1 ?_
  refine w_gp (fun v => v = f 0 0 5) rfl (fun v2 q2 => ?_)
  have b2x : zB v2 0 1 := by rw [q2]; exact (hI 0 0 5)
  refine z_if_ne (pc := 4) 10 C dX9_restore_4 (by decide) (fun h4_2 => ?_) (fun h4_2 => ?_)
  · skip
    have b4x : zB v2 1 1 := by have q1 := b2x; have q2 := (zB.of (x := 0) 0 (by decide)); simp only [z32lt, z32le, z32eq, Int32.reduceToInt, Int32.toInt_zero] at h4_2; constructor <;> omega
    refine z_aload_n (pc := 10) C dX9_restore_10 rfl ?_
    refine z_getR (pc := 11) C zf_X9_10 rfl rfl (by decide) dX9_restore_11 ?_
    refine z_aload_n (pc := 14) C dX9_restore_14 rfl ?_
    refine z_getR (pc := 15) C zf_X9_16 rfl rfl (by decide) dX9_restore_15 ?_
    refine z_callV (pc := 18) C zk_X9_330 (x_X8_copy _ _  hI) rfl rfl (by decide) rfl rfl (Nat.le_of_ble_eq_true rfl) dX9_restore_18 (fun r5 g5 q5 => ?_)
    obtain ⟨rfl, hI5, hF5q, hp5_0, hp5_1, hp5_2, hp5_3, hp5_4, hp5_5, hp5_6, hp5_7, hp5_8, hp5_9, hp5_10, hp5_11, hp5_12, hp5_13, hp5_14⟩ := q5
    have hF5 := zFr.tr hF hF5q (by decide)
    simp only [Option.toList, List.cons_append, List.nil_append]
    refine z_iconst (pc := 21) (v := 1) C dX9_restore_21 (by decide) ?_
    exact z_iret (pc := 22) C hr dX9_restore_22 ⟨⟨_, rfl, (zB.wk (a' := (-4)) (b' := 1) (zB.of (x := 1) 1 (by decide)) (by decide) (by decide))⟩, hI5, hF5, (by intro v hv; cases hv; exact Or.inr ⟨by subst_vars; assumption, rfl, hp5_0, hp5_1, hp5_2, hp5_3, hp5_4, hp5_5, hp5_6, hp5_7, hp5_8, hp5_9, hp5_10, hp5_11, hp5_12, hp5_13, hp5_14⟩), (by
                                                                                          intro v hv; cases hv
                                                                                          intro _ i hi
                                                                                          have hc := hp5_1
                                                                                          rw [hc] at hi
                                                                                          exact hp5_14 i (by omega))⟩
  · skip
    have b6x : zB v2 0 0 := by have q1 := b2x; have q2 := (zB.of (x := 0) 0 (by decide)); simp only [z32lt, z32le, z32eq, Int32.reduceToInt, Int32.toInt_zero] at h4_2; constructor <;> omega
    refine z_bipush (pc := 7) (v := -4) C dX9_restore_7 (by decide) ?_
    exact z_iret (pc := 9) C hr dX9_restore_9 ⟨⟨_, rfl, (zB.wk (a' := (-4)) (b' := 1) (zB.of (x := (-4)) (-4) (by decide)) (by decide) (by decide))⟩, hI, hF, (by intro v hv; cases hv; exact Or.inl ⟨by subst_vars; assumption, rfl, rfl⟩), (by intro v hv; cases hv; exact fun h => h)⟩

set_option maxRecDepth 100000 in
set_option maxHeartbeats 4000000 in
theorem x_X8_takeDeed (d : Nat) (f : zM) (pf1_0_6 : zB (f 1 0 6) 0 7) (hI : zInv f) : ZM (d + 3) yX8_takeDeed cX8_takeDeed 1 (some .int) [zr 1 0] f (fun r g => (∃ v, r = some (zi v) ∧ zB v 0 7) ∧ zInv g ∧ zFr [(1, some 6), (8, some 5), (8, some 6), (8, some 7), (9, none), (10, none)] f g ∧ (∀ v : Int32, r = some (zi v) → v = f 1 0 6) ∧ (∀ v : Int32, r = some (zi v) → g 1 0 6 = f 1 0 6 + 1) ∧ (∀ v : Int32, r = some (zi v) → g 1 1 6 = f 1 1 6) ∧ (∀ v : Int32, r = some (zi v) → zLk g (f 1 0 6).toInt.toNat (fun k j => f 7 k j) (f 1 0 5).toInt.toNat) ∧ (∀ v : Int32, r = some (zi v) → ∀ i, i ≠ (f 1 0 6).toInt.toNat → (∀ j, g 8 i j = f 8 i j) ∧ (∀ j, g 9 i j = f 9 i j) ∧ (∀ j, g 10 i j = f 10 i j))) := by
  refine ZM.intro (by decide +kernel) (Nat.le_of_ble_eq_true rfl) ?_
  intro X C hr hn
  have hF : zFr [(1, some 6), (8, some 5), (8, some 6), (8, some 7), (9, none), (10, none)] f f := zFr.rf _ _
  have ct1_1_6 : zB (f 1 1 6) 0 8 := hI 1 1 6
  show Z X 0 [some (zr 1 0)] [] f
  refine z_aload_n (pc := 0) C dX8_takeDeed_0 rfl ?_
  refine z_aload_n (pc := 1) C dX8_takeDeed_1 rfl ?_
  refine z_getI (pc := 2) C zf_X8_54 rfl rfl (by decide) dX8_takeDeed_2 ?_
  refine w_gp (fun v => v = f 1 0 6) rfl (fun v1 q1 => ?_)
  have e1 : v1.toInt = (f 1 0 6).toInt := by rw [q1]
  have b1x : zB v1 0 7 := by first | exact zB.eqv e1 pf1_0_6 | (have q9 := pf1_0_6; constructor <;> omega)
  refine z_callV (pc := 5) C zk_X8_60 (x_X8_learnAgain _ _ v1 b1x hI) rfl rfl (by decide) rfl rfl (Nat.le_of_ble_eq_true rfl) dX8_takeDeed_5 (fun r2 g2 q2 => ?_)
  obtain ⟨rfl, hI2, hF2q, hp2_0, hp2_1⟩ := q2
  have hF2 := zFr.tr hF hF2q (by decide)
  simp only [Option.toList, List.cons_append, List.nil_append]
  have ek2_1_1_6 : (g2 1 1 6).toInt = (f 1 1 6).toInt := by rw [hF2q 1 1 6 rfl]
  have c2_1_1_6x : zB (g2 1 1 6) 0 8 := by first | exact zB.eqv ek2_1_1_6 ct1_1_6 | (have q9 := ct1_1_6; constructor <;> omega)
  have ek2_1_0_6 : (g2 1 0 6).toInt = (f 1 0 6).toInt := by rw [hF2q 1 0 6 rfl]
  have c2_1_0_6x : zB (g2 1 0 6) 0 7 := by first | exact zB.eqv ek2_1_0_6 pf1_0_6 | (have q9 := pf1_0_6; constructor <;> omega)
  refine z_aload_n (pc := 8) C dX8_takeDeed_8 rfl ?_
  refine z_dupr (pc := 9) C dX8_takeDeed_9 ?_
  refine z_getI (pc := 10) C zf_X8_54 rfl rfl (by decide) dX8_takeDeed_10 ?_
  refine w_gp (fun v => v = g2 1 0 6) rfl (fun v3 q3 => ?_)
  have e3 : v3.toInt = (g2 1 0 6).toInt := by rw [q3]
  have b3x : zB v3 0 7 := by first | exact zB.eqv e3 c2_1_0_6x | (have q9 := c2_1_0_6x; constructor <;> omega)
  refine z_iconst (pc := 13) (v := 1) C dX8_takeDeed_13 (by decide) ?_
  refine z_iadd (pc := 14) C dX8_takeDeed_14 ?_
  refine w_gp (fun v => v = v3 + (1 : Int32)) rfl (fun v4 q4 => ?_)
  have e4 : v4.toInt = v3.toInt + 1 := by rw [q4]; exact (zadd_eb b3x (zB.of (x := 1) 1 (by decide)) (by decide) (by decide))
  have b4x : zB v4 1 8 := by have q1 := b3x; have q2 := (zB.of (x := 1) 1 (by decide)); constructor <;> omega
  refine z_putI (pc := 15) C zf_X8_54 zp_8_6 rfl rfl (by decide) dX8_takeDeed_15 ?_
  refine w_memx hI2 hF2 (zB.wk (a' := 0) (b' := 8) b4x (by decide) (by decide)) rfl (fun g5 qm5 hI5 hF5 hq5 hx5 => ?_)
  have ek5_1_1_6 : (g5 1 1 6).toInt = (g2 1 1 6).toInt := by rw [(show g5 1 1 6 = g2 1 1 6 by rw [qm5]; exact zup_ne _ _ (by omega))]
  have c5_1_1_6x : zB (g5 1 1 6) 0 8 := by first | exact zB.eqv ek5_1_1_6 c2_1_1_6x | (have q9 := c2_1_1_6x; constructor <;> omega)
  have ec5 : (g5 1 0 6).toInt = v4.toInt := by rw [hx5]
  have c5x : zB (g5 1 0 6) 1 8 := by first | exact zB.eqv ec5 b4x | (have q9 := b4x; constructor <;> omega)
  refine z_aload_n (pc := 18) C dX8_takeDeed_18 rfl ?_
  refine z_getI (pc := 19) C zf_X8_54 rfl rfl (by decide) dX8_takeDeed_19 ?_
  refine w_gp (fun v => v = g5 1 0 6) rfl (fun v6 q6 => ?_)
  have e6 : v6.toInt = (g5 1 0 6).toInt := by rw [q6]
  have b6x : zB v6 1 8 := by first | exact zB.eqv e6 c5x | (have q9 := c5x; constructor <;> omega)
  refine z_iconst (pc := 22) (v := 1) C dX8_takeDeed_22 (by decide) ?_
  refine z_isub (pc := 23) C dX8_takeDeed_23 ?_
  refine w_gp (fun v => v = v6 - (1 : Int32)) rfl (fun v7 q7 => ?_)
  have e7 : v7.toInt = v6.toInt - 1 := by rw [q7]; exact (zsub_eb b6x (zB.of (x := 1) 1 (by decide)) (by decide) (by decide))
  have b7x : zB v7 0 7 := by have q1 := b6x; have q2 := (zB.of (x := 1) 1 (by decide)); constructor <;> omega
  exact z_iret (pc := 24) C hr dX8_takeDeed_24 ⟨⟨_, rfl, b7x⟩, hI5, hF5, (by intro v hv; cases hv; rw [z32eq]; omega), (by
                                                                                          intro v hv; cases hv
                                                                                          have e1 : ((f 1 0 6) + 1 : Int32).toInt = (f 1 0 6).toInt + 1 := zadd_eb pf1_0_6 (zB.of (x := 1) 1 (by decide)) (by decide) (by decide)
                                                                                          rw [z32eq]
                                                                                          omega), (by intro v hv; cases hv; subst qm5; exact (zup_ne _ _ (by omega)).trans (hF2q 1 1 6 rfl)), (by
                                                                                          intro v hv; cases hv
                                                                                          have h := hp2_0
                                                                                          rw [show (v1).toInt.toNat = (f 1 0 6).toInt.toNat by omega] at h
                                                                                          exact zLk_k h (fun j _ => (by rw [qm5]; exact zup_ne _ _ (by omega))) (fun l _ => (by rw [qm5]; exact zup_ne _ _ (by omega))) (fun l _ => (by rw [qm5]; exact zup_ne _ _ (by omega)))), (by
                                                                                          intro v hv; cases hv
                                                                                          have h := hp2_1
                                                                                          rw [show (v1).toInt.toNat = (f 1 0 6).toInt.toNat by omega] at h
                                                                                          intro i hi
                                                                                          exact ⟨fun j => (show g5 8 i j = g2 8 i j by rw [qm5]; exact zup_ne _ _ (by omega)).trans (h.1 i j hi), fun j => (show g5 9 i j = g2 9 i j by rw [qm5]; exact zup_ne _ _ (by omega)).trans (h.2.1 i j hi), fun j => (show g5 10 i j = g2 10 i j by rw [qm5]; exact zup_ne _ _ (by omega)).trans (h.2.2 i j hi)⟩)⟩

set_option maxRecDepth 100000 in
set_option maxHeartbeats 4000000 in
theorem x_X9_deed (d : Nat) (f : zM) (a1 : Int32) (b1 : zB a1 (-2147483648) 2147483647) (a2 : Int32) (b2 : zB a2 (-2147483648) 2147483647) (a3 : Int32) (b3 : zB a3 (-2147483648) 2147483647) (a4 : Int32) (b4 : zB a4 (-2147483648) 2147483647) (hI : zInv f) : ZM (d + 4) yX9_deed cX9_deed 5 (some .int) [zr 0 0, zi a1, zi a2, zi a3, zi a4] f (fun r g => (∃ v, r = some (zi v) ∧ zB v (-3) 7) ∧ zInv g ∧ zFr [(1, some 6), (8, some 0), (8, some 1), (8, some 2), (8, some 3), (8, some 4), (8, some 5), (8, some 6), (8, some 7), (9, none), (10, none)] f g ∧ (∀ v : Int32, r = some (zi v) → (¬ (1 ≤ a1.toInt ∧ a1.toInt ≤ 63 ∧ 0 ≤ a2.toInt ∧ a2.toInt ≤ 63 ∧ 0 ≤ a3.toInt ∧ a3.toInt ≤ 5 ∧ 0 ≤ a4.toInt ∧ a4.toInt ≤ 99) ∧ v = -1 ∧ g = f) ∨ ((1 ≤ a1.toInt ∧ a1.toInt ≤ 63 ∧ 0 ≤ a2.toInt ∧ a2.toInt ≤ 63 ∧ 0 ≤ a3.toInt ∧ a3.toInt ≤ 5 ∧ 0 ≤ a4.toInt ∧ a4.toInt ≤ 99) ∧ 8 ≤ (f 1 0 6).toInt ∧ v = -3 ∧ g = f) ∨ ((1 ≤ a1.toInt ∧ a1.toInt ≤ 63 ∧ 0 ≤ a2.toInt ∧ a2.toInt ≤ 63 ∧ 0 ≤ a3.toInt ∧ a3.toInt ≤ 5 ∧ 0 ≤ a4.toInt ∧ a4.toInt ≤ 99) ∧ (f 1 0 6).toInt < 8 ∧ v = f 1 0 6 ∧ g 1 0 6 = f 1 0 6 + 1 ∧ g 8 (f 1 0 6).toInt.toNat 0 = a1 ∧ g 8 (f 1 0 6).toInt.toNat 1 = a2 ∧ g 8 (f 1 0 6).toInt.toNat 2 = a3 ∧ g 8 (f 1 0 6).toInt.toNat 3 = a4 ∧ g 8 (f 1 0 6).toInt.toNat 4 = 0 ∧ (∀ i j, i ≠ (f 1 0 6).toInt.toNat → j < 5 → g 8 i j = f 8 i j) ∧ (∀ i j, j ≠ 6 → g 1 i j = f 1 i j) ∧ g 1 1 6 = f 1 1 6)) ∧ (∀ v : Int32, r = some (zi v) → zRl f → zRl g)) := by
  refine ZM.intro (by decide +kernel) (Nat.le_of_ble_eq_true rfl) ?_
  intro X C hr hn
  have hF : zFr [(1, some 6), (8, some 0), (8, some 1), (8, some 2), (8, some 3), (8, some 4), (8, some 5), (8, some 6), (8, some 7), (9, none), (10, none)] f f := zFr.rf _ _
  have ct1_0_6 : zB (f 1 0 6) 0 8 := hI 1 0 6
  show Z X 0 [some (zr 0 0), some (zi a1), some (zi a2), some (zi a3), some (zi a4)] [] f
  refine z_iload_n (pc := 0) C dX9_deed_0 rfl ?_
  refine z_iconst (pc := 1) (v := 1) C dX9_deed_1 (by decide) ?_
  refine z_icmp_lt (pc := 2) 36 C dX9_deed_2 (by decide) (fun h2_0 => ?_) (fun h2_0 => ?_)
  · skip
    have b2x : zB a1 (-2147483648) 0 := by have q1 := b1; have q2 := (zB.of (x := 1) 1 (by decide)); simp only [z32lt, z32le, z32eq, Int32.reduceToInt, Int32.toInt_zero] at h2_0; constructor <;> omega
    refine z_iconst (pc := 36) (v := -1) C dX9_deed_36 (by decide) ?_
    exact z_iret (pc := 37) C hr dX9_deed_37 ⟨⟨_, rfl, (zB.wk (a' := (-3)) (b' := 7) (zB.of (x := (-1)) (-1) (by decide)) (by decide) (by decide))⟩, hI, hF, (by intro v hv; cases hv; exact Or.inl ⟨by omega, rfl, rfl⟩), (by intro v hv; cases hv; exact fun h => h)⟩
  · skip
    have b3x : zB a1 1 2147483647 := by have q1 := b1; have q2 := (zB.of (x := 1) 1 (by decide)); simp only [z32lt, z32le, z32eq, Int32.reduceToInt, Int32.toInt_zero] at h2_0; constructor <;> omega
    refine z_iload_n (pc := 5) C dX9_deed_5 rfl ?_
    refine z_bipush (pc := 6) (v := 63) C dX9_deed_6 (by decide) ?_
    refine z_icmp_gt (pc := 8) 36 C dX9_deed_8 (by decide) (fun h8_3 => ?_) (fun h8_3 => ?_)
    · skip
      have b5x : zB a1 64 2147483647 := by have q1 := b3x; have q2 := (zB.of (x := 63) 63 (by decide)); simp only [z32lt, z32le, z32eq, Int32.reduceToInt, Int32.toInt_zero] at h8_3; constructor <;> omega
      refine z_iconst (pc := 36) (v := -1) C dX9_deed_36 (by decide) ?_
      exact z_iret (pc := 37) C hr dX9_deed_37 ⟨⟨_, rfl, (zB.wk (a' := (-3)) (b' := 7) (zB.of (x := (-1)) (-1) (by decide)) (by decide) (by decide))⟩, hI, hF, (by intro v hv; cases hv; exact Or.inl ⟨by omega, rfl, rfl⟩), (by intro v hv; cases hv; exact fun h => h)⟩
    · skip
      have b6x : zB a1 1 63 := by have q1 := b3x; have q2 := (zB.of (x := 63) 63 (by decide)); simp only [z32lt, z32le, z32eq, Int32.reduceToInt, Int32.toInt_zero] at h8_3; constructor <;> omega
      refine z_iload_n (pc := 11) C dX9_deed_11 rfl ?_
      refine z_if_lt (pc := 12) 36 C dX9_deed_12 (by decide) (fun h12_6 => ?_) (fun h12_6 => ?_)
      · skip
        have b8x : zB a2 (-2147483648) (-1) := by have q1 := b2; have q2 := (zB.of (x := 0) 0 (by decide)); simp only [z32lt, z32le, z32eq, Int32.reduceToInt, Int32.toInt_zero] at h12_6; constructor <;> omega
        refine z_iconst (pc := 36) (v := -1) C dX9_deed_36 (by decide) ?_
        exact z_iret (pc := 37) C hr dX9_deed_37 ⟨⟨_, rfl, (zB.wk (a' := (-3)) (b' := 7) (zB.of (x := (-1)) (-1) (by decide)) (by decide) (by decide))⟩, hI, hF, (by intro v hv; cases hv; exact Or.inl ⟨by omega, rfl, rfl⟩), (by intro v hv; cases hv; exact fun h => h)⟩
      · skip
        have b9x : zB a2 0 2147483647 := by have q1 := b2; have q2 := (zB.of (x := 0) 0 (by decide)); simp only [z32lt, z32le, z32eq, Int32.reduceToInt, Int32.toInt_zero] at h12_6; constructor <;> omega
        refine z_iload_n (pc := 15) C dX9_deed_15 rfl ?_
        refine z_bipush (pc := 16) (v := 63) C dX9_deed_16 (by decide) ?_
        refine z_icmp_gt (pc := 18) 36 C dX9_deed_18 (by decide) (fun h18_9 => ?_) (fun h18_9 => ?_)
        · skip
          have b11x : zB a2 64 2147483647 := by have q1 := b9x; have q2 := (zB.of (x := 63) 63 (by decide)); simp only [z32lt, z32le, z32eq, Int32.reduceToInt, Int32.toInt_zero] at h18_9; constructor <;> omega
          refine z_iconst (pc := 36) (v := -1) C dX9_deed_36 (by decide) ?_
          exact z_iret (pc := 37) C hr dX9_deed_37 ⟨⟨_, rfl, (zB.wk (a' := (-3)) (b' := 7) (zB.of (x := (-1)) (-1) (by decide)) (by decide) (by decide))⟩, hI, hF, (by intro v hv; cases hv; exact Or.inl ⟨by omega, rfl, rfl⟩), (by intro v hv; cases hv; exact fun h => h)⟩
        · skip
          have b12x : zB a2 0 63 := by have q1 := b9x; have q2 := (zB.of (x := 63) 63 (by decide)); simp only [z32lt, z32le, z32eq, Int32.reduceToInt, Int32.toInt_zero] at h18_9; constructor <;> omega
          refine z_iload_n (pc := 21) C dX9_deed_21 rfl ?_
          refine z_callSb (pc := 22) C zk_X9_46 (m_X9_isLand _ _ _) rfl rfl (Nat.le_of_ble_eq_true rfl) dX9_deed_22 (fun h22_12 => ?_) (fun h22_12 => ?_)
          · skip
            have b14x : zB a3 0 5 := h22_12
            refine z_if_eq (pc := 25) 36 C dX9_deed_25 (by decide) (fun h => absurd h (by decide)) (fun _ => ?_)
            refine z_iload (pc := 28) C dX9_deed_28 rfl ?_
            refine z_callSb (pc := 30) C zk_X9_68 (m_X9_isYear _ _ _) rfl rfl (Nat.le_of_ble_eq_true rfl) dX9_deed_30 (fun h30_14 => ?_) (fun h30_14 => ?_)
            · skip
              have b16x : zB a4 0 99 := h30_14
              refine z_if_ne (pc := 33) 38 C dX9_deed_33 (by decide) (fun _ => ?_) (fun h => absurd h (by decide))
              refine z_aload_n (pc := 38) C dX9_deed_38 rfl ?_
              refine z_getR (pc := 39) C zf_X9_10 rfl rfl (by decide) dX9_deed_39 ?_
              refine z_getI (pc := 42) C zf_X9_71 rfl rfl (by decide) dX9_deed_42 ?_
              refine w_gp (fun v => v = f 1 0 6) rfl (fun v17 q17 => ?_)
              have e17 : v17.toInt = (f 1 0 6).toInt := by rw [q17]
              have b17x : zB v17 0 8 := by first | exact zB.eqv e17 ct1_0_6 | (have q9 := ct1_0_6; constructor <;> omega)
              refine z_bipush (pc := 45) (v := 8) C dX9_deed_45 (by decide) ?_
              refine z_icmp_lt (pc := 47) 53 C dX9_deed_47 (by decide) (fun h47_17 => ?_) (fun h47_17 => ?_)
              · skip
                have b19x : zB v17 0 7 := by have q1 := b17x; have q2 := (zB.of (x := 8) 8 (by decide)); simp only [z32lt, z32le, z32eq, Int32.reduceToInt, Int32.toInt_zero] at h47_17; constructor <;> omega
                have c20x : zB (f 1 0 6) 0 7 := by first | assumption | (constructor <;> omega)
                refine z_aload_n (pc := 53) C dX9_deed_53 rfl ?_
                refine z_getR (pc := 54) C zf_X9_10 rfl rfl (by decide) dX9_deed_54 ?_
                refine z_getR (pc := 57) C zf_X9_74 rfl rfl (by decide) dX9_deed_57 ?_
                refine z_aload_n (pc := 60) C dX9_deed_60 rfl ?_
                refine z_getR (pc := 61) C zf_X9_10 rfl rfl (by decide) dX9_deed_61 ?_
                refine z_getI (pc := 64) C zf_X9_71 rfl rfl (by decide) dX9_deed_64 ?_
                refine w_gp (fun v => v = f 1 0 6) rfl (fun v21 q21 => ?_)
                have e21 : v21.toInt = (f 1 0 6).toInt := by rw [q21]
                have b21x : zB v21 0 7 := by first | exact zB.eqv e21 c20x | (have q9 := c20x; constructor <;> omega)
                refine z_aald (pc := 67) C rfl ⟨rfl, by decide⟩ (by decide) (zIx b21x (by decide) (by decide)) dX9_deed_67 ?_
                refine w_grx (by have hq := zN b21x (by decide); show 8 * 0 + v21.toNatClampNeg < 16; omega) (fun m22 q22r h22x => ?_)
                have q22r : m22 = 8 * 0 + v21.toNatClampNeg := q22r
                have k22r : v21.toNatClampNeg = v21.toInt.toNat := rfl
                refine z_iload_n (pc := 68) C dX9_deed_68 rfl ?_
                refine z_iload_n (pc := 69) C dX9_deed_69 rfl ?_
                refine z_iload_n (pc := 70) C dX9_deed_70 rfl ?_
                refine z_iload (pc := 71) C dX9_deed_71 rfl ?_
                refine z_callV (pc := 73) C zk_X9_78 (x_X1_tell _ _ m22 h22x a1 (zB.wk (a' := 0) (b' := 63) b6x (by decide) (by decide)) a2 b12x a3 b14x a4 b16x hI) rfl rfl h22x rfl rfl (Nat.le_of_ble_eq_true rfl) dX9_deed_73 (fun r23 g23 q23 => ?_)
                obtain ⟨rfl, hI23, hF23q, hp23_0⟩ := q23
                have hF23 := zFr.tr hF hF23q (by decide)
                simp only [Option.toList, List.cons_append, List.nil_append]
                have ek23_1_0_6 : (g23 1 0 6).toInt = (f 1 0 6).toInt := by rw [hF23q 1 0 6 rfl]
                have c23_1_0_6x : zB (g23 1 0 6) 0 7 := by first | exact zB.eqv ek23_1_0_6 c20x | (have q9 := c20x; constructor <;> omega)
                refine z_aload_n (pc := 76) C dX9_deed_76 rfl ?_
                refine z_getR (pc := 77) C zf_X9_10 rfl rfl (by decide) dX9_deed_77 ?_
                refine z_callV (pc := 80) C zk_X9_83 (x_X8_takeDeed _ _ c23_1_0_6x hI23) rfl rfl (by decide) rfl rfl (Nat.le_of_ble_eq_true rfl) dX9_deed_80 (fun r24 g24 q24 => ?_)
                obtain ⟨⟨v24, rfl, b24x⟩, hI24, hF24q, hp24_0, hp24_1, hp24_2, hp24_3, hp24_4⟩ := q24
                have hp24_0 := hp24_0 _ rfl
                have hp24_1 := hp24_1 _ rfl
                have hp24_2 := hp24_2 _ rfl
                have hp24_3 := hp24_3 _ rfl
                have hp24_4 := hp24_4 _ rfl
                have hF24 := zFr.tr hF23 hF24q (by decide)
                simp only [Option.toList, List.cons_append, List.nil_append]
                have cr24_1_0_6 : zB (g24 1 0 6) 0 8 := hI24 1 0 6
                exact z_iret (pc := 83) C hr dX9_deed_83 ⟨⟨_, rfl, (zB.wk (a' := (-3)) (b' := 7) b24x (by decide) (by decide))⟩, hI24, hF24, (by
                                                                                          intro v hv; cases hv
                                                                                          have hg1 := hp23_0
                                                                                          have hv := hp24_0
                                                                                          have hm := hp24_1
                                                                                          have hm2 := hp24_2
                                                                                          have hF := hF24q
                                                                                          have hn : m22 = (f 1 0 6).toInt.toNat := by omega
                                                                                          rw [hn] at hg1
                                                                                          rw [hg1] at hF hm hv hm2
                                                                                          have e0 : ∀ i j, j < 5 → g24 8 i j = _ := fun i j hj => hF 8 i j (by rcases (show j = 0 ∨ j = 1 ∨ j = 2 ∨ j = 3 ∨ j = 4 by omega) with rfl | rfl | rfl | rfl | rfl <;> rfl)
                                                                                          refine Or.inr (Or.inr ⟨by omega, by omega, ?_, ?_, ?_, ?_, ?_, ?_, ?_, ?_, ?_, ?_⟩)
                                                                                          · rw [hv]; rfl
                                                                                          · rw [hm]; rfl
                                                                                          · rw [e0 _ _ (by decide)]; simp [zup]
                                                                                          · rw [e0 _ _ (by decide)]; simp [zup]
                                                                                          · rw [e0 _ _ (by decide)]; simp [zup]
                                                                                          · rw [e0 _ _ (by decide)]; simp [zup]
                                                                                          · rw [e0 _ _ (by decide)]; simp [zup]
                                                                                          · intro i j hi hj
                                                                                            rw [e0 i j hj, zup_ne _ _ (by omega), zup_ne _ _ (by omega), zup_ne _ _ (by omega), zup_ne _ _ (by omega), zup_ne _ _ (by omega)]
                                                                                          · intro i j hj
                                                                                            rw [hF 1 i j (by simp [zS]; omega)]; simp [zup]
                                                                                          · rw [hm2]; simp [zup]), (by
                                                                                          intro v hv; cases hv
                                                                                          intro hL i hi
                                                                                          have hg1 := hp23_0
                                                                                          have hn : m22 = (f 1 0 6).toInt.toNat := by omega
                                                                                          rw [hn] at hg1
                                                                                          have n6 : g23 1 0 6 = f 1 0 6 := hF23q 1 0 6 rfl
                                                                                          have n5 : g23 1 0 5 = f 1 0 5 := hF23q 1 0 5 rfl
                                                                                          have m5 : g24 1 0 5 = f 1 0 5 := (hF24q 1 0 5 rfl).trans n5
                                                                                          have m7 : ∀ k j, g24 7 k j = f 7 k j := fun k j => (hF24q 7 k j rfl).trans (hF23q 7 k j rfl)
                                                                                          have h3 := hp24_3
                                                                                          have h4 := hp24_4
                                                                                          have hm := hp24_1
                                                                                          rw [n6] at h3 h4 hm
                                                                                          rw [n5] at h3
                                                                                          have es : (f 1 0 6 + 1 : Int32).toInt = (f 1 0 6).toInt + 1 := zadd_eb (x := f 1 0 6) (zB.wk (a' := 0) (b' := 8) (hI 1 0 6) (by decide) (by decide)) (zB.of (x := 1) 1 (by decide)) (by decide) (by decide)
                                                                                          rw [hm, es] at hi
                                                                                          rw [m5]
                                                                                          by_cases q : i = (f 1 0 6).toInt.toNat
                                                                                          · rw [q]
                                                                                            exact zLk_c h3 (fun k j _ _ => ((hF23q 7 k j rfl).trans (m7 k j).symm))
                                                                                          · obtain ⟨e8, e9, e10⟩ := h4 i q
                                                                                            have t8 : ∀ j, g23 8 i j = f 8 i j := fun j => by rw [hg1, zup_ne _ _ (by omega), zup_ne _ _ (by omega), zup_ne _ _ (by omega), zup_ne _ _ (by omega), zup_ne _ _ (by omega)]
                                                                                            exact zLk_c (zLk_k (hL i (by omega)) (fun j _ => (e8 j).trans (t8 j)) (fun l _ => (e9 l).trans (hF23q 9 i l rfl)) (fun l _ => (e10 l).trans (hF23q 10 i l rfl))) (fun k j _ _ => (m7 k j).symm))⟩
              · skip
                have b25x : zB v17 8 8 := by have q1 := b17x; have q2 := (zB.of (x := 8) 8 (by decide)); simp only [z32lt, z32le, z32eq, Int32.reduceToInt, Int32.toInt_zero] at h47_17; constructor <;> omega
                have c26x : zB (f 1 0 6) 8 8 := by first | assumption | (constructor <;> omega)
                refine z_bipush (pc := 50) (v := -3) C dX9_deed_50 (by decide) ?_
                exact z_iret (pc := 52) C hr dX9_deed_52 ⟨⟨_, rfl, (zB.wk (a' := (-3)) (b' := 7) (zB.of (x := (-3)) (-3) (by decide)) (by decide) (by decide))⟩, hI, hF, (by intro v hv; cases hv; exact Or.inr (Or.inl ⟨by omega, by omega, rfl, rfl⟩)), (by intro v hv; cases hv; exact fun h => h)⟩
            · skip
              refine z_if_ne (pc := 33) 38 C dX9_deed_33 (by decide) (fun h => absurd (by decide) h) (fun _ => ?_)
              refine z_iconst (pc := 36) (v := -1) C dX9_deed_36 (by decide) ?_
              exact z_iret (pc := 37) C hr dX9_deed_37 ⟨⟨_, rfl, (zB.wk (a' := (-3)) (b' := 7) (zB.of (x := (-1)) (-1) (by decide)) (by decide) (by decide))⟩, hI, hF, (by intro v hv; cases hv; exact Or.inl ⟨by omega, rfl, rfl⟩), (by intro v hv; cases hv; exact fun h => h)⟩
          · skip
            refine z_if_eq (pc := 25) 36 C dX9_deed_25 (by decide) (fun _ => ?_) (fun h => absurd (by decide) h)
            refine z_iconst (pc := 36) (v := -1) C dX9_deed_36 (by decide) ?_
            exact z_iret (pc := 37) C hr dX9_deed_37 ⟨⟨_, rfl, (zB.wk (a' := (-3)) (b' := 7) (zB.of (x := (-1)) (-1) (by decide)) (by decide) (by decide))⟩, hI, hF, (by intro v hv; cases hv; exact Or.inl ⟨by omega, rfl, rfl⟩), (by intro v hv; cases hv; exact fun h => h)⟩

set_option maxRecDepth 100000 in
set_option maxHeartbeats 4000000 in
theorem x_X10_deed (d : Nat) (f : zM) (a1 : Int32) (b1 : zB a1 (-2147483648) 2147483647) (a2 : Int32) (b2 : zB a2 (-2147483648) 2147483647) (a3 : Int32) (b3 : zB a3 (-2147483648) 2147483647) (a4 : Int32) (b4 : zB a4 (-2147483648) 2147483647) (hI : zInv f) : ZM (d + 2) yX10_deed cX10_deed 5 (some .int) [zr 25 0, zi a1, zi a2, zi a3, zi a4] f (fun r g => (∃ v, r = some (zi v) ∧ zB v (-3) 7) ∧ zInv g ∧ zFr [(25, some 2), (27, none)] f g ∧ (∀ v : Int32, r = some (zi v) → (¬ (1 ≤ a1.toInt ∧ a1.toInt ≤ 63 ∧ 0 ≤ a2.toInt ∧ a2.toInt ≤ 63 ∧ 0 ≤ a3.toInt ∧ a3.toInt ≤ 5 ∧ 0 ≤ a4.toInt ∧ a4.toInt ≤ 99) ∧ v = -1 ∧ g = f) ∨ ((1 ≤ a1.toInt ∧ a1.toInt ≤ 63 ∧ 0 ≤ a2.toInt ∧ a2.toInt ≤ 63 ∧ 0 ≤ a3.toInt ∧ a3.toInt ≤ 5 ∧ 0 ≤ a4.toInt ∧ a4.toInt ≤ 99) ∧ 8 ≤ (f 25 0 2).toInt ∧ v = -3 ∧ g = f) ∨ ((1 ≤ a1.toInt ∧ a1.toInt ≤ 63 ∧ 0 ≤ a2.toInt ∧ a2.toInt ≤ 63 ∧ 0 ≤ a3.toInt ∧ a3.toInt ≤ 5 ∧ 0 ≤ a4.toInt ∧ a4.toInt ≤ 99) ∧ (f 25 0 2).toInt < 8 ∧ v = f 25 0 2 ∧ g 25 0 2 = f 25 0 2 + 1 ∧ g 27 0 (5 * (f 25 0 2).toInt.toNat) = a1 ∧ g 27 0 (5 * (f 25 0 2).toInt.toNat + 1) = a2 ∧ g 27 0 (5 * (f 25 0 2).toInt.toNat + 2) = a3 ∧ g 27 0 (5 * (f 25 0 2).toInt.toNat + 3) = a4 ∧ g 27 0 (5 * (f 25 0 2).toInt.toNat + 4) = 0 ∧ (∀ q, (q < 5 * (f 25 0 2).toInt.toNat ∨ 5 * (f 25 0 2).toInt.toNat + 5 ≤ q) → g 27 0 q = f 27 0 q)))) := by
  refine ZM.intro (by decide +kernel) (Nat.le_of_ble_eq_true rfl) ?_
  intro X C hr hn
  have hF : zFr [(25, some 2), (27, none)] f f := zFr.rf _ _
  have ct25_0_2 : zB (f 25 0 2) 0 8 := hI 25 0 2
  show Z X 0 [some (zr 25 0), some (zi a1), some (zi a2), some (zi a3), some (zi a4)] [] f
  refine z_iload_n (pc := 0) C dX10_deed_0 rfl ?_
  refine z_i2l (pc := 1) C dX10_deed_1 ?_
  refine z_lconst (pc := 2) (v := 1) C dX10_deed_2 (by decide) ?_
  refine z_ldc2 (pc := 3) C zw_1127 dX10_deed_3 ?_
  refine z_callSb (pc := 6) C zk_X10_69 (m_X10_in _ _ _ _ _) rfl rfl (Nat.le_of_ble_eq_true rfl) dX10_deed_6 (fun h6_0 => ?_) (fun h6_0 => ?_)
  · skip
    have hc6_1 : (1 ≤ a1.toInt ∧ a1.toInt ≤ 63) := by have q9 := h6_0; simp only [z64] at q9; exact q9
    have b2x : zB a1 1 63 := zin64 h6_0 rfl rfl
    refine z_if_eq (pc := 9) 44 C dX10_deed_9 (by decide) (fun h => absurd h (by decide)) (fun _ => ?_)
    refine z_iload_n (pc := 12) C dX10_deed_12 rfl ?_
    refine z_i2l (pc := 13) C dX10_deed_13 ?_
    refine z_lconst (pc := 14) (v := 0) C dX10_deed_14 (by decide) ?_
    refine z_ldc2 (pc := 15) C zw_1127 dX10_deed_15 ?_
    refine z_callSb (pc := 18) C zk_X10_69 (m_X10_in _ _ _ _ _) rfl rfl (Nat.le_of_ble_eq_true rfl) dX10_deed_18 (fun h18_2 => ?_) (fun h18_2 => ?_)
    · skip
      have hc18_1 : (0 ≤ a2.toInt ∧ a2.toInt ≤ 63) := by have q9 := h18_2; simp only [z64] at q9; exact q9
      have b4x : zB a2 0 63 := zin64 h18_2 rfl rfl
      refine z_if_eq (pc := 21) 44 C dX10_deed_21 (by decide) (fun h => absurd h (by decide)) (fun _ => ?_)
      refine z_iload_n (pc := 24) C dX10_deed_24 rfl ?_
      refine z_callSb (pc := 25) C zk_X10_83 (m_X10_isLand _ _ _) rfl rfl (Nat.le_of_ble_eq_true rfl) dX10_deed_25 (fun h25_4 => ?_) (fun h25_4 => ?_)
      · skip
        have b6x : zB a3 0 5 := h25_4
        refine z_if_eq (pc := 28) 44 C dX10_deed_28 (by decide) (fun h => absurd h (by decide)) (fun _ => ?_)
        refine z_iload (pc := 31) C dX10_deed_31 rfl ?_
        refine z_i2l (pc := 33) C dX10_deed_33 ?_
        refine z_lconst (pc := 34) (v := 0) C dX10_deed_34 (by decide) ?_
        refine z_ldc2 (pc := 35) C zw_1137 dX10_deed_35 ?_
        refine z_callSb (pc := 38) C zk_X10_69 (m_X10_in _ _ _ _ _) rfl rfl (Nat.le_of_ble_eq_true rfl) dX10_deed_38 (fun h38_6 => ?_) (fun h38_6 => ?_)
        · skip
          have hc38_1 : (0 ≤ a4.toInt ∧ a4.toInt ≤ 99) := by have q9 := h38_6; simp only [z64] at q9; exact q9
          have b8x : zB a4 0 99 := zin64 h38_6 rfl rfl
          refine z_if_ne (pc := 41) 46 C dX10_deed_41 (by decide) (fun _ => ?_) (fun h => absurd h (by decide))
          refine z_aload_n (pc := 46) C dX10_deed_46 rfl ?_
          refine z_getI (pc := 47) C zf_X10_73 rfl rfl (by decide) dX10_deed_47 ?_
          refine w_gp (fun v => v = f 25 0 2) rfl (fun v9 q9 => ?_)
          have e9 : v9.toInt = (f 25 0 2).toInt := by rw [q9]
          have b9x : zB v9 0 8 := by first | exact zB.eqv e9 ct25_0_2 | (have q9 := ct25_0_2; constructor <;> omega)
          refine z_bipush (pc := 50) (v := 8) C dX10_deed_50 (by decide) ?_
          refine z_icmp_ne (pc := 52) 58 C dX10_deed_52 (by decide) (fun h52_9 => ?_) (fun h52_9 => ?_)
          · skip
            have b11x : zB v9 0 7 := by have q1 := b9x; have q2 := (zB.of (x := 8) 8 (by decide)); simp only [z32lt, z32le, z32eq, Int32.reduceToInt, Int32.toInt_zero] at h52_9; constructor <;> omega
            have c12x : zB (f 25 0 2) 0 7 := by first | assumption | (constructor <;> omega)
            refine z_aload_n (pc := 58) C dX10_deed_58 rfl ?_
            refine z_getR (pc := 59) C zf_X10_13 rfl rfl (by decide) dX10_deed_59 ?_
            refine z_iconst (pc := 62) (v := 5) C dX10_deed_62 (by decide) ?_
            refine z_aload_n (pc := 63) C dX10_deed_63 rfl ?_
            refine z_getI (pc := 64) C zf_X10_73 rfl rfl (by decide) dX10_deed_64 ?_
            refine w_gp (fun v => v = f 25 0 2) rfl (fun v13 q13 => ?_)
            have e13 : v13.toInt = (f 25 0 2).toInt := by rw [q13]
            have b13x : zB v13 0 7 := by first | exact zB.eqv e13 c12x | (have q9 := c12x; constructor <;> omega)
            refine z_imul (pc := 67) C dX10_deed_67 ?_
            refine w_gp (fun v => v = (5 : Int32) * v13) rfl (fun v14 q14 => ?_)
            have e14 : v14.toInt = 5 * v13.toInt := by rw [q14]; exact (zmul_kb 5 (by decide) (by decide) b13x (by decide) (by decide))
            have b14x : zB v14 0 35 := zmul_bb e14 (by decide) b13x
            refine z_iload_n (pc := 68) C dX10_deed_68 rfl ?_
            have kw69_14 : v14.toNatClampNeg = v14.toInt.toNat := rfl
            refine z_iast (pc := 69) C rfl (by decide) (zIx b14x (by decide) (by decide)) dX10_deed_69 ?_
            refine w_memx hI hF (by rw [zrg27 (r := 0) (by have hq : v14.toNatClampNeg = v14.toInt.toNat := rfl; have hq2 := b14x; omega)]; exact (zB.wk (a' := 0) (b' := 63) b2x (by decide) (by decide))) rfl (fun g15 qm15 hI15 hF15 hq15 hx15 => ?_)
            have ek15_25_0_2 : (g15 25 0 2).toInt = (f 25 0 2).toInt := by rw [hq15 25 0 2 (by omega)]
            have c15_25_0_2x : zB (g15 25 0 2) 0 7 := by first | exact zB.eqv ek15_25_0_2 c12x | (have q9 := c12x; constructor <;> omega)
            refine z_aload_n (pc := 70) C dX10_deed_70 rfl ?_
            refine z_getR (pc := 71) C zf_X10_13 rfl rfl (by decide) dX10_deed_71 ?_
            refine z_iconst (pc := 74) (v := 5) C dX10_deed_74 (by decide) ?_
            refine z_aload_n (pc := 75) C dX10_deed_75 rfl ?_
            refine z_getI (pc := 76) C zf_X10_73 rfl rfl (by decide) dX10_deed_76 ?_
            refine w_gp (fun v => v = g15 25 0 2) rfl (fun v16 q16 => ?_)
            have e16 : v16.toInt = (g15 25 0 2).toInt := by rw [q16]
            have b16x : zB v16 0 7 := by first | exact zB.eqv e16 c15_25_0_2x | (have q9 := c15_25_0_2x; constructor <;> omega)
            refine z_imul (pc := 79) C dX10_deed_79 ?_
            refine w_gp (fun v => v = (5 : Int32) * v16) rfl (fun v17 q17 => ?_)
            have e17 : v17.toInt = 5 * v16.toInt := by rw [q17]; exact (zmul_kb 5 (by decide) (by decide) b16x (by decide) (by decide))
            have b17x : zB v17 0 35 := zmul_bb e17 (by decide) b16x
            refine z_iconst (pc := 80) (v := 1) C dX10_deed_80 (by decide) ?_
            refine z_iadd (pc := 81) C dX10_deed_81 ?_
            refine w_gp (fun v => v = v17 + (1 : Int32)) rfl (fun v18 q18 => ?_)
            have e18 : v18.toInt = v17.toInt + 1 := by rw [q18]; exact (zadd_eb b17x (zB.of (x := 1) 1 (by decide)) (by decide) (by decide))
            have b18x : zB v18 1 36 := by have q1 := b17x; have q2 := (zB.of (x := 1) 1 (by decide)); constructor <;> omega
            refine z_iload_n (pc := 82) C dX10_deed_82 rfl ?_
            have kw83_18 : v18.toNatClampNeg = v18.toInt.toNat := rfl
            refine z_iast (pc := 83) C rfl (by decide) (zIx b18x (by decide) (by decide)) dX10_deed_83 ?_
            refine w_memx hI15 hF15 (by rw [zrg27 (r := 1) (by have hq : v18.toNatClampNeg = v18.toInt.toNat := rfl; have hq2 := b18x; omega)]; exact b4x) rfl (fun g19 qm19 hI19 hF19 hq19 hx19 => ?_)
            have ek19_25_0_2 : (g19 25 0 2).toInt = (g15 25 0 2).toInt := by rw [hq19 25 0 2 (by omega)]
            have c19_25_0_2x : zB (g19 25 0 2) 0 7 := by first | exact zB.eqv ek19_25_0_2 c15_25_0_2x | (have q9 := c15_25_0_2x; constructor <;> omega)
            refine z_aload_n (pc := 84) C dX10_deed_84 rfl ?_
            refine z_getR (pc := 85) C zf_X10_13 rfl rfl (by decide) dX10_deed_85 ?_
            refine z_iconst (pc := 88) (v := 5) C dX10_deed_88 (by decide) ?_
            refine z_aload_n (pc := 89) C dX10_deed_89 rfl ?_
            refine z_getI (pc := 90) C zf_X10_73 rfl rfl (by decide) dX10_deed_90 ?_
            refine w_gp (fun v => v = g19 25 0 2) rfl (fun v20 q20 => ?_)
            have e20 : v20.toInt = (g19 25 0 2).toInt := by rw [q20]
            have b20x : zB v20 0 7 := by first | exact zB.eqv e20 c19_25_0_2x | (have q9 := c19_25_0_2x; constructor <;> omega)
            refine z_imul (pc := 93) C dX10_deed_93 ?_
            refine w_gp (fun v => v = (5 : Int32) * v20) rfl (fun v21 q21 => ?_)
            have e21 : v21.toInt = 5 * v20.toInt := by rw [q21]; exact (zmul_kb 5 (by decide) (by decide) b20x (by decide) (by decide))
            have b21x : zB v21 0 35 := zmul_bb e21 (by decide) b20x
            refine z_iconst (pc := 94) (v := 2) C dX10_deed_94 (by decide) ?_
            refine z_iadd (pc := 95) C dX10_deed_95 ?_
            refine w_gp (fun v => v = v21 + (2 : Int32)) rfl (fun v22 q22 => ?_)
            have e22 : v22.toInt = v21.toInt + 2 := by rw [q22]; exact (zadd_eb b21x (zB.of (x := 2) 2 (by decide)) (by decide) (by decide))
            have b22x : zB v22 2 37 := by have q1 := b21x; have q2 := (zB.of (x := 2) 2 (by decide)); constructor <;> omega
            refine z_iload_n (pc := 96) C dX10_deed_96 rfl ?_
            have kw97_22 : v22.toNatClampNeg = v22.toInt.toNat := rfl
            refine z_iast (pc := 97) C rfl (by decide) (zIx b22x (by decide) (by decide)) dX10_deed_97 ?_
            refine w_memx hI19 hF19 (by rw [zrg27 (r := 2) (by have hq : v22.toNatClampNeg = v22.toInt.toNat := rfl; have hq2 := b22x; omega)]; exact b6x) rfl (fun g23 qm23 hI23 hF23 hq23 hx23 => ?_)
            have ek23_25_0_2 : (g23 25 0 2).toInt = (g19 25 0 2).toInt := by rw [hq23 25 0 2 (by omega)]
            have c23_25_0_2x : zB (g23 25 0 2) 0 7 := by first | exact zB.eqv ek23_25_0_2 c19_25_0_2x | (have q9 := c19_25_0_2x; constructor <;> omega)
            refine z_aload_n (pc := 98) C dX10_deed_98 rfl ?_
            refine z_getR (pc := 99) C zf_X10_13 rfl rfl (by decide) dX10_deed_99 ?_
            refine z_iconst (pc := 102) (v := 5) C dX10_deed_102 (by decide) ?_
            refine z_aload_n (pc := 103) C dX10_deed_103 rfl ?_
            refine z_getI (pc := 104) C zf_X10_73 rfl rfl (by decide) dX10_deed_104 ?_
            refine w_gp (fun v => v = g23 25 0 2) rfl (fun v24 q24 => ?_)
            have e24 : v24.toInt = (g23 25 0 2).toInt := by rw [q24]
            have b24x : zB v24 0 7 := by first | exact zB.eqv e24 c23_25_0_2x | (have q9 := c23_25_0_2x; constructor <;> omega)
            refine z_imul (pc := 107) C dX10_deed_107 ?_
            refine w_gp (fun v => v = (5 : Int32) * v24) rfl (fun v25 q25 => ?_)
            have e25 : v25.toInt = 5 * v24.toInt := by rw [q25]; exact (zmul_kb 5 (by decide) (by decide) b24x (by decide) (by decide))
            have b25x : zB v25 0 35 := zmul_bb e25 (by decide) b24x
            refine z_iconst (pc := 108) (v := 3) C dX10_deed_108 (by decide) ?_
            refine z_iadd (pc := 109) C dX10_deed_109 ?_
            refine w_gp (fun v => v = v25 + (3 : Int32)) rfl (fun v26 q26 => ?_)
            have e26 : v26.toInt = v25.toInt + 3 := by rw [q26]; exact (zadd_eb b25x (zB.of (x := 3) 3 (by decide)) (by decide) (by decide))
            have b26x : zB v26 3 38 := by have q1 := b25x; have q2 := (zB.of (x := 3) 3 (by decide)); constructor <;> omega
            refine z_iload (pc := 110) C dX10_deed_110 rfl ?_
            have kw112_26 : v26.toNatClampNeg = v26.toInt.toNat := rfl
            refine z_iast (pc := 112) C rfl (by decide) (zIx b26x (by decide) (by decide)) dX10_deed_112 ?_
            refine w_memx hI23 hF23 (by rw [zrg27 (r := 3) (by have hq : v26.toNatClampNeg = v26.toInt.toNat := rfl; have hq2 := b26x; omega)]; exact b8x) rfl (fun g27 qm27 hI27 hF27 hq27 hx27 => ?_)
            have ek27_25_0_2 : (g27 25 0 2).toInt = (g23 25 0 2).toInt := by rw [hq27 25 0 2 (by omega)]
            have c27_25_0_2x : zB (g27 25 0 2) 0 7 := by first | exact zB.eqv ek27_25_0_2 c23_25_0_2x | (have q9 := c23_25_0_2x; constructor <;> omega)
            refine z_aload_n (pc := 113) C dX10_deed_113 rfl ?_
            refine z_getR (pc := 114) C zf_X10_13 rfl rfl (by decide) dX10_deed_114 ?_
            refine z_iconst (pc := 117) (v := 5) C dX10_deed_117 (by decide) ?_
            refine z_aload_n (pc := 118) C dX10_deed_118 rfl ?_
            refine z_getI (pc := 119) C zf_X10_73 rfl rfl (by decide) dX10_deed_119 ?_
            refine w_gp (fun v => v = g27 25 0 2) rfl (fun v28 q28 => ?_)
            have e28 : v28.toInt = (g27 25 0 2).toInt := by rw [q28]
            have b28x : zB v28 0 7 := by first | exact zB.eqv e28 c27_25_0_2x | (have q9 := c27_25_0_2x; constructor <;> omega)
            refine z_imul (pc := 122) C dX10_deed_122 ?_
            refine w_gp (fun v => v = (5 : Int32) * v28) rfl (fun v29 q29 => ?_)
            have e29 : v29.toInt = 5 * v28.toInt := by rw [q29]; exact (zmul_kb 5 (by decide) (by decide) b28x (by decide) (by decide))
            have b29x : zB v29 0 35 := zmul_bb e29 (by decide) b28x
            refine z_iconst (pc := 123) (v := 4) C dX10_deed_123 (by decide) ?_
            refine z_iadd (pc := 124) C dX10_deed_124 ?_
            refine w_gp (fun v => v = v29 + (4 : Int32)) rfl (fun v30 q30 => ?_)
            have e30 : v30.toInt = v29.toInt + 4 := by rw [q30]; exact (zadd_eb b29x (zB.of (x := 4) 4 (by decide)) (by decide) (by decide))
            have b30x : zB v30 4 39 := by have q1 := b29x; have q2 := (zB.of (x := 4) 4 (by decide)); constructor <;> omega
            refine z_iconst (pc := 125) (v := 0) C dX10_deed_125 (by decide) ?_
            have kw126_30 : v30.toNatClampNeg = v30.toInt.toNat := rfl
            refine z_iast (pc := 126) C rfl (by decide) (zIx b30x (by decide) (by decide)) dX10_deed_126 ?_
            refine w_memx hI27 hF27 (by rw [zrg27 (r := 4) (by have hq : v30.toNatClampNeg = v30.toInt.toNat := rfl; have hq2 := b30x; omega)]; exact (zB.wk (a' := 0) (b' := 1) (zB.of (x := 0) 0 (by decide)) (by decide) (by decide))) rfl (fun g31 qm31 hI31 hF31 hq31 hx31 => ?_)
            have ek31_25_0_2 : (g31 25 0 2).toInt = (g27 25 0 2).toInt := by rw [hq31 25 0 2 (by omega)]
            have c31_25_0_2x : zB (g31 25 0 2) 0 7 := by first | exact zB.eqv ek31_25_0_2 c27_25_0_2x | (have q9 := c27_25_0_2x; constructor <;> omega)
            refine z_aload_n (pc := 127) C dX10_deed_127 rfl ?_
            refine z_dupr (pc := 128) C dX10_deed_128 ?_
            refine z_getI (pc := 129) C zf_X10_73 rfl rfl (by decide) dX10_deed_129 ?_
            refine w_gp (fun v => v = g31 25 0 2) rfl (fun v32 q32 => ?_)
            have e32 : v32.toInt = (g31 25 0 2).toInt := by rw [q32]
            have b32x : zB v32 0 7 := by first | exact zB.eqv e32 c31_25_0_2x | (have q9 := c31_25_0_2x; constructor <;> omega)
            refine z_iconst (pc := 132) (v := 1) C dX10_deed_132 (by decide) ?_
            refine z_iadd (pc := 133) C dX10_deed_133 ?_
            refine w_gp (fun v => v = v32 + (1 : Int32)) rfl (fun v33 q33 => ?_)
            have e33 : v33.toInt = v32.toInt + 1 := by rw [q33]; exact (zadd_eb b32x (zB.of (x := 1) 1 (by decide)) (by decide) (by decide))
            have b33x : zB v33 1 8 := by have q1 := b32x; have q2 := (zB.of (x := 1) 1 (by decide)); constructor <;> omega
            refine z_putI (pc := 134) C zf_X10_73 zp_10_2 rfl rfl (by decide) dX10_deed_134 ?_
            refine w_memx hI31 hF31 (zB.wk (a' := 0) (b' := 8) b33x (by decide) (by decide)) rfl (fun g34 qm34 hI34 hF34 hq34 hx34 => ?_)
            have ec34 : (g34 25 0 2).toInt = v33.toInt := by rw [hx34]
            have c34x : zB (g34 25 0 2) 1 8 := by first | exact zB.eqv ec34 b33x | (have q9 := b33x; constructor <;> omega)
            refine z_aload_n (pc := 137) C dX10_deed_137 rfl ?_
            refine z_getI (pc := 138) C zf_X10_73 rfl rfl (by decide) dX10_deed_138 ?_
            refine w_gp (fun v => v = g34 25 0 2) rfl (fun v35 q35 => ?_)
            have e35 : v35.toInt = (g34 25 0 2).toInt := by rw [q35]
            have b35x : zB v35 1 8 := by first | exact zB.eqv e35 c34x | (have q9 := c34x; constructor <;> omega)
            refine z_iconst (pc := 141) (v := 1) C dX10_deed_141 (by decide) ?_
            refine z_isub (pc := 142) C dX10_deed_142 ?_
            refine w_gp (fun v => v = v35 - (1 : Int32)) rfl (fun v36 q36 => ?_)
            have e36 : v36.toInt = v35.toInt - 1 := by rw [q36]; exact (zsub_eb b35x (zB.of (x := 1) 1 (by decide)) (by decide) (by decide))
            have b36x : zB v36 0 7 := by have q1 := b35x; have q2 := (zB.of (x := 1) 1 (by decide)); constructor <;> omega
            exact z_iret (pc := 143) C hr dX10_deed_143 ⟨⟨_, rfl, (zB.wk (a' := (-3)) (b' := 7) b36x (by decide) (by decide))⟩, hI34, hF34, (by
                                                                                          intro v hv; cases hv
                                                                                          have e1 : ((f 25 0 2) + 1 : Int32).toInt = (f 25 0 2).toInt + 1 := zadd_eb (x := f 25 0 2) (hI 25 0 2) (zB.of (x := 1) 1 (by decide)) (by decide) (by decide)
                                                                                          refine Or.inr (Or.inr ⟨by omega, by omega, ?_, ?_, ?_, ?_, ?_, ?_, ?_, ?_⟩)
                                                                                          · rw [z32eq]; omega
                                                                                          · rw [z32eq]; omega
                                                                                          · subst qm34 qm31 qm27 qm23 qm19 qm15
                                                                                            rw [zup_ne _ _ (by omega), zup_ne _ _ (by omega), zup_ne _ _ (by omega), zup_ne _ _ (by omega), zup_ne _ _ (by omega), show 5 * (f 25 0 2).toInt.toNat = (v14).toNatClampNeg by omega]
                                                                                            exact zup_same _ _ _ _ _
                                                                                          · subst qm34 qm31 qm27 qm23 qm19 qm15
                                                                                            rw [zup_ne _ _ (by omega), zup_ne _ _ (by omega), zup_ne _ _ (by omega), zup_ne _ _ (by omega), show 5 * (f 25 0 2).toInt.toNat + 1 = (v18).toNatClampNeg by omega]
                                                                                            exact zup_same _ _ _ _ _
                                                                                          · subst qm34 qm31 qm27 qm23 qm19 qm15
                                                                                            rw [zup_ne _ _ (by omega), zup_ne _ _ (by omega), zup_ne _ _ (by omega), show 5 * (f 25 0 2).toInt.toNat + 2 = (v22).toNatClampNeg by omega]
                                                                                            exact zup_same _ _ _ _ _
                                                                                          · subst qm34 qm31 qm27 qm23 qm19 qm15
                                                                                            rw [zup_ne _ _ (by omega), zup_ne _ _ (by omega), show 5 * (f 25 0 2).toInt.toNat + 3 = (v26).toNatClampNeg by omega]
                                                                                            exact zup_same _ _ _ _ _
                                                                                          · subst qm34 qm31 qm27 qm23 qm19 qm15
                                                                                            rw [zup_ne _ _ (by omega), show 5 * (f 25 0 2).toInt.toNat + 4 = (v30).toNatClampNeg by omega]
                                                                                            exact zup_same _ _ _ _ _
                                                                                          · intro q hq
                                                                                            subst qm34 qm31 qm27 qm23 qm19 qm15
                                                                                            rw [zup_ne _ _ (by omega), zup_ne _ _ (by omega), zup_ne _ _ (by omega), zup_ne _ _ (by omega), zup_ne _ _ (by omega), zup_ne _ _ (by omega)])⟩
          · skip
            have b37x : zB v9 8 8 := by have q1 := b9x; have q2 := (zB.of (x := 8) 8 (by decide)); simp only [z32lt, z32le, z32eq, Int32.reduceToInt, Int32.toInt_zero] at h52_9; constructor <;> omega
            have c38x : zB (f 25 0 2) 8 8 := by first | assumption | (constructor <;> omega)
            refine z_bipush (pc := 55) (v := -3) C dX10_deed_55 (by decide) ?_
            exact z_iret (pc := 57) C hr dX10_deed_57 ⟨⟨_, rfl, (zB.wk (a' := (-3)) (b' := 7) (zB.of (x := (-3)) (-3) (by decide)) (by decide) (by decide))⟩, hI, hF, (by intro v hv; cases hv; exact Or.inr (Or.inl ⟨by omega, by omega, rfl, rfl⟩))⟩
        · skip
          have hc38_0 : ¬ (0 ≤ a4.toInt ∧ a4.toInt ≤ 99) := by have q9 := h38_6; simp only [z64] at q9; exact q9
          refine z_if_ne (pc := 41) 46 C dX10_deed_41 (by decide) (fun h => absurd (by decide) h) (fun _ => ?_)
          refine z_iconst (pc := 44) (v := -1) C dX10_deed_44 (by decide) ?_
          exact z_iret (pc := 45) C hr dX10_deed_45 ⟨⟨_, rfl, (zB.wk (a' := (-3)) (b' := 7) (zB.of (x := (-1)) (-1) (by decide)) (by decide) (by decide))⟩, hI, hF, (by intro v hv; cases hv; exact Or.inl ⟨by omega, rfl, rfl⟩)⟩
      · skip
        refine z_if_eq (pc := 28) 44 C dX10_deed_28 (by decide) (fun _ => ?_) (fun h => absurd (by decide) h)
        refine z_iconst (pc := 44) (v := -1) C dX10_deed_44 (by decide) ?_
        exact z_iret (pc := 45) C hr dX10_deed_45 ⟨⟨_, rfl, (zB.wk (a' := (-3)) (b' := 7) (zB.of (x := (-1)) (-1) (by decide)) (by decide) (by decide))⟩, hI, hF, (by intro v hv; cases hv; exact Or.inl ⟨by omega, rfl, rfl⟩)⟩
    · skip
      have hc18_0 : ¬ (0 ≤ a2.toInt ∧ a2.toInt ≤ 63) := by have q9 := h18_2; simp only [z64] at q9; exact q9
      refine z_if_eq (pc := 21) 44 C dX10_deed_21 (by decide) (fun _ => ?_) (fun h => absurd (by decide) h)
      refine z_iconst (pc := 44) (v := -1) C dX10_deed_44 (by decide) ?_
      exact z_iret (pc := 45) C hr dX10_deed_45 ⟨⟨_, rfl, (zB.wk (a' := (-3)) (b' := 7) (zB.of (x := (-1)) (-1) (by decide)) (by decide) (by decide))⟩, hI, hF, (by intro v hv; cases hv; exact Or.inl ⟨by omega, rfl, rfl⟩)⟩
  · skip
    have hc6_0 : ¬ (1 ≤ a1.toInt ∧ a1.toInt ≤ 63) := by have q9 := h6_0; simp only [z64] at q9; exact q9
    refine z_if_eq (pc := 9) 44 C dX10_deed_9 (by decide) (fun _ => ?_) (fun h => absurd (by decide) h)
    refine z_iconst (pc := 44) (v := -1) C dX10_deed_44 (by decide) ?_
    exact z_iret (pc := 45) C hr dX10_deed_45 ⟨⟨_, rfl, (zB.wk (a' := (-3)) (b' := 7) (zB.of (x := (-1)) (-1) (by decide)) (by decide) (by decide))⟩, hI, hF, (by intro v hv; cases hv; exact Or.inl ⟨by omega, rfl, rfl⟩)⟩
