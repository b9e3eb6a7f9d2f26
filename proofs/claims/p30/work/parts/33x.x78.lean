def zMn (f : zM) (w k o : Nat) : Prop := f 6 w 0 = f k 0 (o + 0) ∧ f 6 w 1 = f k 0 (o + 1) ∧ f 6 w 2 = f k 0 (o + 2) ∧ f 6 w 3 = f k 0 (o + 6) ∧ f 6 w 4 = f k 0 (o + 3) ∧ f 6 w 5 = f k 0 (o + 4) ∧ f 6 w 6 = f k 0 (o + 5) ∧ ((f 6 w 5).toInt = -4 ∨ 0 ≤ (f 6 w 5).toInt)
def zRm (f : zM) : Prop := zMn f 0 30 0 ∧ (¬ f 0 0 5 = 0 → zMn f 1 39 308)
theorem zMn_k {f g : zM} {w w' k k' o o' : Nat} (h : zMn f w k o) (a : ∀ j, j < 7 → g 6 w' j = f 6 w j) (b : ∀ j, j < 7 → g k' 0 (o' + j) = f k 0 (o + j)) : zMn g w' k' o' := by
  obtain ⟨h0, h1, h2, h3, h4, h5, h6, h7⟩ := h
  refine ⟨?_, ?_, ?_, ?_, ?_, ?_, ?_, ?_⟩
  · rw [a 0 (by decide), b 0 (by decide)]; exact h0
  · rw [a 1 (by decide), b 1 (by decide)]; exact h1
  · rw [a 2 (by decide), b 2 (by decide)]; exact h2
  · rw [a 3 (by decide), b 6 (by decide)]; exact h3
  · rw [a 4 (by decide), b 3 (by decide)]; exact h4
  · rw [a 5 (by decide), b 4 (by decide)]; exact h5
  · rw [a 6 (by decide), b 5 (by decide)]; exact h6
  · rw [a 5 (by decide)]; exact h7
theorem zRm_k {f g : zM} (h : zRm f) (a : ∀ n j, n < 2 → j < 7 → g 6 n j = f 6 n j) (b : ∀ j, g 30 0 j = f 30 0 j) (c : ∀ j, g 39 0 j = f 39 0 j) (d : g 0 0 5 = f 0 0 5) : zRm g := by
  refine ⟨zMn_k h.1 (fun j hj => a 0 j (by decide) hj) (fun j _ => b _), fun q => ?_⟩
  rw [d] at q
  exact zMn_k (h.2 q) (fun j hj => a 1 j (by decide) hj) (fun j _ => c _)
theorem zRm_0 : zRm z0 := ⟨⟨rfl, rfl, rfl, rfl, rfl, rfl, rfl, Or.inl (by decide)⟩, fun h => absurd rfl h⟩
theorem qm_image {f g : zM} (Rm : zRm f) (hF : zFr [(0, some 5), (1, some 5), (1, some 6), (1, some 7), (1, some 8), (6, some 0), (6, some 1), (6, some 2), (6, some 3), (6, some 4), (6, some 5), (6, some 6), (7, some 0), (7, some 1), (7, some 2), (7, some 3), (7, some 4), (7, some 5), (8, some 0), (8, some 1), (8, some 2), (8, some 3), (8, some 4), (8, some 5), (8, some 6), (8, some 7), (9, none), (10, none), (11, some 0), (11, some 1), (11, some 2), (11, some 3), (11, some 4), (11, some 5), (11, some 6), (11, some 7), (12, some 0), (12, some 1), (12, some 2)] f g) (h0 : g 1 1 5 = f 1 0 5) (h1 : g 1 1 6 = f 1 0 6) (h2 : g 1 1 7 = f 1 0 7) (h3 : g 1 1 8 = f 1 0 8) (h4 : g 1 0 5 = f 1 0 5) (h5 : g 1 0 6 = f 1 0 6) (h6 : g 1 0 7 = f 1 0 7) (h7 : g 1 0 8 = f 1 0 8) (h8 : zcpd f g 7 24 0 (f 1 0 5).toInt.toNat 6 24) (h9 : zcpd f g 8 8 0 (f 1 0 6).toInt.toNat 5 8) (h10 : zcpd f g 11 12 0 (f 1 0 7).toInt.toNat 8 12) (h11 : zcpd f g 12 8 0 (f 1 0 8).toInt.toNat 3 8) (h12 : ∀ j, j < 7 → g 6 1 j = f 6 0 j) (h13 : ∀ j, j < 7 → g 6 0 j = f 6 0 j) (h14 : g 0 0 5 = 1) (h15 : zRl f → zRl g) : zRm (zim g) := by
  have z6 : ∀ n j, zim g 6 n j = g 6 n j := fun n j => zim_o g (by decide) (by decide) (by omega) (by omega)
  have z30 : ∀ j, zim g 30 0 j = g 30 0 j := fun j => zim_o g (by decide) (by decide) (by omega) (by omega)
  refine ⟨zMn_k Rm.1 (fun j hj => (z6 _ _).trans (h13 j hj)) (fun j _ => (z30 _).trans (hF 30 0 _ rfl)), fun _ => ?_⟩
  refine zMn_k Rm.1 (fun j hj => (z6 _ _).trans (h12 j hj)) (fun j hj => ?_)
  rw [zim_30 g hj, hF 30 0 _ rfl, Nat.zero_add]
theorem qm_restore {f g : zM} (Rm : zRm f) (hfl : ¬ f 0 0 5 = 0) (hF : zFr [(1, some 5), (1, some 6), (1, some 7), (1, some 8), (6, some 0), (6, some 1), (6, some 2), (6, some 3), (6, some 4), (6, some 5), (6, some 6), (7, some 0), (7, some 1), (7, some 2), (7, some 3), (7, some 4), (7, some 5), (8, some 0), (8, some 1), (8, some 2), (8, some 3), (8, some 4), (8, some 5), (8, some 6), (8, some 7), (9, none), (10, none), (11, some 0), (11, some 1), (11, some 2), (11, some 3), (11, some 4), (11, some 5), (11, some 6), (11, some 7), (12, some 0), (12, some 1), (12, some 2)] f g) (h0 : g 1 0 5 = f 1 1 5) (h1 : g 1 0 6 = f 1 1 6) (h2 : g 1 0 7 = f 1 1 7) (h3 : g 1 0 8 = f 1 1 8) (h4 : g 1 1 5 = f 1 1 5) (h5 : g 1 1 6 = f 1 1 6) (h6 : g 1 1 7 = f 1 1 7) (h7 : g 1 1 8 = f 1 1 8) (h8 : zcpd f g 7 0 24 (f 1 1 5).toInt.toNat 6 24) (h9 : zcpd f g 8 0 8 (f 1 1 6).toInt.toNat 5 8) (h10 : zcpd f g 11 0 12 (f 1 1 7).toInt.toNat 8 12) (h11 : zcpd f g 12 0 8 (f 1 1 8).toInt.toNat 3 8) (h12 : ∀ j, j < 7 → g 6 0 j = f 6 1 j) (h13 : ∀ j, j < 7 → g 6 1 j = f 6 1 j) (h14 : ∀ i, i < (f 1 1 6).toInt.toNat → zLk g i (fun k j => g 7 k j) (g 1 0 5).toInt.toNat) : zRm (zre g) := by
  have z6 : ∀ n j, zre g 6 n j = g 6 n j := fun n j => zre_o g (by omega) (by decide) (by decide)
  have z39 : ∀ j, zre g 39 0 j = g 39 0 j := fun j => zre_o g (by omega) (by decide) (by decide)
  refine ⟨zMn_k (Rm.2 hfl) (fun j hj => (z6 _ _).trans (h12 j hj)) (fun j hj => ?_), fun _ => zMn_k (Rm.2 hfl) (fun j hj => (z6 _ _).trans (h13 j hj)) (fun j _ => (z39 _).trans (hF 39 0 _ rfl))⟩
  rw [Nat.zero_add, zre_30 g hj, hF 39 0 _ rfl]

set_option maxRecDepth 100000 in
set_option maxHeartbeats 4000000 in
theorem x_X3_sit (d : Nat) (f : zM) (m0 : Nat) (h0 : m0 < zcnt 6) (a1 : Int32) (b1 : zB a1 0 5) (hI : zInv f) : ZM d yX3_sit cX3_sit 2 none [zr 6 m0, zi a1] f (fun r g => r = none ∧ zInv g ∧ zFr [(6, some 1), (6, some 4), (6, some 5), (6, some 6)] f g ∧ (g = zup (zup (zup (zup f 6 m0 1 a1) 6 m0 4 0) 6 m0 5 (-4)) 6 m0 6 255)) := by
  refine ZM.intro (by decide +kernel) (Nat.le_of_ble_eq_true rfl) ?_
  intro X C hr hn
  have hF : zFr [(6, some 1), (6, some 4), (6, some 5), (6, some 6)] f f := zFr.rf _ _
  show Z X 0 [some (zr 6 m0), some (zi a1)] [] f
  refine z_aload_n (pc := 0) C dX3_sit_0 rfl ?_
  refine z_iload_n (pc := 1) C dX3_sit_1 rfl ?_
  refine z_putI (pc := 2) C zf_X3_18 zp_3_1 rfl rfl h0 dX3_sit_2 ?_
  refine w_memy hI hF b1 rfl (fun g1 qm1 hI1 hF1 => ?_)
  refine z_aload_n (pc := 5) C dX3_sit_5 rfl ?_
  refine z_iconst (pc := 6) (v := 0) C dX3_sit_6 (by decide) ?_
  refine z_putZ (pc := 7) C zf_X3_21 zp_3_4 (z01 (zB.wk (a' := 0) (b' := 1) (zB.of (x := 0) 0 (by decide)) (by decide) (by decide))) rfl rfl h0 dX3_sit_7 ?_
  refine w_memy hI1 hF1 (zB.wk (a' := 0) (b' := 1) (zB.of (x := 0) 0 (by decide)) (by decide) (by decide)) rfl (fun g2 qm2 hI2 hF2 => ?_)
  refine z_aload_n (pc := 10) C dX3_sit_10 rfl ?_
  refine z_bipush (pc := 11) (v := -4) C dX3_sit_11 (by decide) ?_
  refine z_putI (pc := 13) C zf_X3_9 zp_3_5 rfl rfl h0 dX3_sit_13 ?_
  refine w_memy hI2 hF2 (zB.wk (a' := (-4)) (b' := 5) (zB.of (x := (-4)) (-4) (by decide)) (by decide) (by decide)) rfl (fun g3 qm3 hI3 hF3 => ?_)
  refine z_aload_n (pc := 16) C dX3_sit_16 rfl ?_
  refine z_sipush (pc := 17) (v := 255) C dX3_sit_17 (by decide) ?_
  refine z_putI (pc := 20) C zf_X3_15 zp_3_6 rfl rfl h0 dX3_sit_20 ?_
  refine w_memy hI3 hF3 (zB.wk (a' := 0) (b' := 255) (zB.of (x := 255) 255 (by decide)) (by decide) (by decide)) rfl (fun g4 qm4 hI4 hF4 => ?_)
  exact z_vret (pc := 23) C hr dX3_sit_23 ⟨rfl, hI4, hF4, (by subst qm4 qm3 qm2 qm1; rfl)⟩

set_option maxRecDepth 100000 in
set_option maxHeartbeats 4000000 in
theorem x_X9_man (d : Nat) (f : zM) (a1 : Int32) (b1 : zB a1 (-2147483648) 2147483647) (a2 : Int32) (b2 : zB a2 (-2147483648) 2147483647) (hI : zInv f) : ZM (d + 1) yX9_man cX9_man 4 (some .int) [zr 0 0, zi a1, zi a2] f (fun r g => (∃ v, r = some (zi v) ∧ zB v (-1) 99) ∧ zInv g ∧ zFr [(6, some 0), (6, some 1), (6, some 2), (6, some 4), (6, some 5), (6, some 6)] f g ∧ (∀ v : Int32, r = some (zi v) → ((a1.toInt = 0 ∧ (0 ≤ a2.toInt ∧ a2.toInt ≤ 5)) ∧ v = f 6 0 0 ∧ g = zup f 6 0 0 a2) ∨ ((a1.toInt = 1 ∧ (0 ≤ a2.toInt ∧ a2.toInt ≤ 5)) ∧ v = f 6 0 1 ∧ g = zup (zup (zup (zup f 6 0 1 a2) 6 0 4 0) 6 0 5 (-4)) 6 0 6 255) ∨ ((a1.toInt = 2 ∧ (0 ≤ a2.toInt ∧ a2.toInt ≤ 99)) ∧ v = f 6 0 2 ∧ g = zup f 6 0 2 a2) ∨ (¬ ((a1.toInt = 0 ∧ (0 ≤ a2.toInt ∧ a2.toInt ≤ 5)) ∨ (a1.toInt = 1 ∧ (0 ≤ a2.toInt ∧ a2.toInt ≤ 5)) ∨ (a1.toInt = 2 ∧ (0 ≤ a2.toInt ∧ a2.toInt ≤ 99))) ∧ v = -1 ∧ g = f))) := by
  refine ZM.intro (by decide +kernel) (Nat.le_of_ble_eq_true rfl) ?_
  intro X C hr hn
  have hF : zFr [(6, some 0), (6, some 1), (6, some 2), (6, some 4), (6, some 5), (6, some 6)] f f := zFr.rf _ _
  show Z X 0 [some (zr 0 0), some (zi a1), some (zi a2), none] [] f
  refine z_iload_n (pc := 0) C dX9_man_0 rfl ?_
  refine z_if_ne (pc := 1) 36 C dX9_man_1 (by decide) (fun h1_0 => ?_) (fun h1_0 => ?_)
  · skip
    refine z_iload_n (pc := 36) C dX9_man_36 rfl ?_
    refine z_iconst (pc := 37) (v := 1) C dX9_man_37 (by decide) ?_
    refine z_icmp_ne (pc := 38) 73 C dX9_man_38 (by decide) (fun h38_1 => ?_) (fun h38_1 => ?_)
    · skip
      refine z_iload_n (pc := 73) C dX9_man_73 rfl ?_
      refine z_iconst (pc := 74) (v := 2) C dX9_man_74 (by decide) ?_
      refine z_icmp_ne (pc := 75) 110 C dX9_man_75 (by decide) (fun h75_2 => ?_) (fun h75_2 => ?_)
      · skip
        refine z_iconst (pc := 110) (v := -1) C dX9_man_110 (by decide) ?_
        refine z_istore_n (pc := 111) C dX9_man_111 (by rw [hn]; decide) rfl ?_
        refine z_iload_n (pc := 112) C dX9_man_112 rfl ?_
        exact z_iret (pc := 113) C hr dX9_man_113 ⟨⟨_, rfl, (zB.wk (a' := (-1)) (b' := 99) (zB.of (x := (-1)) (-1) (by decide)) (by decide) (by decide))⟩, hI, hF, (by intro v hv; cases hv; exact Or.inr (Or.inr (Or.inr ⟨by first | omega | (simp only [z32eq, Int32.reduceToInt, Int32.toInt_zero, Int32.toInt_one] at *; omega), rfl, rfl⟩)))⟩
      · skip
        have b4x : zB a1 2 2 := by have q1 := b1; have q2 := (zB.of (x := 2) 2 (by decide)); simp only [z32lt, z32le, z32eq, Int32.reduceToInt, Int32.toInt_zero] at h75_2; constructor <;> omega
        refine z_iload_n (pc := 78) C dX9_man_78 rfl ?_
        refine z_callSb (pc := 79) C zk_X9_68 (m_X9_isYear _ _ _) rfl rfl (Nat.le_of_ble_eq_true rfl) dX9_man_79 (fun h79_4 => ?_) (fun h79_4 => ?_)
        · skip
          have b6x : zB a2 0 99 := h79_4
          refine z_if_eq (pc := 82) 110 C dX9_man_82 (by decide) (fun h => absurd h (by decide)) (fun _ => ?_)
          refine z_aload_n (pc := 85) C dX9_man_85 rfl ?_
          refine z_getR (pc := 86) C zf_X9_10 rfl rfl (by decide) dX9_man_86 ?_
          refine z_getR (pc := 89) C zf_X9_220 rfl rfl (by decide) dX9_man_89 ?_
          refine z_getI (pc := 92) C zf_X9_238 rfl rfl (by decide) dX9_man_92 ?_
          refine w_gp (fun v => v = f 6 0 2) rfl (fun v8 q8 => ?_)
          have b8x : zB v8 0 99 := by rw [q8]; exact (hI 6 0 2)
          refine z_istore_n (pc := 95) C dX9_man_95 (by rw [hn]; decide) rfl ?_
          refine z_aload_n (pc := 96) C dX9_man_96 rfl ?_
          refine z_getR (pc := 97) C zf_X9_10 rfl rfl (by decide) dX9_man_97 ?_
          refine z_getR (pc := 100) C zf_X9_220 rfl rfl (by decide) dX9_man_100 ?_
          refine z_iload_n (pc := 103) C dX9_man_103 rfl ?_
          refine z_putI (pc := 104) C zf_X9_238 zp_3_2 rfl rfl (by decide) dX9_man_104 ?_
          refine w_memy hI hF b6x rfl (fun g9 qm9 hI9 hF9 => ?_)
          refine z_goto (pc := 107) 112 C dX9_man_107 (by decide) ?_
          refine z_iload_n (pc := 112) C dX9_man_112 rfl ?_
          exact z_iret (pc := 113) C hr dX9_man_113 ⟨⟨_, rfl, (zB.wk (a' := (-1)) (b' := 99) b8x (by decide) (by decide))⟩, hI9, hF9, (by intro v hv; cases hv; exact Or.inr (Or.inr (Or.inl ⟨⟨by first | omega | (simp only [z32eq, Int32.reduceToInt, Int32.toInt_zero, Int32.toInt_one] at *; omega), by omega⟩, q8, qm9⟩)))⟩
        · skip
          refine z_if_eq (pc := 82) 110 C dX9_man_82 (by decide) (fun _ => ?_) (fun h => absurd (by decide) h)
          refine z_iconst (pc := 110) (v := -1) C dX9_man_110 (by decide) ?_
          refine z_istore_n (pc := 111) C dX9_man_111 (by rw [hn]; decide) rfl ?_
          refine z_iload_n (pc := 112) C dX9_man_112 rfl ?_
          exact z_iret (pc := 113) C hr dX9_man_113 ⟨⟨_, rfl, (zB.wk (a' := (-1)) (b' := 99) (zB.of (x := (-1)) (-1) (by decide)) (by decide) (by decide))⟩, hI, hF, (by intro v hv; cases hv; exact Or.inr (Or.inr (Or.inr ⟨by first | omega | (simp only [z32eq, Int32.reduceToInt, Int32.toInt_zero, Int32.toInt_one] at *; omega), rfl, rfl⟩)))⟩
    · skip
      have b10x : zB a1 1 1 := by have q1 := b1; have q2 := (zB.of (x := 1) 1 (by decide)); simp only [z32lt, z32le, z32eq, Int32.reduceToInt, Int32.toInt_zero] at h38_1; constructor <;> omega
      refine z_iload_n (pc := 41) C dX9_man_41 rfl ?_
      refine z_callSb (pc := 42) C zk_X9_46 (m_X9_isLand _ _ _) rfl rfl (Nat.le_of_ble_eq_true rfl) dX9_man_42 (fun h42_10 => ?_) (fun h42_10 => ?_)
      · skip
        have b12x : zB a2 0 5 := h42_10
        refine z_if_eq (pc := 45) 73 C dX9_man_45 (by decide) (fun h => absurd h (by decide)) (fun _ => ?_)
        refine z_aload_n (pc := 48) C dX9_man_48 rfl ?_
        refine z_getR (pc := 49) C zf_X9_10 rfl rfl (by decide) dX9_man_49 ?_
        refine z_getR (pc := 52) C zf_X9_220 rfl rfl (by decide) dX9_man_52 ?_
        refine z_getI (pc := 55) C zf_X9_232 rfl rfl (by decide) dX9_man_55 ?_
        refine w_gp (fun v => v = f 6 0 1) rfl (fun v14 q14 => ?_)
        have b14x : zB v14 0 5 := by rw [q14]; exact (hI 6 0 1)
        refine z_istore_n (pc := 58) C dX9_man_58 (by rw [hn]; decide) rfl ?_
        refine z_aload_n (pc := 59) C dX9_man_59 rfl ?_
        refine z_getR (pc := 60) C zf_X9_10 rfl rfl (by decide) dX9_man_60 ?_
        refine z_getR (pc := 63) C zf_X9_220 rfl rfl (by decide) dX9_man_63 ?_
        refine z_iload_n (pc := 66) C dX9_man_66 rfl ?_
        refine z_callV (pc := 67) C zk_X9_235 (x_X3_sit _ _ 0 (by decide) a2 b12x hI) rfl rfl (by decide) rfl rfl (Nat.le_of_ble_eq_true rfl) dX9_man_67 (fun r15 g15 q15 => ?_)
        obtain ⟨rfl, hI15, hF15q, hp15_0⟩ := q15
        have hF15 := zFr.tr hF hF15q (by decide)
        simp only [Option.toList, List.cons_append, List.nil_append]
        refine z_goto (pc := 70) 112 C dX9_man_70 (by decide) ?_
        refine z_iload_n (pc := 112) C dX9_man_112 rfl ?_
        exact z_iret (pc := 113) C hr dX9_man_113 ⟨⟨_, rfl, (zB.wk (a' := (-1)) (b' := 99) b14x (by decide) (by decide))⟩, hI15, hF15, (by intro v hv; cases hv; exact Or.inr (Or.inl ⟨⟨by first | omega | (simp only [z32eq, Int32.reduceToInt, Int32.toInt_zero, Int32.toInt_one] at *; omega), by omega⟩, q14, hp15_0⟩))⟩
      · skip
        refine z_if_eq (pc := 45) 73 C dX9_man_45 (by decide) (fun _ => ?_) (fun h => absurd (by decide) h)
        refine z_iload_n (pc := 73) C dX9_man_73 rfl ?_
        refine z_iconst (pc := 74) (v := 2) C dX9_man_74 (by decide) ?_
        refine z_icmp_ne (pc := 75) 110 C dX9_man_75 (by decide) (fun h75_15 => ?_) (fun h75_15 => absurd h75_15 (by have q1 := b10x; have q2 := (zB.of (x := 2) 2 (by decide)); first | (simp only [z32lt, z32le, z32eq]; omega) | (simp only [z32lt, z32le, z32eq] at *; omega)))
        refine z_iconst (pc := 110) (v := -1) C dX9_man_110 (by decide) ?_
        refine z_istore_n (pc := 111) C dX9_man_111 (by rw [hn]; decide) rfl ?_
        refine z_iload_n (pc := 112) C dX9_man_112 rfl ?_
        exact z_iret (pc := 113) C hr dX9_man_113 ⟨⟨_, rfl, (zB.wk (a' := (-1)) (b' := 99) (zB.of (x := (-1)) (-1) (by decide)) (by decide) (by decide))⟩, hI, hF, (by intro v hv; cases hv; exact Or.inr (Or.inr (Or.inr ⟨by first | omega | (simp only [z32eq, Int32.reduceToInt, Int32.toInt_zero, Int32.toInt_one] at *; omega), rfl, rfl⟩)))⟩
  · skip
    have b17x : zB a1 0 0 := by have q1 := b1; have q2 := (zB.of (x := 0) 0 (by decide)); simp only [z32lt, z32le, z32eq, Int32.reduceToInt, Int32.toInt_zero] at h1_0; constructor <;> omega
    refine z_iload_n (pc := 4) C dX9_man_4 rfl ?_
    refine z_callSb (pc := 5) C zk_X9_46 (m_X9_isLand _ _ _) rfl rfl (Nat.le_of_ble_eq_true rfl) dX9_man_5 (fun h5_17 => ?_) (fun h5_17 => ?_)
    · skip
      have b19x : zB a2 0 5 := h5_17
      refine z_if_eq (pc := 8) 36 C dX9_man_8 (by decide) (fun h => absurd h (by decide)) (fun _ => ?_)
      refine z_aload_n (pc := 11) C dX9_man_11 rfl ?_
      refine z_getR (pc := 12) C zf_X9_10 rfl rfl (by decide) dX9_man_12 ?_
      refine z_getR (pc := 15) C zf_X9_220 rfl rfl (by decide) dX9_man_15 ?_
      refine z_getI (pc := 18) C zf_X9_229 rfl rfl (by decide) dX9_man_18 ?_
      refine w_gp (fun v => v = f 6 0 0) rfl (fun v21 q21 => ?_)
      have b21x : zB v21 0 5 := by rw [q21]; exact (hI 6 0 0)
      refine z_istore_n (pc := 21) C dX9_man_21 (by rw [hn]; decide) rfl ?_
      refine z_aload_n (pc := 22) C dX9_man_22 rfl ?_
      refine z_getR (pc := 23) C zf_X9_10 rfl rfl (by decide) dX9_man_23 ?_
      refine z_getR (pc := 26) C zf_X9_220 rfl rfl (by decide) dX9_man_26 ?_
      refine z_iload_n (pc := 29) C dX9_man_29 rfl ?_
      refine z_putI (pc := 30) C zf_X9_229 zp_3_0 rfl rfl (by decide) dX9_man_30 ?_
      refine w_memy hI hF b19x rfl (fun g22 qm22 hI22 hF22 => ?_)
      refine z_goto (pc := 33) 112 C dX9_man_33 (by decide) ?_
      refine z_iload_n (pc := 112) C dX9_man_112 rfl ?_
      exact z_iret (pc := 113) C hr dX9_man_113 ⟨⟨_, rfl, (zB.wk (a' := (-1)) (b' := 99) b21x (by decide) (by decide))⟩, hI22, hF22, (by intro v hv; cases hv; exact Or.inl ⟨⟨by first | omega | (simp only [z32eq, Int32.reduceToInt, Int32.toInt_zero, Int32.toInt_one] at *; omega), by omega⟩, q21, qm22⟩)⟩
    · skip
      refine z_if_eq (pc := 8) 36 C dX9_man_8 (by decide) (fun _ => ?_) (fun h => absurd (by decide) h)
      refine z_iload_n (pc := 36) C dX9_man_36 rfl ?_
      refine z_iconst (pc := 37) (v := 1) C dX9_man_37 (by decide) ?_
      refine z_icmp_ne (pc := 38) 73 C dX9_man_38 (by decide) (fun h38_22 => ?_) (fun h38_22 => absurd h38_22 (by have q1 := b17x; have q2 := (zB.of (x := 1) 1 (by decide)); first | (simp only [z32lt, z32le, z32eq]; omega) | (simp only [z32lt, z32le, z32eq] at *; omega)))
      refine z_iload_n (pc := 73) C dX9_man_73 rfl ?_
      refine z_iconst (pc := 74) (v := 2) C dX9_man_74 (by decide) ?_
      refine z_icmp_ne (pc := 75) 110 C dX9_man_75 (by decide) (fun h75_23 => ?_) (fun h75_23 => absurd h75_23 (by have q1 := b17x; have q2 := (zB.of (x := 2) 2 (by decide)); first | (simp only [z32lt, z32le, z32eq]; omega) | (simp only [z32lt, z32le, z32eq] at *; omega)))
      refine z_iconst (pc := 110) (v := -1) C dX9_man_110 (by decide) ?_
      refine z_istore_n (pc := 111) C dX9_man_111 (by rw [hn]; decide) rfl ?_
      refine z_iload_n (pc := 112) C dX9_man_112 rfl ?_
      exact z_iret (pc := 113) C hr dX9_man_113 ⟨⟨_, rfl, (zB.wk (a' := (-1)) (b' := 99) (zB.of (x := (-1)) (-1) (by decide)) (by decide) (by decide))⟩, hI, hF, (by intro v hv; cases hv; exact Or.inr (Or.inr (Or.inr ⟨by first | omega | (simp only [z32eq, Int32.reduceToInt, Int32.toInt_zero, Int32.toInt_one] at *; omega), rfl, rfl⟩)))⟩

set_option maxRecDepth 100000 in
set_option maxHeartbeats 4000000 in
theorem x_X10_free (d : Nat) (f : zM)  (hI : zInv f) : ZM d yX10_free cX10_free 1 none [zr 25 0] f (fun r g => r = none ∧ zInv g ∧ zFr [(30, none)] f g ∧ (g = zup (zup (zup f 30 0 3 0) 30 0 4 (-4)) 30 0 5 255)) := by
  refine ZM.intro (by decide +kernel) (Nat.le_of_ble_eq_true rfl) ?_
  intro X C hr hn
  have hF : zFr [(30, none)] f f := zFr.rf _ _
  show Z X 0 [some (zr 25 0)] [] f
  refine z_aload_n (pc := 0) C dX10_free_0 rfl ?_
  refine z_getR (pc := 1) C zf_X10_22 rfl rfl (by decide) dX10_free_1 ?_
  refine z_iconst (pc := 4) (v := 3) C dX10_free_4 (by decide) ?_
  refine z_iconst (pc := 5) (v := 0) C dX10_free_5 (by decide) ?_
  have kw6_0 : (3 : Int32).toNatClampNeg = (3 : Int32).toInt.toNat := rfl
  refine z_iast (pc := 6) C rfl (by decide) (zIx (zB.of (x := 3) 3 (by decide)) (by decide) (by decide)) dX10_free_6 ?_
  refine w_memy hI hF (zB.wk (a' := 0) (b' := 1) (zB.of (x := 0) 0 (by decide)) (by decide) (by decide)) rfl (fun g1 qm1 hI1 hF1 => ?_)
  refine z_aload_n (pc := 7) C dX10_free_7 rfl ?_
  refine z_getR (pc := 8) C zf_X10_22 rfl rfl (by decide) dX10_free_8 ?_
  refine z_iconst (pc := 11) (v := 4) C dX10_free_11 (by decide) ?_
  refine z_bipush (pc := 12) (v := -4) C dX10_free_12 (by decide) ?_
  have kw14_1 : (4 : Int32).toNatClampNeg = (4 : Int32).toInt.toNat := rfl
  refine z_iast (pc := 14) C rfl (by decide) (zIx (zB.of (x := 4) 4 (by decide)) (by decide) (by decide)) dX10_free_14 ?_
  refine w_memy hI1 hF1 (zB.wk (a' := (-4)) (b' := 5) (zB.of (x := (-4)) (-4) (by decide)) (by decide) (by decide)) rfl (fun g2 qm2 hI2 hF2 => ?_)
  refine z_aload_n (pc := 15) C dX10_free_15 rfl ?_
  refine z_getR (pc := 16) C zf_X10_22 rfl rfl (by decide) dX10_free_16 ?_
  refine z_iconst (pc := 19) (v := 5) C dX10_free_19 (by decide) ?_
  refine z_sipush (pc := 20) (v := 255) C dX10_free_20 (by decide) ?_
  have kw23_2 : (5 : Int32).toNatClampNeg = (5 : Int32).toInt.toNat := rfl
  refine z_iast (pc := 23) C rfl (by decide) (zIx (zB.of (x := 5) 5 (by decide)) (by decide) (by decide)) dX10_free_23 ?_
  refine w_memy hI2 hF2 (zB.wk (a' := 0) (b' := 255) (zB.of (x := 255) 255 (by decide)) (by decide) (by decide)) rfl (fun g3 qm3 hI3 hF3 => ?_)
  exact z_vret (pc := 24) C hr dX10_free_24 ⟨rfl, hI3, hF3, (by subst qm3 qm2 qm1; rfl)⟩

set_option maxRecDepth 100000 in
set_option maxHeartbeats 4000000 in
theorem x_X10_man (d : Nat) (f : zM) (a1 : Int32) (b1 : zB a1 (-2147483648) 2147483647) (a2 : Int32) (b2 : zB a2 (-2147483648) 2147483647) (hI : zInv f) : ZM (d + 2) yX10_man cX10_man 4 (some .int) [zr 25 0, zi a1, zi a2] f (fun r g => (∃ v, r = some (zi v) ∧ zB v (-2147483648) 2147483647) ∧ zInv g ∧ zFr [(30, none)] f g ∧ (∀ v : Int32, r = some (zi v) → ((a1.toInt = 0 ∧ (0 ≤ a2.toInt ∧ a2.toInt ≤ 5)) ∧ v = f 30 0 0 ∧ g = zup f 30 0 0 a2) ∨ ((a1.toInt = 1 ∧ (0 ≤ a2.toInt ∧ a2.toInt ≤ 5)) ∧ v = f 30 0 1 ∧ g = zup (zup (zup (zup f 30 0 1 a2) 30 0 3 0) 30 0 4 (-4)) 30 0 5 255) ∨ ((a1.toInt = 2 ∧ (0 ≤ a2.toInt ∧ a2.toInt ≤ 99)) ∧ v = f 30 0 2 ∧ g = zup f 30 0 2 a2) ∨ (¬ ((a1.toInt = 0 ∧ (0 ≤ a2.toInt ∧ a2.toInt ≤ 5)) ∨ (a1.toInt = 1 ∧ (0 ≤ a2.toInt ∧ a2.toInt ≤ 5)) ∨ (a1.toInt = 2 ∧ (0 ≤ a2.toInt ∧ a2.toInt ≤ 99))) ∧ v = -1 ∧ g = f))) := by
  refine ZM.intro (by decide +kernel) (Nat.le_of_ble_eq_true rfl) ?_
  intro X C hr hn
  have hF : zFr [(30, none)] f f := zFr.rf _ _
  show Z X 0 [some (zr 25 0), some (zi a1), some (zi a2), none] [] f
  refine z_iload_n (pc := 0) C dX10_man_0 rfl ?_
  refine z_i2l (pc := 1) C dX10_man_1 ?_
  refine z_lconst (pc := 2) (v := 0) C dX10_man_2 (by decide) ?_
  refine z_ldc2 (pc := 3) C zw_1207 dX10_man_3 ?_
  refine z_callSb (pc := 6) C zk_X10_69 (m_X10_in _ _ _ _ _) rfl rfl (Nat.le_of_ble_eq_true rfl) dX10_man_6 (fun h6_0 => ?_) (fun h6_0 => ?_)
  · skip
    have hc6_1 : (0 ≤ a1.toInt ∧ a1.toInt ≤ 2) := by have q9 := h6_0; simp only [z64] at q9; exact q9
    have b2x : zB a1 0 2 := zin64 h6_0 rfl rfl
    refine z_if_eq (pc := 9) 39 C dX10_man_9 (by decide) (fun h => absurd h (by decide)) (fun _ => ?_)
    refine z_iload_n (pc := 12) C dX10_man_12 rfl ?_
    refine z_iconst (pc := 13) (v := 2) C dX10_man_13 (by decide) ?_
    refine z_icmp_ne (pc := 14) 32 C dX10_man_14 (by decide) (fun h14_2 => ?_) (fun h14_2 => ?_)
    · skip
      have b4x : zB a1 0 1 := by have q1 := b2x; have q2 := (zB.of (x := 2) 2 (by decide)); simp only [z32lt, z32le, z32eq, Int32.reduceToInt, Int32.toInt_zero] at h14_2; constructor <;> omega
      refine z_iload_n (pc := 32) C dX10_man_32 rfl ?_
      refine z_callSb (pc := 33) C zk_X10_83 (m_X10_isLand _ _ _) rfl rfl (Nat.le_of_ble_eq_true rfl) dX10_man_33 (fun h33_4 => ?_) (fun h33_4 => ?_)
      · skip
        have b6x : zB a2 0 5 := h33_4
        refine z_if_ne (pc := 36) 41 C dX10_man_36 (by decide) (fun _ => ?_) (fun h => absurd h (by decide))
        refine z_aload_n (pc := 41) C dX10_man_41 rfl ?_
        refine z_getR (pc := 42) C zf_X10_22 rfl rfl (by decide) dX10_man_42 ?_
        refine z_iload_n (pc := 45) C dX10_man_45 rfl ?_
        refine z_iald (pc := 46) C rfl (by decide) (zIx b4x (by decide) (by decide)) dX10_man_46 ?_
        have kq46_6 : a1.toNatClampNeg = a1.toInt.toNat := rfl
        refine w_gp (fun v => v = f 30 0 a1.toNatClampNeg) rfl (fun v7 q7 => ?_)
        refine z_istore_n (pc := 47) C dX10_man_47 (by rw [hn]; decide) rfl ?_
        refine z_aload_n (pc := 48) C dX10_man_48 rfl ?_
        refine z_getR (pc := 49) C zf_X10_22 rfl rfl (by decide) dX10_man_49 ?_
        refine z_iload_n (pc := 52) C dX10_man_52 rfl ?_
        refine z_iload_n (pc := 53) C dX10_man_53 rfl ?_
        refine z_iast (pc := 54) C rfl (by decide) (zIx b4x (by decide) (by decide)) dX10_man_54 ?_
        refine w_memy hI hF (zM30 (i := a1) (v := a2) (zB.wk (a' := 0) (b' := 2) b4x (by decide) (by decide)) (zB.wk (a' := 0) (b' := 99) b6x (by decide) (by decide)) (by first | omega | (simp only [z32eq, Int32.reduceToInt, Int32.toInt_zero, Int32.toInt_one] at *; omega))) rfl (fun g8 qm8 hI8 hF8 => ?_)
        refine z_iload_n (pc := 55) C dX10_man_55 rfl ?_
        refine z_iconst (pc := 56) (v := 1) C dX10_man_56 (by decide) ?_
        refine z_icmp_ne (pc := 57) 64 C dX10_man_57 (by decide) (fun h57_8 => ?_) (fun h57_8 => ?_)
        · skip
          have b10x : zB a1 0 0 := by have q1 := b4x; have q2 := (zB.of (x := 1) 1 (by decide)); simp only [z32lt, z32le, z32eq, Int32.reduceToInt, Int32.toInt_zero] at h57_8; constructor <;> omega
          refine z_iload_n (pc := 64) C dX10_man_64 rfl ?_
          exact z_iret (pc := 65) C hr dX10_man_65 ⟨⟨_, rfl, (zB_any v7)⟩, hI8, hF8, (by
                                                                                          intro v hv; cases hv
                                                                                          by_cases h2 : a1.toInt = 2
                                                                                          · have hx : a1.toNatClampNeg = 2 := by
                                                                                              have hq : a1.toNatClampNeg = a1.toInt.toNat := rfl
                                                                                              omega
                                                                                            have hv := q7
                                                                                            have hm1 := qm8
                                                                                            rw [hx] at hv hm1
                                                                                            exact Or.inr (Or.inr (Or.inl ⟨⟨h2, by omega⟩, hv, hm1⟩))
                                                                                          · have h0 : a1.toInt = 0 := by
                                                                                              first | omega | (simp only [z32eq, Int32.reduceToInt, Int32.toInt_zero, Int32.toInt_one] at *; omega)
                                                                                            have hx : a1.toNatClampNeg = 0 := by
                                                                                              have hq : a1.toNatClampNeg = a1.toInt.toNat := rfl
                                                                                              omega
                                                                                            have hv := q7
                                                                                            have hm1 := qm8
                                                                                            rw [hx] at hv hm1
                                                                                            exact Or.inl ⟨⟨h0, by first | omega | (simp only [z32eq, Int32.reduceToInt, Int32.toInt_zero, Int32.toInt_one] at *; omega)⟩, hv, hm1⟩)⟩
        · skip
          have b11x : zB a1 1 1 := by have q1 := b4x; have q2 := (zB.of (x := 1) 1 (by decide)); simp only [z32lt, z32le, z32eq, Int32.reduceToInt, Int32.toInt_zero] at h57_8; constructor <;> omega
          refine z_aload_n (pc := 60) C dX10_man_60 rfl ?_
          refine z_callV (pc := 61) C zk_X10_64 (x_X10_free _ _  hI8) rfl rfl (by decide) rfl rfl (Nat.le_of_ble_eq_true rfl) dX10_man_61 (fun r12 g12 q12 => ?_)
          obtain ⟨rfl, hI12, hF12q, hp12_0⟩ := q12
          have hF12 := zFr.tr hF8 hF12q (by decide)
          simp only [Option.toList, List.cons_append, List.nil_append]
          refine z_iload_n (pc := 64) C dX10_man_64 rfl ?_
          exact z_iret (pc := 65) C hr dX10_man_65 ⟨⟨_, rfl, (zB_any v7)⟩, hI12, hF12, (by
                                                                                          intro v hv; cases hv
                                                                                          have hi : a1.toInt = 1 := by first | omega | (simp only [z32eq, Int32.reduceToInt, Int32.toInt_zero, Int32.toInt_one] at *; omega)
                                                                                          have hx : a1.toNatClampNeg = 1 := by
                                                                                            have hq : a1.toNatClampNeg = a1.toInt.toNat := rfl
                                                                                            omega
                                                                                          have hv := q7
                                                                                          rw [hx] at hv
                                                                                          have hm := hp12_0
                                                                                          have hm1 := qm8
                                                                                          rw [hx] at hm1
                                                                                          rw [hm1] at hm
                                                                                          exact Or.inr (Or.inl ⟨⟨hi, by omega⟩, hv, hm⟩))⟩
      · skip
        refine z_if_ne (pc := 36) 41 C dX10_man_36 (by decide) (fun h => absurd (by decide) h) (fun _ => ?_)
        refine z_iconst (pc := 39) (v := -1) C dX10_man_39 (by decide) ?_
        exact z_iret (pc := 40) C hr dX10_man_40 ⟨⟨_, rfl, (zB.wk (a' := (-2147483648)) (b' := 2147483647) (zB.of (x := (-1)) (-1) (by decide)) (by decide) (by decide))⟩, hI, hF, (by intro v hv; cases hv; exact Or.inr (Or.inr (Or.inr ⟨by first | omega | (simp only [z32eq, Int32.reduceToInt, Int32.toInt_zero, Int32.toInt_one] at *; omega), rfl, rfl⟩)))⟩
    · skip
      have b13x : zB a1 2 2 := by have q1 := b2x; have q2 := (zB.of (x := 2) 2 (by decide)); simp only [z32lt, z32le, z32eq, Int32.reduceToInt, Int32.toInt_zero] at h14_2; constructor <;> omega
      refine z_iload_n (pc := 17) C dX10_man_17 rfl ?_
      refine z_i2l (pc := 18) C dX10_man_18 ?_
      refine z_lconst (pc := 19) (v := 0) C dX10_man_19 (by decide) ?_
      refine z_ldc2 (pc := 20) C zw_1137 dX10_man_20 ?_
      refine z_callSb (pc := 23) C zk_X10_69 (m_X10_in _ _ _ _ _) rfl rfl (Nat.le_of_ble_eq_true rfl) dX10_man_23 (fun h23_13 => ?_) (fun h23_13 => ?_)
      · skip
        have hc23_1 : (0 ≤ a2.toInt ∧ a2.toInt ≤ 99) := by have q9 := h23_13; simp only [z64] at q9; exact q9
        have b15x : zB a2 0 99 := zin64 h23_13 rfl rfl
        refine z_if_eq (pc := 26) 39 C dX10_man_26 (by decide) (fun h => absurd h (by decide)) (fun _ => ?_)
        refine z_goto (pc := 29) 41 C dX10_man_29 (by decide) ?_
        refine z_aload_n (pc := 41) C dX10_man_41 rfl ?_
        refine z_getR (pc := 42) C zf_X10_22 rfl rfl (by decide) dX10_man_42 ?_
        refine z_iload_n (pc := 45) C dX10_man_45 rfl ?_
        refine z_iald (pc := 46) C rfl (by decide) (zIx b13x (by decide) (by decide)) dX10_man_46 ?_
        have kq46_15 : a1.toNatClampNeg = a1.toInt.toNat := rfl
        refine w_gp (fun v => v = f 30 0 a1.toNatClampNeg) rfl (fun v16 q16 => ?_)
        refine z_istore_n (pc := 47) C dX10_man_47 (by rw [hn]; decide) rfl ?_
        refine z_aload_n (pc := 48) C dX10_man_48 rfl ?_
        refine z_getR (pc := 49) C zf_X10_22 rfl rfl (by decide) dX10_man_49 ?_
        refine z_iload_n (pc := 52) C dX10_man_52 rfl ?_
        refine z_iload_n (pc := 53) C dX10_man_53 rfl ?_
        refine z_iast (pc := 54) C rfl (by decide) (zIx b13x (by decide) (by decide)) dX10_man_54 ?_
        refine w_memy hI hF (zM30 (i := a1) (v := a2) (zB.wk (a' := 0) (b' := 2) b13x (by decide) (by decide)) b15x (by first | omega | (simp only [z32eq, Int32.reduceToInt, Int32.toInt_zero, Int32.toInt_one] at *; omega))) rfl (fun g17 qm17 hI17 hF17 => ?_)
        refine z_iload_n (pc := 55) C dX10_man_55 rfl ?_
        refine z_iconst (pc := 56) (v := 1) C dX10_man_56 (by decide) ?_
        refine z_icmp_ne (pc := 57) 64 C dX10_man_57 (by decide) (fun h57_17 => ?_) (fun h57_17 => absurd h57_17 (by have q1 := b13x; have q2 := (zB.of (x := 1) 1 (by decide)); first | (simp only [z32lt, z32le, z32eq]; omega) | (simp only [z32lt, z32le, z32eq] at *; omega)))
        refine z_iload_n (pc := 64) C dX10_man_64 rfl ?_
        exact z_iret (pc := 65) C hr dX10_man_65 ⟨⟨_, rfl, (zB_any v16)⟩, hI17, hF17, (by
                                                                                          intro v hv; cases hv
                                                                                          by_cases h2 : a1.toInt = 2
                                                                                          · have hx : a1.toNatClampNeg = 2 := by
                                                                                              have hq : a1.toNatClampNeg = a1.toInt.toNat := rfl
                                                                                              omega
                                                                                            have hv := q16
                                                                                            have hm1 := qm17
                                                                                            rw [hx] at hv hm1
                                                                                            exact Or.inr (Or.inr (Or.inl ⟨⟨h2, by omega⟩, hv, hm1⟩))
                                                                                          · have h0 : a1.toInt = 0 := by
                                                                                              first | omega | (simp only [z32eq, Int32.reduceToInt, Int32.toInt_zero, Int32.toInt_one] at *; omega)
                                                                                            have hx : a1.toNatClampNeg = 0 := by
                                                                                              have hq : a1.toNatClampNeg = a1.toInt.toNat := rfl
                                                                                              omega
                                                                                            have hv := q16
                                                                                            have hm1 := qm17
                                                                                            rw [hx] at hv hm1
                                                                                            exact Or.inl ⟨⟨h0, by first | omega | (simp only [z32eq, Int32.reduceToInt, Int32.toInt_zero, Int32.toInt_one] at *; omega)⟩, hv, hm1⟩)⟩
      · skip
        have hc23_0 : ¬ (0 ≤ a2.toInt ∧ a2.toInt ≤ 99) := by have q9 := h23_13; simp only [z64] at q9; exact q9
        refine z_if_eq (pc := 26) 39 C dX10_man_26 (by decide) (fun _ => ?_) (fun h => absurd (by decide) h)
        refine z_iconst (pc := 39) (v := -1) C dX10_man_39 (by decide) ?_
        exact z_iret (pc := 40) C hr dX10_man_40 ⟨⟨_, rfl, (zB.wk (a' := (-2147483648)) (b' := 2147483647) (zB.of (x := (-1)) (-1) (by decide)) (by decide) (by decide))⟩, hI, hF, (by intro v hv; cases hv; exact Or.inr (Or.inr (Or.inr ⟨by first | omega | (simp only [z32eq, Int32.reduceToInt, Int32.toInt_zero, Int32.toInt_one] at *; omega), rfl, rfl⟩)))⟩
  · skip
    have hc6_0 : ¬ (0 ≤ a1.toInt ∧ a1.toInt ≤ 2) := by have q9 := h6_0; simp only [z64] at q9; exact q9
    refine z_if_eq (pc := 9) 39 C dX10_man_9 (by decide) (fun _ => ?_) (fun h => absurd (by decide) h)
    refine z_iconst (pc := 39) (v := -1) C dX10_man_39 (by decide) ?_
    exact z_iret (pc := 40) C hr dX10_man_40 ⟨⟨_, rfl, (zB.wk (a' := (-2147483648)) (b' := 2147483647) (zB.of (x := (-1)) (-1) (by decide)) (by decide) (by decide))⟩, hI, hF, (by intro v hv; cases hv; exact Or.inr (Or.inr (Or.inr ⟨by first | omega | (simp only [z32eq, Int32.reduceToInt, Int32.toInt_zero, Int32.toInt_one] at *; omega), rfl, rfl⟩)))⟩

set_option maxRecDepth 100000 in
set_option maxHeartbeats 4000000 in
theorem x_X8_allDeeds (d : Nat) (f : zM)  (hI : zInv f) : ZM d yX8_allDeeds cX8_allDeeds 1 (some .int) [zr 1 0] f (fun r g => (∃ v, r = some (zi v) ∧ zB v (-1) 255) ∧ zInv g ∧ zFr [] f g ∧ (∀ v : Int32, r = some (zi v) → v = (1 <<< (f 1 0 6 &&& 31)) - 1)) := by
  refine ZM.intro (by decide +kernel) (Nat.le_of_ble_eq_true rfl) ?_
  intro X C hr hn
  have hF : zFr [] f f := zFr.rf _ _
  show Z X 0 [some (zr 1 0)] [] f
  refine z_iconst (pc := 0) (v := 1) C dX8_allDeeds_0 (by decide) ?_
  refine z_aload_n (pc := 1) C dX8_allDeeds_1 rfl ?_
  refine z_getI (pc := 2) C zf_X8_54 rfl rfl (by decide) dX8_allDeeds_2 ?_
  refine w_gp (fun v => v = f 1 0 6) rfl (fun v2 q2 => ?_)
  have b2x : zB v2 0 8 := by rw [q2]; exact (hI 1 0 6)
  refine z_ishl (pc := 5) C dX8_allDeeds_5 ?_
  refine w_gp (fun v => v = (1 : Int32) <<< (v2 &&& 31)) rfl (fun v3 q3 => ?_)
  have b3x : zB v3 0 256 := by rw [q3]; exact (zshl_b b2x 8 (by decide) (by decide))
  refine z_iconst (pc := 6) (v := 1) C dX8_allDeeds_6 (by decide) ?_
  refine z_isub (pc := 7) C dX8_allDeeds_7 ?_
  refine w_gp (fun v => v = v3 - (1 : Int32)) rfl (fun v4 q4 => ?_)
  have e4 : v4.toInt = v3.toInt - 1 := by rw [q4]; exact (zsub_eb b3x (zB.of (x := 1) 1 (by decide)) (by decide) (by decide))
  have b4x : zB v4 (-1) 255 := by have q1 := b3x; have q2 := (zB.of (x := 1) 1 (by decide)); constructor <;> omega
  exact z_iret (pc := 8) C hr dX8_allDeeds_8 ⟨⟨_, rfl, b4x⟩, hI, hF, (by intro v hv; cases hv; rw [q4, q3, q2])⟩

set_option maxRecDepth 100000 in
set_option maxHeartbeats 4000000 in
theorem x_X9_bound (d : Nat) (f : zM) (a1 : Int32) (b1 : zB a1 (-2147483648) 2147483647) (hI : zInv f) : ZM (d + 1) yX9_bound cX9_bound 2 (some .int) [zr 0 0, zi a1] f (fun r g => (∃ v, r = some (zi v) ∧ zB v (-4) 255) ∧ zInv g ∧ zFr [] f g ∧ (∀ v : Int32, r = some (zi v) → (a1.toInt = 0 ∧ v = f 6 0 4) ∨ (a1.toInt = 1 ∧ v = f 6 0 5) ∨ (a1.toInt = 2 ∧ v = f 6 0 6 &&& ((1 <<< (f 1 0 6 &&& 31)) - 1)) ∨ (a1.toInt = 3 ∧ v = f 6 0 1) ∨ ((a1.toInt < 0 ∨ 3 < a1.toInt) ∧ v = -1))) := by
  refine ZM.intro (by decide +kernel) (Nat.le_of_ble_eq_true rfl) ?_
  intro X C hr hn
  have hF : zFr [] f f := zFr.rf _ _
  show Z X 0 [some (zr 0 0), some (zi a1)] [] f
  refine z_iload_n (pc := 0) C dX9_bound_0 rfl ?_
  by_cases hsw0 : a1 = 0
  · skip
    refine z_tabE (pc := 1) hsw0 32 C dX9_bound_1 (by decide) (by decide) rfl (by decide) ?_
    refine z_aload_n (pc := 32) C dX9_bound_32 rfl ?_
    refine z_getR (pc := 33) C zf_X9_10 rfl rfl (by decide) dX9_bound_33 ?_
    refine z_getR (pc := 36) C zf_X9_220 rfl rfl (by decide) dX9_bound_36 ?_
    refine z_getI (pc := 39) C zf_X9_244 rfl rfl (by decide) dX9_bound_39 ?_
    refine w_gp (fun v => v = f 6 0 4) rfl (fun v2 q2 => ?_)
    have b2x : zB v2 0 1 := by rw [q2]; exact (hI 6 0 4)
    refine z_if_eq (pc := 42) 49 C dX9_bound_42 (by decide) (fun h42_2 => ?_) (fun h42_2 => ?_)
    · skip
      have b4x : zB v2 0 0 := by have q1 := b2x; have q2 := (zB.of (x := 0) 0 (by decide)); simp only [z32lt, z32le, z32eq, Int32.reduceToInt, Int32.toInt_zero] at h42_2; constructor <;> omega
      refine z_iconst (pc := 49) (v := 0) C dX9_bound_49 (by decide) ?_
      exact z_iret (pc := 50) C hr dX9_bound_50 ⟨⟨_, rfl, (zB.wk (a' := (-4)) (b' := 255) (zB.of (x := 0) 0 (by decide)) (by decide) (by decide))⟩, hI, hF, (by
                                                                                          intro v hv; cases hv
                                                                                          have b4 : zB (f 6 0 4) 0 1 := hI 6 0 4
                                                                                          have b41 := b4.1
                                                                                          have b42 := b4.2
                                                                                          have q := q2
                                                                                          exact Or.inl (⟨by first | omega | (simp only [z32eq, Int32.reduceToInt, Int32.toInt_zero, Int32.toInt_one] at *; omega), by rw [← q]; rw [z32eq]; rw [← q] at b41 b42; first | omega | (simp only [z32eq, Int32.reduceToInt, Int32.toInt_zero, Int32.toInt_one] at *; omega)⟩))⟩
    · skip
      have b5x : zB v2 1 1 := by have q1 := b2x; have q2 := (zB.of (x := 0) 0 (by decide)); simp only [z32lt, z32le, z32eq, Int32.reduceToInt, Int32.toInt_zero] at h42_2; constructor <;> omega
      refine z_iconst (pc := 45) (v := 1) C dX9_bound_45 (by decide) ?_
      refine z_goto (pc := 46) 50 C dX9_bound_46 (by decide) ?_
      exact z_iret (pc := 50) C hr dX9_bound_50 ⟨⟨_, rfl, (zB.wk (a' := (-4)) (b' := 255) (zB.of (x := 1) 1 (by decide)) (by decide) (by decide))⟩, hI, hF, (by
                                                                                          intro v hv; cases hv
                                                                                          have b4 : zB (f 6 0 4) 0 1 := hI 6 0 4
                                                                                          have b41 := b4.1
                                                                                          have b42 := b4.2
                                                                                          have q := q2
                                                                                          exact Or.inl (⟨by first | omega | (simp only [z32eq, Int32.reduceToInt, Int32.toInt_zero, Int32.toInt_one] at *; omega), by rw [← q]; rw [z32eq]; rw [← q] at b41 b42; first | omega | (simp only [z32eq, Int32.reduceToInt, Int32.toInt_zero, Int32.toInt_one] at *; omega)⟩))⟩
  · skip
    by_cases hsw1 : a1 = 1
    · skip
      refine z_tabE (pc := 1) hsw1 51 C dX9_bound_1 (by decide) (by decide) rfl (by decide) ?_
      refine z_aload_n (pc := 51) C dX9_bound_51 rfl ?_
      refine z_getR (pc := 52) C zf_X9_10 rfl rfl (by decide) dX9_bound_52 ?_
      refine z_getR (pc := 55) C zf_X9_220 rfl rfl (by decide) dX9_bound_55 ?_
      refine z_getI (pc := 58) C zf_X9_247 rfl rfl (by decide) dX9_bound_58 ?_
      refine w_gp (fun v => v = f 6 0 5) rfl (fun v7 q7 => ?_)
      have b7x : zB v7 (-4) 5 := by rw [q7]; exact (hI 6 0 5)
      exact z_iret (pc := 61) C hr dX9_bound_61 ⟨⟨_, rfl, (zB.wk (a' := (-4)) (b' := 255) b7x (by decide) (by decide))⟩, hI, hF, (by intro v hv; cases hv; exact Or.inr (Or.inl (⟨by first | omega | (simp only [z32eq, Int32.reduceToInt, Int32.toInt_zero, Int32.toInt_one] at *; omega), q7⟩)))⟩
    · skip
      by_cases hsw2 : a1 = 2
      · skip
        refine z_tabE (pc := 1) hsw2 62 C dX9_bound_1 (by decide) (by decide) rfl (by decide) ?_
        refine z_aload_n (pc := 62) C dX9_bound_62 rfl ?_
        refine z_getR (pc := 63) C zf_X9_10 rfl rfl (by decide) dX9_bound_63 ?_
        refine z_getR (pc := 66) C zf_X9_220 rfl rfl (by decide) dX9_bound_66 ?_
        refine z_getI (pc := 69) C zf_X9_250 rfl rfl (by decide) dX9_bound_69 ?_
        refine w_gp (fun v => v = f 6 0 6) rfl (fun v9 q9 => ?_)
        have b9x : zB v9 0 255 := by rw [q9]; exact (hI 6 0 6)
        refine z_aload_n (pc := 72) C dX9_bound_72 rfl ?_
        refine z_getR (pc := 73) C zf_X9_10 rfl rfl (by decide) dX9_bound_73 ?_
        refine z_callV (pc := 76) C zk_X9_252 (x_X8_allDeeds _ _  hI) rfl rfl (by decide) rfl rfl (Nat.le_of_ble_eq_true rfl) dX9_bound_76 (fun r10 g10 q10 => ?_)
        obtain ⟨⟨v10, rfl, b10x⟩, hI10, hF10q, hp10_0⟩ := q10
        have hp10_0 := hp10_0 _ rfl
        obtain rfl := zFr_nil hF10q
        simp only [Option.toList, List.cons_append, List.nil_append]
        refine z_iand (pc := 79) C dX9_bound_79 ?_
        refine w_gp (fun v => v = v9 &&& v10) rfl (fun v11 q11 => ?_)
        have b11x : zB v11 0 255 := by rw [q11]; exact (zand_bl b9x b10x (by decide))
        exact z_iret (pc := 80) C hr dX9_bound_80 ⟨⟨_, rfl, (zB.wk (a' := (-4)) (b' := 255) b11x (by decide) (by decide))⟩, hI, hF, (by intro v hv; cases hv; exact Or.inr (Or.inr (Or.inl (⟨by first | omega | (simp only [z32eq, Int32.reduceToInt, Int32.toInt_zero, Int32.toInt_one] at *; omega), by rw [q11, q9, hp10_0]⟩))))⟩
      · skip
        by_cases hsw3 : a1 = 3
        · skip
          refine z_tabE (pc := 1) hsw3 81 C dX9_bound_1 (by decide) (by decide) rfl (by decide) ?_
          refine z_aload_n (pc := 81) C dX9_bound_81 rfl ?_
          refine z_getR (pc := 82) C zf_X9_10 rfl rfl (by decide) dX9_bound_82 ?_
          refine z_getR (pc := 85) C zf_X9_220 rfl rfl (by decide) dX9_bound_85 ?_
          refine z_getI (pc := 88) C zf_X9_232 rfl rfl (by decide) dX9_bound_88 ?_
          refine w_gp (fun v => v = f 6 0 1) rfl (fun v13 q13 => ?_)
          have b13x : zB v13 0 5 := by rw [q13]; exact (hI 6 0 1)
          exact z_iret (pc := 91) C hr dX9_bound_91 ⟨⟨_, rfl, (zB.wk (a' := (-4)) (b' := 255) b13x (by decide) (by decide))⟩, hI, hF, (by intro v hv; cases hv; exact Or.inr (Or.inr (Or.inr (Or.inl (⟨by first | omega | (simp only [z32eq, Int32.reduceToInt, Int32.toInt_zero, Int32.toInt_one] at *; omega), q13⟩)))))⟩
        · skip
          refine z_tabOut (pc := 1) 92 C dX9_bound_1 (by simp only [z32eq, Int32.reduceToInt, Int32.toInt_zero, Int32.toInt_one] at *; omega) (by decide) ?_
          refine z_iconst (pc := 92) (v := -1) C dX9_bound_92 (by decide) ?_
          exact z_iret (pc := 93) C hr dX9_bound_93 ⟨⟨_, rfl, (zB.wk (a' := (-4)) (b' := 255) (zB.of (x := (-1)) (-1) (by decide)) (by decide) (by decide))⟩, hI, hF, (by intro v hv; cases hv; exact Or.inr (Or.inr (Or.inr (Or.inr ((⟨by first | omega | (simp only [z32eq, Int32.reduceToInt, Int32.toInt_zero, Int32.toInt_one] at *; omega), rfl⟩))))))⟩

set_option maxRecDepth 100000 in
set_option maxHeartbeats 4000000 in
theorem x_X10_bound (d : Nat) (f : zM) (a1 : Int32) (b1 : zB a1 (-2147483648) 2147483647) (hI : zInv f) : ZM (d + 1) yX10_bound cX10_bound 2 (some .int) [zr 25 0, zi a1] f (fun r g => (∃ v, r = some (zi v) ∧ zB v (-4) 255) ∧ zInv g ∧ zFr [] f g ∧ (∀ v : Int32, r = some (zi v) → (a1.toInt = 0 ∧ v = f 30 0 3) ∨ (a1.toInt = 1 ∧ v = f 30 0 4) ∨ (a1.toInt = 2 ∧ v = f 30 0 5 &&& ((1 <<< (f 25 0 2 &&& 31)) - 1)) ∨ (a1.toInt = 3 ∧ v = f 30 0 1) ∨ ((a1.toInt < 0 ∨ 3 < a1.toInt) ∧ v = -1))) := by
  refine ZM.intro (by decide +kernel) (Nat.le_of_ble_eq_true rfl) ?_
  intro X C hr hn
  have hF : zFr [] f f := zFr.rf _ _
  show Z X 0 [some (zr 25 0), some (zi a1)] [] f
  refine z_iload_n (pc := 0) C dX10_bound_0 rfl ?_
  refine z_if_ne (pc := 1) 13 C dX10_bound_1 (by decide) (fun h1_0 => ?_) (fun h1_0 => ?_)
  · skip
    refine z_iload_n (pc := 13) C dX10_bound_13 rfl ?_
    refine z_iconst (pc := 14) (v := 1) C dX10_bound_14 (by decide) ?_
    refine z_icmp_ne (pc := 15) 27 C dX10_bound_15 (by decide) (fun h15_1 => ?_) (fun h15_1 => ?_)
    · skip
      refine z_iload_n (pc := 27) C dX10_bound_27 rfl ?_
      refine z_iconst (pc := 28) (v := 2) C dX10_bound_28 (by decide) ?_
      refine z_icmp_ne (pc := 29) 46 C dX10_bound_29 (by decide) (fun h29_2 => ?_) (fun h29_2 => ?_)
      · skip
        refine z_iload_n (pc := 46) C dX10_bound_46 rfl ?_
        refine z_iconst (pc := 47) (v := 3) C dX10_bound_47 (by decide) ?_
        refine z_icmp_ne (pc := 48) 60 C dX10_bound_48 (by decide) (fun h48_3 => ?_) (fun h48_3 => ?_)
        · skip
          refine z_iconst (pc := 60) (v := -1) C dX10_bound_60 (by decide) ?_
          exact z_iret (pc := 61) C hr dX10_bound_61 ⟨⟨_, rfl, (zB.wk (a' := (-4)) (b' := 255) (zB.of (x := (-1)) (-1) (by decide)) (by decide) (by decide))⟩, hI, hF, (by intro v hv; cases hv; exact Or.inr (Or.inr (Or.inr (Or.inr ((⟨by first | omega | (simp only [z32eq, Int32.reduceToInt, Int32.toInt_zero, Int32.toInt_one] at *; omega), rfl⟩))))))⟩
        · skip
          have b5x : zB a1 3 3 := by have q1 := b1; have q2 := (zB.of (x := 3) 3 (by decide)); simp only [z32lt, z32le, z32eq, Int32.reduceToInt, Int32.toInt_zero] at h48_3; constructor <;> omega
          refine z_aload_n (pc := 51) C dX10_bound_51 rfl ?_
          refine z_getR (pc := 52) C zf_X10_22 rfl rfl (by decide) dX10_bound_52 ?_
          refine z_iconst (pc := 55) (v := 1) C dX10_bound_55 (by decide) ?_
          refine z_iald (pc := 56) C rfl (by decide) (zIx (zB.of (x := 1) 1 (by decide)) (by decide) (by decide)) dX10_bound_56 ?_
          have kq56_5 : (1 : Int32).toNatClampNeg = (1 : Int32).toInt.toNat := rfl
          refine w_gp (fun v => v = f 30 0 (1 : Int32).toNatClampNeg) rfl (fun v6 q6 => ?_)
          have b6x : zB v6 0 5 := by rw [q6]; exact (hI 30 0 (1 : Int32).toNatClampNeg)
          refine z_goto (pc := 57) 61 C dX10_bound_57 (by decide) ?_
          exact z_iret (pc := 61) C hr dX10_bound_61 ⟨⟨_, rfl, (zB.wk (a' := (-4)) (b' := 255) b6x (by decide) (by decide))⟩, hI, hF, (by intro v hv; cases hv; exact Or.inr (Or.inr (Or.inr (Or.inl (⟨by first | omega | (simp only [z32eq, Int32.reduceToInt, Int32.toInt_zero, Int32.toInt_one] at *; omega), q6⟩)))))⟩
      · skip
        have b7x : zB a1 2 2 := by have q1 := b1; have q2 := (zB.of (x := 2) 2 (by decide)); simp only [z32lt, z32le, z32eq, Int32.reduceToInt, Int32.toInt_zero] at h29_2; constructor <;> omega
        refine z_aload_n (pc := 32) C dX10_bound_32 rfl ?_
        refine z_getR (pc := 33) C zf_X10_22 rfl rfl (by decide) dX10_bound_33 ?_
        refine z_iconst (pc := 36) (v := 5) C dX10_bound_36 (by decide) ?_
        refine z_iald (pc := 37) C rfl (by decide) (zIx (zB.of (x := 5) 5 (by decide)) (by decide) (by decide)) dX10_bound_37 ?_
        have kq37_7 : (5 : Int32).toNatClampNeg = (5 : Int32).toInt.toNat := rfl
        refine w_gp (fun v => v = f 30 0 (5 : Int32).toNatClampNeg) rfl (fun v8 q8 => ?_)
        have b8x : zB v8 0 255 := by rw [q8]; exact (hI 30 0 (5 : Int32).toNatClampNeg)
        refine z_aload_n (pc := 38) C dX10_bound_38 rfl ?_
        refine z_callV (pc := 39) C zk_X10_131 (x_X10_allDeeds _ _  hI) rfl rfl (by decide) rfl rfl (Nat.le_of_ble_eq_true rfl) dX10_bound_39 (fun r9 g9 q9 => ?_)
        obtain ⟨⟨v9, rfl, b9x⟩, hI9, hF9q, hp9_0⟩ := q9
        have hp9_0 := hp9_0 _ rfl
        obtain rfl := zFr_nil hF9q
        simp only [Option.toList, List.cons_append, List.nil_append]
        refine z_iand (pc := 42) C dX10_bound_42 ?_
        refine w_gp (fun v => v = v8 &&& v9) rfl (fun v10 q10 => ?_)
        have b10x : zB v10 0 255 := by rw [q10]; exact (zand_bl b8x b9x (by decide))
        refine z_goto (pc := 43) 61 C dX10_bound_43 (by decide) ?_
        exact z_iret (pc := 61) C hr dX10_bound_61 ⟨⟨_, rfl, (zB.wk (a' := (-4)) (b' := 255) b10x (by decide) (by decide))⟩, hI, hF, (by intro v hv; cases hv; exact Or.inr (Or.inr (Or.inl (⟨by first | omega | (simp only [z32eq, Int32.reduceToInt, Int32.toInt_zero, Int32.toInt_one] at *; omega), by have q : v8 = f 30 0 5 := q8; rw [q10, q, hp9_0]⟩))))⟩
    · skip
      have b11x : zB a1 1 1 := by have q1 := b1; have q2 := (zB.of (x := 1) 1 (by decide)); simp only [z32lt, z32le, z32eq, Int32.reduceToInt, Int32.toInt_zero] at h15_1; constructor <;> omega
      refine z_aload_n (pc := 18) C dX10_bound_18 rfl ?_
      refine z_getR (pc := 19) C zf_X10_22 rfl rfl (by decide) dX10_bound_19 ?_
      refine z_iconst (pc := 22) (v := 4) C dX10_bound_22 (by decide) ?_
      refine z_iald (pc := 23) C rfl (by decide) (zIx (zB.of (x := 4) 4 (by decide)) (by decide) (by decide)) dX10_bound_23 ?_
      have kq23_11 : (4 : Int32).toNatClampNeg = (4 : Int32).toInt.toNat := rfl
      refine w_gp (fun v => v = f 30 0 (4 : Int32).toNatClampNeg) rfl (fun v12 q12 => ?_)
      have b12x : zB v12 (-4) 5 := by rw [q12]; exact (hI 30 0 (4 : Int32).toNatClampNeg)
      refine z_goto (pc := 24) 61 C dX10_bound_24 (by decide) ?_
      exact z_iret (pc := 61) C hr dX10_bound_61 ⟨⟨_, rfl, (zB.wk (a' := (-4)) (b' := 255) b12x (by decide) (by decide))⟩, hI, hF, (by intro v hv; cases hv; exact Or.inr (Or.inl (⟨by first | omega | (simp only [z32eq, Int32.reduceToInt, Int32.toInt_zero, Int32.toInt_one] at *; omega), q12⟩)))⟩
  · skip
    have b13x : zB a1 0 0 := by have q1 := b1; have q2 := (zB.of (x := 0) 0 (by decide)); simp only [z32lt, z32le, z32eq, Int32.reduceToInt, Int32.toInt_zero] at h1_0; constructor <;> omega
    refine z_aload_n (pc := 4) C dX10_bound_4 rfl ?_
    refine z_getR (pc := 5) C zf_X10_22 rfl rfl (by decide) dX10_bound_5 ?_
    refine z_iconst (pc := 8) (v := 3) C dX10_bound_8 (by decide) ?_
    refine z_iald (pc := 9) C rfl (by decide) (zIx (zB.of (x := 3) 3 (by decide)) (by decide) (by decide)) dX10_bound_9 ?_
    have kq9_13 : (3 : Int32).toNatClampNeg = (3 : Int32).toInt.toNat := rfl
    refine w_gp (fun v => v = f 30 0 (3 : Int32).toNatClampNeg) rfl (fun v14 q14 => ?_)
    have b14x : zB v14 0 1 := by rw [q14]; exact (hI 30 0 (3 : Int32).toNatClampNeg)
    refine z_goto (pc := 10) 61 C dX10_bound_10 (by decide) ?_
    exact z_iret (pc := 61) C hr dX10_bound_61 ⟨⟨_, rfl, (zB.wk (a' := (-4)) (b' := 255) b14x (by decide) (by decide))⟩, hI, hF, (by intro v hv; cases hv; exact Or.inl (⟨by first | omega | (simp only [z32eq, Int32.reduceToInt, Int32.toInt_zero, Int32.toInt_one] at *; omega), q14⟩))⟩

set_option maxRecDepth 100000 in
set_option maxHeartbeats 4000000 in
theorem x_X9_count (d : Nat) (f : zM) (a1 : Int32) (b1 : zB a1 (-2147483648) 2147483647) (hI : zInv f) : ZM d yX9_count cX9_count 2 (some .int) [zr 0 0, zi a1] f (fun r g => (∃ v, r = some (zi v) ∧ zB v (-2147483648) 2147483647) ∧ zInv g ∧ zFr [] f g ∧ (∀ v : Int32, r = some (zi v) → (a1.toInt = 0 ∧ v = f 1 0 5) ∨ (a1.toInt = 1 ∧ v = f 1 0 6) ∨ (a1.toInt = 2 ∧ v = f 1 0 7) ∨ (a1.toInt = 3 ∧ v = f 1 0 8) ∨ (a1.toInt = 4 ∧ v = f 6 0 3) ∨ ((a1.toInt < 0 ∨ 4 < a1.toInt) ∧ v = -1))) := by
  refine ZM.intro (by decide +kernel) (Nat.le_of_ble_eq_true rfl) ?_
  intro X C hr hn
  have hF : zFr [] f f := zFr.rf _ _
  show Z X 0 [some (zr 0 0), some (zi a1)] [] f
  refine z_iload_n (pc := 0) C dX9_count_0 rfl ?_
  by_cases hsw0 : a1 = 0
  · skip
    refine z_tabE (pc := 1) hsw0 36 C dX9_count_1 (by decide) (by decide) rfl (by decide) ?_
    refine z_aload_n (pc := 36) C dX9_count_36 rfl ?_
    refine z_getR (pc := 37) C zf_X9_10 rfl rfl (by decide) dX9_count_37 ?_
    refine z_getI (pc := 40) C zf_X9_50 rfl rfl (by decide) dX9_count_40 ?_
    refine w_gp (fun v => v = f 1 0 5) rfl (fun v2 q2 => ?_)
    have b2x : zB v2 0 24 := by rw [q2]; exact (hI 1 0 5)
    exact z_iret (pc := 43) C hr dX9_count_43 ⟨⟨_, rfl, (zB.wk (a' := (-2147483648)) (b' := 2147483647) b2x (by decide) (by decide))⟩, hI, hF, (by intro v hv; cases hv; exact Or.inl (⟨by first | omega | (simp only [z32eq, Int32.reduceToInt, Int32.toInt_zero, Int32.toInt_one] at *; omega), q2⟩))⟩
  · skip
    by_cases hsw1 : a1 = 1
    · skip
      refine z_tabE (pc := 1) hsw1 44 C dX9_count_1 (by decide) (by decide) rfl (by decide) ?_
      refine z_aload_n (pc := 44) C dX9_count_44 rfl ?_
      refine z_getR (pc := 45) C zf_X9_10 rfl rfl (by decide) dX9_count_45 ?_
      refine z_getI (pc := 48) C zf_X9_71 rfl rfl (by decide) dX9_count_48 ?_
      refine w_gp (fun v => v = f 1 0 6) rfl (fun v4 q4 => ?_)
      have b4x : zB v4 0 8 := by rw [q4]; exact (hI 1 0 6)
      exact z_iret (pc := 51) C hr dX9_count_51 ⟨⟨_, rfl, (zB.wk (a' := (-2147483648)) (b' := 2147483647) b4x (by decide) (by decide))⟩, hI, hF, (by intro v hv; cases hv; exact Or.inr (Or.inl (⟨by first | omega | (simp only [z32eq, Int32.reduceToInt, Int32.toInt_zero, Int32.toInt_one] at *; omega), q4⟩)))⟩
    · skip
      by_cases hsw2 : a1 = 2
      · skip
        refine z_tabE (pc := 1) hsw2 52 C dX9_count_1 (by decide) (by decide) rfl (by decide) ?_
        refine z_aload_n (pc := 52) C dX9_count_52 rfl ?_
        refine z_getR (pc := 53) C zf_X9_10 rfl rfl (by decide) dX9_count_53 ?_
        refine z_getI (pc := 56) C zf_X9_119 rfl rfl (by decide) dX9_count_56 ?_
        refine w_gp (fun v => v = f 1 0 7) rfl (fun v6 q6 => ?_)
        have b6x : zB v6 0 12 := by rw [q6]; exact (hI 1 0 7)
        exact z_iret (pc := 59) C hr dX9_count_59 ⟨⟨_, rfl, (zB.wk (a' := (-2147483648)) (b' := 2147483647) b6x (by decide) (by decide))⟩, hI, hF, (by intro v hv; cases hv; exact Or.inr (Or.inr (Or.inl (⟨by first | omega | (simp only [z32eq, Int32.reduceToInt, Int32.toInt_zero, Int32.toInt_one] at *; omega), q6⟩))))⟩
      · skip
        by_cases hsw3 : a1 = 3
        · skip
          refine z_tabE (pc := 1) hsw3 60 C dX9_count_1 (by decide) (by decide) rfl (by decide) ?_
          refine z_aload_n (pc := 60) C dX9_count_60 rfl ?_
          refine z_getR (pc := 61) C zf_X9_10 rfl rfl (by decide) dX9_count_61 ?_
          refine z_getI (pc := 64) C zf_X9_217 rfl rfl (by decide) dX9_count_64 ?_
          refine w_gp (fun v => v = f 1 0 8) rfl (fun v8 q8 => ?_)
          have b8x : zB v8 0 8 := by rw [q8]; exact (hI 1 0 8)
          exact z_iret (pc := 67) C hr dX9_count_67 ⟨⟨_, rfl, (zB.wk (a' := (-2147483648)) (b' := 2147483647) b8x (by decide) (by decide))⟩, hI, hF, (by intro v hv; cases hv; exact Or.inr (Or.inr (Or.inr (Or.inl (⟨by first | omega | (simp only [z32eq, Int32.reduceToInt, Int32.toInt_zero, Int32.toInt_one] at *; omega), q8⟩)))))⟩
        · skip
          by_cases hsw4 : a1 = 4
          · skip
            refine z_tabE (pc := 1) hsw4 68 C dX9_count_1 (by decide) (by decide) rfl (by decide) ?_
            refine z_aload_n (pc := 68) C dX9_count_68 rfl ?_
            refine z_getR (pc := 69) C zf_X9_10 rfl rfl (by decide) dX9_count_69 ?_
            refine z_getR (pc := 72) C zf_X9_220 rfl rfl (by decide) dX9_count_72 ?_
            refine z_getI (pc := 75) C zf_X9_224 rfl rfl (by decide) dX9_count_75 ?_
            refine w_gp (fun v => v = f 6 0 3) rfl (fun v10 q10 => ?_)
            have b10x : zB v10 (-2147483648) 2147483647 := by rw [q10]; exact (hI 6 0 3)
            exact z_iret (pc := 78) C hr dX9_count_78 ⟨⟨_, rfl, b10x⟩, hI, hF, (by intro v hv; cases hv; exact Or.inr (Or.inr (Or.inr (Or.inr (Or.inl (⟨by first | omega | (simp only [z32eq, Int32.reduceToInt, Int32.toInt_zero, Int32.toInt_one] at *; omega), q10⟩))))))⟩
          · skip
            refine z_tabOut (pc := 1) 79 C dX9_count_1 (by simp only [z32eq, Int32.reduceToInt, Int32.toInt_zero, Int32.toInt_one] at *; omega) (by decide) ?_
            refine z_iconst (pc := 79) (v := -1) C dX9_count_79 (by decide) ?_
            exact z_iret (pc := 80) C hr dX9_count_80 ⟨⟨_, rfl, (zB.wk (a' := (-2147483648)) (b' := 2147483647) (zB.of (x := (-1)) (-1) (by decide)) (by decide) (by decide))⟩, hI, hF, (by intro v hv; cases hv; exact Or.inr (Or.inr (Or.inr (Or.inr (Or.inr ((⟨by first | omega | (simp only [z32eq, Int32.reduceToInt, Int32.toInt_zero, Int32.toInt_one] at *; omega), rfl⟩)))))))⟩

set_option maxRecDepth 100000 in
set_option maxHeartbeats 4000000 in
theorem x_X10_count (d : Nat) (f : zM) (a1 : Int32) (b1 : zB a1 (-2147483648) 2147483647) (hI : zInv f) : ZM d yX10_count cX10_count 2 (some .int) [zr 25 0, zi a1] f (fun r g => (∃ v, r = some (zi v) ∧ zB v (-2147483648) 2147483647) ∧ zInv g ∧ zFr [] f g ∧ (∀ v : Int32, r = some (zi v) → (a1.toInt = 0 ∧ v = f 25 0 0) ∨ (a1.toInt = 1 ∧ v = f 25 0 2) ∨ (a1.toInt = 2 ∧ v = f 25 0 4) ∨ (a1.toInt = 3 ∧ v = f 25 0 6) ∨ (a1.toInt = 4 ∧ v = f 30 0 6) ∨ ((a1.toInt < 0 ∨ 4 < a1.toInt) ∧ v = -1))) := by
  refine ZM.intro (by decide +kernel) (Nat.le_of_ble_eq_true rfl) ?_
  intro X C hr hn
  have hF : zFr [] f f := zFr.rf _ _
  show Z X 0 [some (zr 25 0), some (zi a1)] [] f
  refine z_iload_n (pc := 0) C dX10_count_0 rfl ?_
  by_cases hsw0 : a1 = 0
  · skip
    refine z_tabE (pc := 1) hsw0 36 C dX10_count_1 (by decide) (by decide) rfl (by decide) ?_
    refine z_aload_n (pc := 36) C dX10_count_36 rfl ?_
    refine z_getI (pc := 37) C zf_X10_80 rfl rfl (by decide) dX10_count_37 ?_
    refine w_gp (fun v => v = f 25 0 0) rfl (fun v2 q2 => ?_)
    have b2x : zB v2 0 24 := by rw [q2]; exact (hI 25 0 0)
    exact z_iret (pc := 40) C hr dX10_count_40 ⟨⟨_, rfl, (zB.wk (a' := (-2147483648)) (b' := 2147483647) b2x (by decide) (by decide))⟩, hI, hF, (by intro v hv; cases hv; exact Or.inl (⟨by first | omega | (simp only [z32eq, Int32.reduceToInt, Int32.toInt_zero, Int32.toInt_one] at *; omega), q2⟩))⟩
  · skip
    by_cases hsw1 : a1 = 1
    · skip
      refine z_tabE (pc := 1) hsw1 41 C dX10_count_1 (by decide) (by decide) rfl (by decide) ?_
      refine z_aload_n (pc := 41) C dX10_count_41 rfl ?_
      refine z_getI (pc := 42) C zf_X10_73 rfl rfl (by decide) dX10_count_42 ?_
      refine w_gp (fun v => v = f 25 0 2) rfl (fun v4 q4 => ?_)
      have b4x : zB v4 0 8 := by rw [q4]; exact (hI 25 0 2)
      exact z_iret (pc := 45) C hr dX10_count_45 ⟨⟨_, rfl, (zB.wk (a' := (-2147483648)) (b' := 2147483647) b4x (by decide) (by decide))⟩, hI, hF, (by intro v hv; cases hv; exact Or.inr (Or.inl (⟨by first | omega | (simp only [z32eq, Int32.reduceToInt, Int32.toInt_zero, Int32.toInt_one] at *; omega), q4⟩)))⟩
    · skip
      by_cases hsw2 : a1 = 2
      · skip
        refine z_tabE (pc := 1) hsw2 46 C dX10_count_1 (by decide) (by decide) rfl (by decide) ?_
        refine z_aload_n (pc := 46) C dX10_count_46 rfl ?_
        refine z_getI (pc := 47) C zf_X10_77 rfl rfl (by decide) dX10_count_47 ?_
        refine w_gp (fun v => v = f 25 0 4) rfl (fun v6 q6 => ?_)
        have b6x : zB v6 0 12 := by rw [q6]; exact (hI 25 0 4)
        exact z_iret (pc := 50) C hr dX10_count_50 ⟨⟨_, rfl, (zB.wk (a' := (-2147483648)) (b' := 2147483647) b6x (by decide) (by decide))⟩, hI, hF, (by intro v hv; cases hv; exact Or.inr (Or.inr (Or.inl (⟨by first | omega | (simp only [z32eq, Int32.reduceToInt, Int32.toInt_zero, Int32.toInt_one] at *; omega), q6⟩))))⟩
      · skip
        by_cases hsw3 : a1 = 3
        · skip
          refine z_tabE (pc := 1) hsw3 51 C dX10_count_1 (by decide) (by decide) rfl (by decide) ?_
          refine z_aload_n (pc := 51) C dX10_count_51 rfl ?_
          refine z_getI (pc := 52) C zf_X10_126 rfl rfl (by decide) dX10_count_52 ?_
          refine w_gp (fun v => v = f 25 0 6) rfl (fun v8 q8 => ?_)
          have b8x : zB v8 0 8 := by rw [q8]; exact (hI 25 0 6)
          exact z_iret (pc := 55) C hr dX10_count_55 ⟨⟨_, rfl, (zB.wk (a' := (-2147483648)) (b' := 2147483647) b8x (by decide) (by decide))⟩, hI, hF, (by intro v hv; cases hv; exact Or.inr (Or.inr (Or.inr (Or.inl (⟨by first | omega | (simp only [z32eq, Int32.reduceToInt, Int32.toInt_zero, Int32.toInt_one] at *; omega), q8⟩)))))⟩
        · skip
          by_cases hsw4 : a1 = 4
          · skip
            refine z_tabE (pc := 1) hsw4 56 C dX10_count_1 (by decide) (by decide) rfl (by decide) ?_
            refine z_aload_n (pc := 56) C dX10_count_56 rfl ?_
            refine z_getR (pc := 57) C zf_X10_22 rfl rfl (by decide) dX10_count_57 ?_
            refine z_bipush (pc := 60) (v := 6) C dX10_count_60 (by decide) ?_
            refine z_iald (pc := 62) C rfl (by decide) (zIx (zB.of (x := 6) 6 (by decide)) (by decide) (by decide)) dX10_count_62 ?_
            have kq62_8 : (6 : Int32).toNatClampNeg = (6 : Int32).toInt.toNat := rfl
            refine w_gp (fun v => v = f 30 0 (6 : Int32).toNatClampNeg) rfl (fun v9 q9 => ?_)
            have b9x : zB v9 (-2147483648) 2147483647 := by rw [q9]; exact (hI 30 0 (6 : Int32).toNatClampNeg)
            exact z_iret (pc := 63) C hr dX10_count_63 ⟨⟨_, rfl, b9x⟩, hI, hF, (by intro v hv; cases hv; exact Or.inr (Or.inr (Or.inr (Or.inr (Or.inl (⟨by first | omega | (simp only [z32eq, Int32.reduceToInt, Int32.toInt_zero, Int32.toInt_one] at *; omega), q9⟩))))))⟩
          · skip
            refine z_tabOut (pc := 1) 64 C dX10_count_1 (by simp only [z32eq, Int32.reduceToInt, Int32.toInt_zero, Int32.toInt_one] at *; omega) (by decide) ?_
            refine z_iconst (pc := 64) (v := -1) C dX10_count_64 (by decide) ?_
            exact z_iret (pc := 65) C hr dX10_count_65 ⟨⟨_, rfl, (zB.wk (a' := (-2147483648)) (b' := 2147483647) (zB.of (x := (-1)) (-1) (by decide)) (by decide) (by decide))⟩, hI, hF, (by intro v hv; cases hv; exact Or.inr (Or.inr (Or.inr (Or.inr (Or.inr ((⟨by first | omega | (simp only [z32eq, Int32.reduceToInt, Int32.toInt_zero, Int32.toInt_one] at *; omega), rfl⟩)))))))⟩
