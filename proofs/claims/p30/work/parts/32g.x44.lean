set_option maxRecDepth 100000 in
set_option maxHeartbeats 4000000 in
theorem x_X9_shows (d : Nat) (f : zM) (a1 : Int32) (b1 : zB a1 (-2147483648) 2147483647) (a2 : Int32) (b2 : zB a2 (-2147483648) 2147483647) (a3 : Int32) (b3 : zB a3 (-2147483648) 2147483647) (a4 : Int32) (b4 : zB a4 (-2147483648) 2147483647) (hI : zInv f) : ZM (d + 3) yX9_shows cX9_shows 8 (some .int) [zr 0 0, zi a1, zi a2, zi a3, zi a4] f (fun r g => (∃ v, r = some (zi v) ∧ zB v (-13) 63) ∧ zInv g ∧ zFr [(8, some 1), (8, some 5), (8, some 6), (8, some 7), (9, none), (10, none)] f g ∧ (∀ v : Int32, r = some (zi v) → (¬ ((0 ≤ a1.toInt ∧ a1.toInt < (f 1 0 6).toInt) ∧ (0 ≤ a2.toInt ∧ a2.toInt ≤ 3) ∧ (0 ≤ a3.toInt ∧ a3.toInt ≤ 2)) ∧ v = -1 ∧ g = f) ∨ (((0 ≤ a1.toInt ∧ a1.toInt < (f 1 0 6).toInt) ∧ (0 ≤ a2.toInt ∧ a2.toInt ≤ 3) ∧ (0 ≤ a3.toInt ∧ a3.toInt ≤ 2)) ∧ (f 23 a2.toInt.toNat 1).toInt = -1 ∧ v = -11 ∧ g = f) ∨ (((0 ≤ a1.toInt ∧ a1.toInt < (f 1 0 6).toInt) ∧ (0 ≤ a2.toInt ∧ a2.toInt ≤ 3) ∧ (0 ≤ a3.toInt ∧ a3.toInt ≤ 2)) ∧ ¬ (f 23 a2.toInt.toNat 1).toInt = -1 ∧ ¬ (f 23 a2.toInt.toNat 1) = a3 ∧ v = -12 ∧ g = f) ∨ (((0 ≤ a1.toInt ∧ a1.toInt < (f 1 0 6).toInt) ∧ (0 ≤ a2.toInt ∧ a2.toInt ≤ 3) ∧ (0 ≤ a3.toInt ∧ a3.toInt ≤ 2)) ∧ ¬ (f 23 a2.toInt.toNat 1).toInt = -1 ∧ (f 23 a2.toInt.toNat 1) = a3 ∧ ¬ (0 ≤ a4.toInt ∧ a4.toInt ≤ (f 23 a2.toInt.toNat 2).toInt - 6) ∧ v = -13 ∧ g = f) ∨ (((0 ≤ a1.toInt ∧ a1.toInt < (f 1 0 6).toInt) ∧ (0 ≤ a2.toInt ∧ a2.toInt ≤ 3) ∧ (0 ≤ a3.toInt ∧ a3.toInt ≤ 2)) ∧ ¬ (f 23 a2.toInt.toNat 1).toInt = -1 ∧ (f 23 a2.toInt.toNat 1) = a3 ∧ (0 ≤ a4.toInt ∧ a4.toInt ≤ (f 23 a2.toInt.toNat 2).toInt - 6) ∧ v = f 8 a1.toInt.toNat 1 ∧ g 8 a1.toInt.toNat 1 = zmk (f 24 a2.toInt.toNat) a4.toInt.toNat 6 ∧ (∀ i j, ¬ (i = a1.toInt.toNat ∧ j = 1) → j < 5 → g 8 i j = f 8 i j))) ∧ (∀ v : Int32, r = some (zi v) → zRl f → zRl g)) := by
  refine ZM.intro (by decide +kernel) (Nat.le_of_ble_eq_true rfl) ?_
  intro X C hr hn
  have hF : zFr [(8, some 1), (8, some 5), (8, some 6), (8, some 7), (9, none), (10, none)] f f := zFr.rf _ _
  show Z X 0 [some (zr 0 0), some (zi a1), some (zi a2), some (zi a3), some (zi a4), none, none, none] [] f
  refine z_aload_n (pc := 0) C dX9_shows_0 rfl ?_
  refine z_iload_n (pc := 1) C dX9_shows_1 rfl ?_
  refine z_callVb (pc := 2) C zk_X9_179 (m_X9_isDeed _ _ _) rfl rfl (by decide) rfl rfl (Nat.le_of_ble_eq_true rfl) dX9_shows_2 (fun h2_0 => ?_) (fun h2_0 => ?_)
  · skip
    have b2x : zB a1 0 7 := (zltc h2_0 (hI 1 0 6).2)
    refine z_if_eq (pc := 5) 22 C dX9_shows_5 (by decide) (fun h => absurd h (by decide)) (fun _ => ?_)
    refine z_iload_n (pc := 8) C dX9_shows_8 rfl ?_
    refine z_callSb (pc := 9) C zk_X9_195 (m_X9_isSheet _ _ _) rfl rfl (Nat.le_of_ble_eq_true rfl) dX9_shows_9 (fun h9_2 => ?_) (fun h9_2 => ?_)
    · skip
      have b4x : zB a2 0 3 := h9_2
      refine z_if_eq (pc := 12) 22 C dX9_shows_12 (by decide) (fun h => absurd h (by decide)) (fun _ => ?_)
      refine z_iload_n (pc := 15) C dX9_shows_15 rfl ?_
      refine z_callSb (pc := 16) C zk_X9_198 (m_X9_isLane _ _ _) rfl rfl (Nat.le_of_ble_eq_true rfl) dX9_shows_16 (fun h16_4 => ?_) (fun h16_4 => ?_)
      · skip
        have b6x : zB a3 0 2 := h16_4
        refine z_if_ne (pc := 19) 24 C dX9_shows_19 (by decide) (fun _ => ?_) (fun h => absurd h (by decide))
        refine z_aload_n (pc := 24) C dX9_shows_24 rfl ?_
        refine z_getR (pc := 25) C zf_X9_37 rfl rfl (by decide) dX9_shows_25 ?_
        refine z_iload_n (pc := 28) C dX9_shows_28 rfl ?_
        refine z_aald (pc := 29) C rfl ⟨rfl, by decide⟩ (by decide) (zIx b4x (by decide) (by decide)) dX9_shows_29 ?_
        refine w_grx (by have hq := zN b4x (by decide); show a2.toNatClampNeg < 4; omega) (fun m7 q7r h7x => ?_)
        have q7r : m7 = a2.toNatClampNeg := q7r
        have k7r : a2.toNatClampNeg = a2.toInt.toNat := rfl
        refine z_astore (pc := 30) C dX9_shows_30 (by rw [hn]; decide) rfl ?_
        refine z_aload (pc := 32) C dX9_shows_32 rfl ?_
        refine z_iload_n (pc := 34) C dX9_shows_34 rfl ?_
        refine z_callV (pc := 35) C zk_X9_201 (x_X6_refuse _ _ m7 h7x a3 (zB.wk (a' := (-2147483648)) (b' := 2147483647) b6x (by decide) (by decide)) hI) rfl rfl h7x rfl rfl (Nat.le_of_ble_eq_true rfl) dX9_shows_35 (fun r8 g8 q8 => ?_)
        obtain ⟨⟨v8, rfl, b8x⟩, hI8, hF8q, hp8_0⟩ := q8
        have hp8_0 := hp8_0 _ rfl
        obtain rfl := zFr_nil hF8q
        simp only [Option.toList, List.cons_append, List.nil_append]
        refine z_istore (pc := 38) C dX9_shows_38 (by rw [hn]; decide) rfl ?_
        refine z_iload (pc := 40) C dX9_shows_40 rfl ?_
        refine z_if_eq (pc := 42) 48 C dX9_shows_42 (by decide) (fun h42_8 => ?_) (fun h42_8 => ?_)
        · skip
          have b10x : zB v8 0 0 := by have q1 := b8x; have q2 := (zB.of (x := 0) 0 (by decide)); simp only [z32lt, z32le, z32eq, Int32.reduceToInt, Int32.toInt_zero] at h42_8; constructor <;> omega
          refine z_iload (pc := 48) C dX9_shows_48 rfl ?_
          refine z_if_lt (pc := 50) 66 C dX9_shows_50 (by decide) (fun h50_10 => ?_) (fun h50_10 => ?_)
          · skip
            have b12x : zB a4 (-2147483648) (-1) := by have q1 := b4; have q2 := (zB.of (x := 0) 0 (by decide)); simp only [z32lt, z32le, z32eq, Int32.reduceToInt, Int32.toInt_zero] at h50_10; constructor <;> omega
            refine z_bipush (pc := 66) (v := -13) C dX9_shows_66 (by decide) ?_
            exact z_iret (pc := 68) C hr dX9_shows_68 ⟨⟨_, rfl, (zB.wk (a' := (-13)) (b' := 63) (zB.of (x := (-13)) (-13) (by decide)) (by decide) (by decide))⟩, hI, hF, (by
                                                                                          intro v hv; cases hv
                                                                                          have hn : m7 = a2.toInt.toNat := by omega
                                                                                          have hr := hp8_0
                                                                                          rw [hn] at hr
                                                                                          rcases hr with ⟨h1, h2⟩ | ⟨h1, h2, h3⟩ | ⟨h1, h2, h3⟩
                                                                                          · subst h2; exact absurd (show (-11 : Int32) = 0 by assumption) (by decide)
                                                                                          · refine Or.inr (Or.inr (Or.inr (Or.inl ⟨⟨by assumption, by assumption, by assumption⟩, h1, h2, ?_, rfl, rfl⟩)))
                                                                                            omega
                                                                                          · subst h3; exact absurd (show (-12 : Int32) = 0 by assumption) (by decide)), (by intro v hv; cases hv; exact fun h => h)⟩
          · skip
            have b13x : zB a4 0 2147483647 := by have q1 := b4; have q2 := (zB.of (x := 0) 0 (by decide)); simp only [z32lt, z32le, z32eq, Int32.reduceToInt, Int32.toInt_zero] at h50_10; constructor <;> omega
            refine z_iload (pc := 53) C dX9_shows_53 rfl ?_
            refine z_aload (pc := 55) C dX9_shows_55 rfl ?_
            refine z_getI (pc := 57) C zf_X9_204 rfl rfl h7x dX9_shows_57 ?_
            refine w_gp (fun v => v = f 23 m7 2) rfl (fun v15 q15 => ?_)
            have b15x : zB v15 0 16 := by rw [q15]; exact (hI 23 m7 2)
            refine z_bipush (pc := 60) (v := 6) C dX9_shows_60 (by decide) ?_
            refine z_isub (pc := 62) C dX9_shows_62 ?_
            refine w_gp (fun v => v = v15 - (6 : Int32)) rfl (fun v16 q16 => ?_)
            have e16 : v16.toInt = v15.toInt - 6 := by rw [q16]; exact (zsub_eb b15x (zB.of (x := 6) 6 (by decide)) (by decide) (by decide))
            have b16x : zB v16 (-6) 10 := by have q1 := b15x; have q2 := (zB.of (x := 6) 6 (by decide)); constructor <;> omega
            refine z_icmp_le (pc := 63) 69 C dX9_shows_63 (by decide) (fun h63_16 => ?_) (fun h63_16 => ?_)
            · skip
              have b18x : zB a4 0 10 := by have q1 := b13x; have q2 := b16x; simp only [z32lt, z32le, z32eq, Int32.reduceToInt, Int32.toInt_zero] at h63_16; constructor <;> omega
              have b19x : zB v16 0 10 := by have q1 := b13x; have q2 := b16x; simp only [z32lt, z32le, z32eq, Int32.reduceToInt, Int32.toInt_zero] at h63_16; constructor <;> omega
              have b20x : zB v15 6 16 := by first | assumption | (constructor <;> omega)
              refine z_aload_n (pc := 69) C dX9_shows_69 rfl ?_
              refine z_getR (pc := 70) C zf_X9_10 rfl rfl (by decide) dX9_shows_70 ?_
              refine z_getR (pc := 73) C zf_X9_74 rfl rfl (by decide) dX9_shows_73 ?_
              refine z_iload_n (pc := 76) C dX9_shows_76 rfl ?_
              refine z_aald (pc := 77) C rfl ⟨rfl, by decide⟩ (by decide) (zIx b2x (by decide) (by decide)) dX9_shows_77 ?_
              refine w_grx (by have hq := zN b2x (by decide); show 8 * 0 + a1.toNatClampNeg < 16; omega) (fun m21 q21r h21x => ?_)
              have q21r : m21 = 8 * 0 + a1.toNatClampNeg := q21r
              have k21r : a1.toNatClampNeg = a1.toInt.toNat := rfl
              refine z_getI (pc := 78) C zf_X9_207 rfl rfl h21x dX9_shows_78 ?_
              refine w_gp (fun v => v = f 8 m21 1) rfl (fun v23 q23 => ?_)
              have b23x : zB v23 0 63 := by rw [q23]; exact (hI 8 m21 1)
              refine z_istore (pc := 81) C dX9_shows_81 (by rw [hn]; decide) rfl ?_
              refine z_aload_n (pc := 83) C dX9_shows_83 rfl ?_
              refine z_getR (pc := 84) C zf_X9_10 rfl rfl (by decide) dX9_shows_84 ?_
              refine z_getR (pc := 87) C zf_X9_74 rfl rfl (by decide) dX9_shows_87 ?_
              refine z_iload_n (pc := 90) C dX9_shows_90 rfl ?_
              refine z_aald (pc := 91) C rfl ⟨rfl, by decide⟩ (by decide) (zIx b2x (by decide) (by decide)) dX9_shows_91 ?_
              refine w_grx (by have hq := zN b2x (by decide); show 8 * 0 + a1.toNatClampNeg < 16; omega) (fun m24 q24r h24x => ?_)
              have q24r : m24 = 8 * 0 + a1.toNatClampNeg := q24r
              have k24r : a1.toNatClampNeg = a1.toInt.toNat := rfl
              refine z_aload (pc := 92) C dX9_shows_92 rfl ?_
              refine z_iload (pc := 94) C dX9_shows_94 rfl ?_
              refine z_callV (pc := 96) C zk_X9_210 (x_X6_marksFrom _ _ m7 h7x a4 b18x hI) rfl rfl h7x rfl rfl (Nat.le_of_ble_eq_true rfl) dX9_shows_96 (fun r25 g25 q25 => ?_)
              obtain ⟨⟨v25, rfl, b25x⟩, hI25, hF25q, hp25_0⟩ := q25
              have hp25_0 := hp25_0 _ rfl
              obtain rfl := zFr_nil hF25q
              simp only [Option.toList, List.cons_append, List.nil_append]
              refine z_putI (pc := 99) C zf_X9_207 zp_1_1 rfl rfl h24x dX9_shows_99 ?_
              refine w_memy hI hF b25x rfl (fun g26 qm26 hI26 hF26 => ?_)
              refine z_aload_n (pc := 102) C dX9_shows_102 rfl ?_
              refine z_getR (pc := 103) C zf_X9_10 rfl rfl (by decide) dX9_shows_103 ?_
              refine z_iload_n (pc := 106) C dX9_shows_106 rfl ?_
              refine z_callV (pc := 107) C zk_X9_213 (x_X8_learnAgain _ _ a1 b2x hI26) rfl rfl (by decide) rfl rfl (Nat.le_of_ble_eq_true rfl) dX9_shows_107 (fun r27 g27 q27 => ?_)
              obtain ⟨rfl, hI27, hF27q, hp27_0, hp27_1⟩ := q27
              have hF27 := zFr.tr hF26 hF27q (by decide)
              simp only [Option.toList, List.cons_append, List.nil_append]
              refine z_iload (pc := 110) C dX9_shows_110 rfl ?_
              exact z_iret (pc := 112) C hr dX9_shows_112 ⟨⟨_, rfl, (zB.wk (a' := (-13)) (b' := 63) b23x (by decide) (by decide))⟩, hI27, hF27, (by
                                                                                          intro v hv; cases hv
                                                                                          have hn : m7 = a2.toInt.toNat := by omega
                                                                                          have hr := hp8_0
                                                                                          rw [hn] at hr
                                                                                          rcases hr with ⟨h1, h2⟩ | ⟨h1, h2, h3⟩ | ⟨h1, h2, h3⟩
                                                                                          · subst h2; exact absurd (show (-11 : Int32) = 0 by assumption) (by decide)
                                                                                          · have hd1 : m21 = a1.toInt.toNat := by omega
                                                                                            have hd2 : m24 = a1.toInt.toNat := by omega
                                                                                            have hm := hp25_0
                                                                                            rw [hn] at hm
                                                                                            have hF := hF27q
                                                                                            refine Or.inr (Or.inr (Or.inr (Or.inr ⟨⟨by assumption, by assumption, by assumption⟩, h1, h2, ?_, ?_, ?_, ?_⟩)))
                                                                                            · have hq := q15
                                                                                              rw [hn] at hq
                                                                                              rw [← hq]
                                                                                              simp only [z32lt, z32le, z32eq] at *
                                                                                              omega
                                                                                            · rw [← hd1]; exact q23
                                                                                            · rw [hF 8 _ 1 rfl, ← hm, ← hd2]
                                                                                              subst qm26
                                                                                              exact zup_same _ _ _ _ _
                                                                                            · intro i j hij hj
                                                                                              rw [hF 8 i j (by rcases (show j = 0 ∨ j = 1 ∨ j = 2 ∨ j = 3 ∨ j = 4 by omega) with rfl | rfl | rfl | rfl | rfl <;> rfl)]
                                                                                              subst qm26
                                                                                              exact zup_ne _ _ (by rw [hd2]; omega)
                                                                                          · subst h3; exact absurd (show (-12 : Int32) = 0 by assumption) (by decide)), (by
                                                                                          intro v hv; cases hv
                                                                                          intro hL i hi
                                                                                          have hd2 : m24 = a1.toInt.toNat := by omega
                                                                                          have eo : ∀ x y z, ¬ (x = 8 ∧ y = a1.toInt.toNat ∧ z = 1) → g26 x y z = f x y z := fun x y z h => by rw [qm26, hd2]; exact zup_ne _ _ h
                                                                                          have m5 : g27 1 0 5 = f 1 0 5 := (hF27q 1 0 5 rfl).trans (eo 1 0 5 (by omega))
                                                                                          have m6 : g27 1 0 6 = f 1 0 6 := (hF27q 1 0 6 rfl).trans (eo 1 0 6 (by omega))
                                                                                          have m7 : ∀ k j, g27 7 k j = f 7 k j := fun k j => (hF27q 7 k j rfl).trans (eo 7 k j (by omega))
                                                                                          have h3 := hp27_0
                                                                                          have h4 := hp27_1
                                                                                          rw [eo 1 0 5 (by omega)] at h3
                                                                                          rw [m6] at hi
                                                                                          rw [m5]
                                                                                          by_cases q : i = a1.toInt.toNat
                                                                                          · rw [q]
                                                                                            exact zLk_c h3 (fun k j _ _ => ((eo 7 k j (by omega)).trans (m7 k j).symm))
                                                                                          · exact zLk_c (zLk_k (hL i hi) (fun j _ => (h4.1 i j q).trans (eo 8 i j (by omega))) (fun l _ => (h4.2.1 i l q).trans (eo 9 i l (by omega))) (fun l _ => (h4.2.2 i l q).trans (eo 10 i l (by omega)))) (fun k j _ _ => (m7 k j).symm))⟩
            · skip
              refine z_bipush (pc := 66) (v := -13) C dX9_shows_66 (by decide) ?_
              exact z_iret (pc := 68) C hr dX9_shows_68 ⟨⟨_, rfl, (zB.wk (a' := (-13)) (b' := 63) (zB.of (x := (-13)) (-13) (by decide)) (by decide) (by decide))⟩, hI, hF, (by
                                                                                          intro v hv; cases hv
                                                                                          have hn : m7 = a2.toInt.toNat := by omega
                                                                                          have hr := hp8_0
                                                                                          rw [hn] at hr
                                                                                          rcases hr with ⟨h1, h2⟩ | ⟨h1, h2, h3⟩ | ⟨h1, h2, h3⟩
                                                                                          · subst h2; exact absurd (show (-11 : Int32) = 0 by assumption) (by decide)
                                                                                          · refine Or.inr (Or.inr (Or.inr (Or.inl ⟨⟨by assumption, by assumption, by assumption⟩, h1, h2, ?_, rfl, rfl⟩)))
                                                                                            have hq := q15
                                                                                            rw [hn] at hq
                                                                                            rw [← hq]
                                                                                            simp only [z32lt, z32le, z32eq] at *
                                                                                            omega
                                                                                          · subst h3; exact absurd (show (-12 : Int32) = 0 by assumption) (by decide)), (by intro v hv; cases hv; exact fun h => h)⟩
        · skip
          have b28x : zB v8 (-12) (-1) := by have q1 := b8x; have q2 := (zB.of (x := 0) 0 (by decide)); simp only [z32lt, z32le, z32eq, Int32.reduceToInt, Int32.toInt_zero] at h42_8; constructor <;> omega
          refine z_iload (pc := 45) C dX9_shows_45 rfl ?_
          exact z_iret (pc := 47) C hr dX9_shows_47 ⟨⟨_, rfl, (zB.wk (a' := (-13)) (b' := 63) b28x (by decide) (by decide))⟩, hI, hF, (by
                                                                                          intro v hv; cases hv
                                                                                          have hn : m7 = a2.toInt.toNat := by omega
                                                                                          have hr := hp8_0
                                                                                          rw [hn] at hr
                                                                                          rcases hr with ⟨h1, h2⟩ | ⟨h1, h2, h3⟩ | ⟨h1, h2, h3⟩
                                                                                          · exact Or.inr (Or.inl ⟨⟨by assumption, by assumption, by assumption⟩, h1, h2, rfl⟩)
                                                                                          · exact absurd h3 (by assumption)
                                                                                          · exact Or.inr (Or.inr (Or.inl ⟨⟨by assumption, by assumption, by assumption⟩, h1, h2, h3, rfl⟩))), (by intro v hv; cases hv; exact fun h => h)⟩
      · skip
        refine z_if_ne (pc := 19) 24 C dX9_shows_19 (by decide) (fun h => absurd (by decide) h) (fun _ => ?_)
        refine z_iconst (pc := 22) (v := -1) C dX9_shows_22 (by decide) ?_
        exact z_iret (pc := 23) C hr dX9_shows_23 ⟨⟨_, rfl, (zB.wk (a' := (-13)) (b' := 63) (zB.of (x := (-1)) (-1) (by decide)) (by decide) (by decide))⟩, hI, hF, (by intro v hv; cases hv; exact Or.inl ⟨by omega, rfl, rfl⟩), (by intro v hv; cases hv; exact fun h => h)⟩
    · skip
      refine z_if_eq (pc := 12) 22 C dX9_shows_12 (by decide) (fun _ => ?_) (fun h => absurd (by decide) h)
      refine z_iconst (pc := 22) (v := -1) C dX9_shows_22 (by decide) ?_
      exact z_iret (pc := 23) C hr dX9_shows_23 ⟨⟨_, rfl, (zB.wk (a' := (-13)) (b' := 63) (zB.of (x := (-1)) (-1) (by decide)) (by decide) (by decide))⟩, hI, hF, (by intro v hv; cases hv; exact Or.inl ⟨by omega, rfl, rfl⟩), (by intro v hv; cases hv; exact fun h => h)⟩
  · skip
    refine z_if_eq (pc := 5) 22 C dX9_shows_5 (by decide) (fun _ => ?_) (fun h => absurd (by decide) h)
    refine z_iconst (pc := 22) (v := -1) C dX9_shows_22 (by decide) ?_
    exact z_iret (pc := 23) C hr dX9_shows_23 ⟨⟨_, rfl, (zB.wk (a' := (-13)) (b' := 63) (zB.of (x := (-1)) (-1) (by decide)) (by decide) (by decide))⟩, hI, hF, (by intro v hv; cases hv; exact Or.inl ⟨by omega, rfl, rfl⟩), (by intro v hv; cases hv; exact fun h => h)⟩

set_option maxRecDepth 100000 in
set_option maxHeartbeats 4000000 in
theorem x_X10_shows (d : Nat) (f : zM) (a1 : Int32) (b1 : zB a1 (-2147483648) 2147483647) (a2 : Int32) (b2 : zB a2 (-2147483648) 2147483647) (a3 : Int32) (b3 : zB a3 (-2147483648) 2147483647) (a4 : Int32) (b4 : zB a4 (-2147483648) 2147483647) (hI : zInv f) : ZM (d + 2) yX10_shows cX10_shows 9 (some .int) [zr 25 0, zi a1, zi a2, zi a3, zi a4] f (fun r g => (∃ v, r = some (zi v) ∧ zB v (-13) 63) ∧ zInv g ∧ zFr [(27, none)] f g ∧ (∀ v : Int32, r = some (zi v) → (¬ ((0 ≤ a1.toInt ∧ a1.toInt < (f 25 0 2).toInt) ∧ (0 ≤ a2.toInt ∧ a2.toInt ≤ 3) ∧ (0 ≤ a3.toInt ∧ a3.toInt ≤ 2)) ∧ v = -1 ∧ g = f) ∨ (((0 ≤ a1.toInt ∧ a1.toInt < (f 25 0 2).toInt) ∧ (0 ≤ a2.toInt ∧ a2.toInt ≤ 3) ∧ (0 ≤ a3.toInt ∧ a3.toInt ≤ 2)) ∧ (f 41 0 a2.toInt.toNat).toInt < 0 ∧ v = -11 ∧ g = f) ∨ (((0 ≤ a1.toInt ∧ a1.toInt < (f 25 0 2).toInt) ∧ (0 ≤ a2.toInt ∧ a2.toInt ≤ 3) ∧ (0 ≤ a3.toInt ∧ a3.toInt ≤ 2)) ∧ ¬ (f 41 0 a2.toInt.toNat).toInt < 0 ∧ ¬ (f 41 0 a2.toInt.toNat) = a3 ∧ v = -12 ∧ g = f) ∨ (((0 ≤ a1.toInt ∧ a1.toInt < (f 25 0 2).toInt) ∧ (0 ≤ a2.toInt ∧ a2.toInt ≤ 3) ∧ (0 ≤ a3.toInt ∧ a3.toInt ≤ 2)) ∧ ¬ (f 41 0 a2.toInt.toNat).toInt < 0 ∧ (f 41 0 a2.toInt.toNat) = a3 ∧ ¬ (0 ≤ a4.toInt ∧ a4.toInt ≤ (f 42 0 a2.toInt.toNat).toInt - 6) ∧ v = -13 ∧ g = f) ∨ (((0 ≤ a1.toInt ∧ a1.toInt < (f 25 0 2).toInt) ∧ (0 ≤ a2.toInt ∧ a2.toInt ≤ 3) ∧ (0 ≤ a3.toInt ∧ a3.toInt ≤ 2)) ∧ ¬ (f 41 0 a2.toInt.toNat).toInt < 0 ∧ (f 41 0 a2.toInt.toNat) = a3 ∧ (0 ≤ a4.toInt ∧ a4.toInt ≤ (f 42 0 a2.toInt.toNat).toInt - 6) ∧ v = f 27 0 (5 * a1.toInt.toNat + 1) ∧ g = zup f 27 0 (5 * a1.toInt.toNat + 1) (zmk (f 43 0) (16 * a2.toInt.toNat + a4.toInt.toNat) 6)))) := by
  refine ZM.intro (by decide +kernel) (Nat.le_of_ble_eq_true rfl) ?_
  intro X C hr hn
  have hF : zFr [(27, none)] f f := zFr.rf _ _
  have J : ∀ t : Nat, (zB a1 0 7 → zB a2 0 3 → zB a3 0 2 → zB a4 0 10 → ∀ a56_5 : Int32, zB a56_5 0 0 → ∀ a56_6 : Int32, zB a56_6 0 63 → ∀ a56_7 : Int32, zB a56_7 0 63 → ∀ a56_8 : Int32, zB a56_8 0 6 → ∀ g : zM, zInv g → zFr [(27, none)] f g → (g = f) → (a56_7 = zmk (f 43 0) (16 * a2.toInt.toNat + a4.toInt.toNat) (a56_8.toInt.toNat)) → ((0 ≤ a1.toInt ∧ a1.toInt < (f 25 0 2).toInt) ∧ ((0 ≤ a2.toInt ∧ a2.toInt ≤ 3) ∧ (0 ≤ a3.toInt ∧ a3.toInt ≤ 2)) ∧ (f 41 0 a2.toInt.toNat) = a3 ∧ 0 ≤ a4.toInt ∧ a4.toInt ≤ (f 42 0 a2.toInt.toNat).toInt - 6) → (a56_6 = f 27 0 (5 * a1.toInt.toNat + 1)) → (0 + 3 * (6 - a56_8.toInt) : Int) < t → Z X 56 [some (zr 25 0), some (zi a1), some (zi a2), some (zi a3), some (zi a4), some (zi a56_5), some (zi a56_6), some (zi a56_7), some (zi a56_8)] [] g) := by
    intro t
    induction t with
    | zero =>
      intros; exfalso; omega
    | succ t ih =>
      have ih0 := ih
      intro b56_1 b56_2 b56_3 b56_4 a56_5 b56_5 a56_6 b56_6 a56_7 b56_7 a56_8 b56_8 g56_ hI56_ hF56_ hR56_0 hR56_1 hR56_2 hR56_3 hM56_
      refine z_iload (pc := 56) C dX10_shows_56 rfl ?_
      refine z_bipush (pc := 58) (v := 6) C dX10_shows_58 (by decide) ?_
      refine z_icmp_ge (pc := 60) 100 C dX10_shows_60 (by decide) (fun h60_0 => ?_) (fun h60_0 => ?_)
      · skip
        have b2x : zB a56_8 6 6 := by have q1 := b56_8; have q2 := (zB.of (x := 6) 6 (by decide)); simp only [z32lt, z32le, z32eq, Int32.reduceToInt, Int32.toInt_zero] at h60_0; constructor <;> omega
        refine z_aload_n (pc := 100) C dX10_shows_100 rfl ?_
        refine z_getR (pc := 101) C zf_X10_13 rfl rfl (by decide) dX10_shows_101 ?_
        refine z_iconst (pc := 104) (v := 5) C dX10_shows_104 (by decide) ?_
        refine z_iload_n (pc := 105) C dX10_shows_105 rfl ?_
        refine z_imul (pc := 106) C dX10_shows_106 ?_
        refine w_gp (fun v => v = (5 : Int32) * a1) rfl (fun v3 q3 => ?_)
        have e3 : v3.toInt = 5 * a1.toInt := by rw [q3]; exact (zmul_kb 5 (by decide) (by decide) b56_1 (by decide) (by decide))
        have b3x : zB v3 0 35 := zmul_bb e3 (by decide) b56_1
        refine z_iconst (pc := 107) (v := 1) C dX10_shows_107 (by decide) ?_
        refine z_iadd (pc := 108) C dX10_shows_108 ?_
        refine w_gp (fun v => v = v3 + (1 : Int32)) rfl (fun v4 q4 => ?_)
        have e4 : v4.toInt = v3.toInt + 1 := by rw [q4]; exact (zadd_eb b3x (zB.of (x := 1) 1 (by decide)) (by decide) (by decide))
        have b4x : zB v4 1 36 := by have q1 := b3x; have q2 := (zB.of (x := 1) 1 (by decide)); constructor <;> omega
        refine z_iload (pc := 109) C dX10_shows_109 rfl ?_
        have kw111_4 : v4.toNatClampNeg = v4.toInt.toNat := rfl
        refine z_iast (pc := 111) C rfl (by decide) (zIx b4x (by decide) (by decide)) dX10_shows_111 ?_
        refine w_memy hI56_ hF56_ (by rw [zrg27 (r := 1) (by have hq : v4.toNatClampNeg = v4.toInt.toNat := rfl; have hq2 := b4x; omega)]; exact b56_7) rfl (fun g5 qm5 hI5 hF5 => ?_)
        refine z_iload (pc := 112) C dX10_shows_112 rfl ?_
        exact z_iret (pc := 114) C hr dX10_shows_114 ⟨⟨_, rfl, (zB.wk (a' := (-13)) (b' := 63) b56_6 (by decide) (by decide))⟩, hI5, hF5, (by
                                                                                          intro v hv; cases hv
                                                                                          obtain ⟨k1, k2, k3, k4, k5⟩ := hR56_2
                                                                                          have hn : a56_8.toInt.toNat = 6 := by omega
                                                                                          have hx : (v4).toNatClampNeg = 5 * a1.toInt.toNat + 1 := by omega
                                                                                          refine Or.inr (Or.inr (Or.inr (Or.inr ⟨⟨k1, k2⟩, ?_, k3, ⟨k4, k5⟩, hR56_3, ?_⟩)))
                                                                                          · rw [k3]; omega
                                                                                          · rw [← hn, ← hR56_1]
                                                                                            subst qm5
                                                                                            rw [hx, hR56_0])⟩
      · skip
        have b6x : zB a56_8 0 5 := by have q1 := b56_8; have q2 := (zB.of (x := 6) 6 (by decide)); simp only [z32lt, z32le, z32eq, Int32.reduceToInt, Int32.toInt_zero] at h60_0; constructor <;> omega
        refine z_iload (pc := 63) C dX10_shows_63 rfl ?_
        refine z_aload_n (pc := 65) C dX10_shows_65 rfl ?_
        refine z_getR (pc := 66) C zf_X10_61 rfl rfl (by decide) dX10_shows_66 ?_
        refine z_bipush (pc := 69) (v := 16) C dX10_shows_69 (by decide) ?_
        refine z_iload_n (pc := 71) C dX10_shows_71 rfl ?_
        refine z_imul (pc := 72) C dX10_shows_72 ?_
        refine w_gp (fun v => v = (16 : Int32) * a2) rfl (fun v7 q7 => ?_)
        have e7 : v7.toInt = 16 * a2.toInt := by rw [q7]; exact (zmul_kb 16 (by decide) (by decide) b56_2 (by decide) (by decide))
        have b7x : zB v7 0 48 := zmul_bb e7 (by decide) b56_2
        refine z_iload (pc := 73) C dX10_shows_73 rfl ?_
        refine z_iadd (pc := 75) C dX10_shows_75 ?_
        refine w_gp (fun v => v = v7 + a4) rfl (fun v8 q8 => ?_)
        have e8 : v8.toInt = v7.toInt + a4.toInt := by rw [q8]; exact (zadd_eb b7x b56_4 (by decide) (by decide))
        have b8x : zB v8 0 58 := by have q1 := b7x; have q2 := b56_4; constructor <;> omega
        refine z_iload (pc := 76) C dX10_shows_76 rfl ?_
        refine z_iadd (pc := 78) C dX10_shows_78 ?_
        refine w_gp (fun v => v = v8 + a56_8) rfl (fun v9 q9 => ?_)
        have e9 : v9.toInt = v8.toInt + a56_8.toInt := by rw [q9]; exact (zadd_eb b8x b6x (by decide) (by decide))
        have b9x : zB v9 0 63 := by have q1 := b8x; have q2 := b6x; constructor <;> omega
        refine z_iald (pc := 79) C rfl (by decide) (zIx b9x (by decide) (by decide)) dX10_shows_79 ?_
        have kq79_9 : v9.toNatClampNeg = v9.toInt.toNat := rfl
        refine w_gp (fun v => v = g56_ 43 0 v9.toNatClampNeg) rfl (fun v10 q10 => ?_)
        have b10x : zB v10 (-2147483648) 2147483647 := by rw [q10]; exact (hI56_ 43 0 v9.toNatClampNeg)
        refine z_if_eq (pc := 80) 90 C dX10_shows_80 (by decide) (fun h80_10 => ?_) (fun h80_10 => ?_)
        · skip
          have b12x : zB v10 0 0 := by have q1 := b10x; have q2 := (zB.of (x := 0) 0 (by decide)); simp only [z32lt, z32le, z32eq, Int32.reduceToInt, Int32.toInt_zero] at h80_10; constructor <;> omega
          refine z_iconst (pc := 90) (v := 0) C dX10_shows_90 (by decide) ?_
          refine z_ior (pc := 91) C dX10_shows_91 ?_
          refine w_gp (fun v => v = a56_7 ||| (0 : Int32)) rfl (fun v13 q13 => ?_)
          have b13x : zB v13 0 63 := by rw [q13]; exact (zor_b 6 b56_7 (zB.of (x := 0) 0 (by decide)) (by decide) (by decide) (by decide) (by decide) (by decide))
          refine z_istore (pc := 92) C dX10_shows_92 (by rw [hn]; decide) rfl ?_
          refine z_iinc (pc := 94) (v := 1) C dX10_shows_94 rfl (by decide) (by rw [hn]; decide) rfl ?_
          obtain ⟨v14, hv14, e14⟩ : ∃ v : Int32, v = a56_8 + 1 ∧ v.toInt = a56_8.toInt + 1 := ⟨_, rfl, zadd_eb b6x (zB.of (x := 1) 1 (by decide)) (by decide) (by decide)⟩
          rw [← hv14]
          have b14x : zB v14 1 6 := by have q9 := b6x; constructor <;> omega
          refine z_goto (pc := 97) 56 C dX10_shows_97 (by decide) ?_
          exact ih0 b56_1 b56_2 b56_3 b56_4 a56_5 b56_5 a56_6 b56_6 v13 b13x v14 (zB.wk (a' := 0) (b' := 6) b14x (by decide) (by decide)) g56_ hI56_ hF56_ (by exact hR56_0) (by
                                                                                          have hn : (v14).toInt.toNat = a56_8.toInt.toNat + 1 := by omega
                                                                                          have hi : a56_8 = nI a56_8.toInt.toNat := (nI_ofI (by omega)).1
                                                                                          have hx : (v9).toNatClampNeg = 16 * a2.toInt.toNat + a4.toInt.toNat + a56_8.toInt.toNat := by omega
                                                                                          have hq := q10
                                                                                          rw [hx, hR56_0] at hq
                                                                                          have ho := q13
                                                                                          rw [hn, zmk, ← hR56_1, ← hi, ho]
                                                                                          congr 1
                                                                                          rw [← hq]
                                                                                          first
                                                                                            | (rw [if_pos (by assumption)]; done)
                                                                                            | (rw [if_neg (by assumption)]; subst_vars; rfl)) (by exact hR56_2) (by exact hR56_3) (by omega)
        · skip
          refine z_iconst (pc := 83) (v := 1) C dX10_shows_83 (by decide) ?_
          refine z_iload (pc := 84) C dX10_shows_84 rfl ?_
          refine z_ishl (pc := 86) C dX10_shows_86 ?_
          refine w_gp (fun v => v = (1 : Int32) <<< (a56_8 &&& 31)) rfl (fun v15 q15 => ?_)
          have b15x : zB v15 0 32 := by rw [q15]; exact (zshl_b b6x 5 (by decide) (by decide))
          refine z_goto (pc := 87) 91 C dX10_shows_87 (by decide) ?_
          refine z_ior (pc := 91) C dX10_shows_91 ?_
          refine w_gp (fun v => v = a56_7 ||| v15) rfl (fun v16 q16 => ?_)
          have b16x : zB v16 0 63 := by rw [q16]; exact (zor_b 6 b56_7 b15x (by decide) (by decide) (by decide) (by decide) (by decide))
          refine z_istore (pc := 92) C dX10_shows_92 (by rw [hn]; decide) rfl ?_
          refine z_iinc (pc := 94) (v := 1) C dX10_shows_94 rfl (by decide) (by rw [hn]; decide) rfl ?_
          obtain ⟨v17, hv17, e17⟩ : ∃ v : Int32, v = a56_8 + 1 ∧ v.toInt = a56_8.toInt + 1 := ⟨_, rfl, zadd_eb b6x (zB.of (x := 1) 1 (by decide)) (by decide) (by decide)⟩
          rw [← hv17]
          have b17x : zB v17 1 6 := by have q9 := b6x; constructor <;> omega
          refine z_goto (pc := 97) 56 C dX10_shows_97 (by decide) ?_
          exact ih0 b56_1 b56_2 b56_3 b56_4 a56_5 b56_5 a56_6 b56_6 v16 b16x v17 (zB.wk (a' := 0) (b' := 6) b17x (by decide) (by decide)) g56_ hI56_ hF56_ (by exact hR56_0) (by
                                                                                          have hn : (v17).toInt.toNat = a56_8.toInt.toNat + 1 := by omega
                                                                                          have hi : a56_8 = nI a56_8.toInt.toNat := (nI_ofI (by omega)).1
                                                                                          have hx : (v9).toNatClampNeg = 16 * a2.toInt.toNat + a4.toInt.toNat + a56_8.toInt.toNat := by omega
                                                                                          have hq := q10
                                                                                          rw [hx, hR56_0] at hq
                                                                                          have ho := q16
                                                                                          rw [hn, zmk, ← hR56_1, ← hi, ho]
                                                                                          congr 1
                                                                                          rw [← hq]
                                                                                          first
                                                                                            | (rw [if_pos (by assumption)]; done)
                                                                                            | (rw [if_neg (by assumption)]; subst_vars; rfl)) (by exact hR56_2) (by exact hR56_3) (by omega)
  have J0 := J 33
  show Z X 0 [some (zr 25 0), some (zi a1), some (zi a2), some (zi a3), some (zi a4), none, none, none, none] [] f
  refine z_aload_n (pc := 0) C dX10_shows_0 rfl ?_
  refine z_iload_n (pc := 1) C dX10_shows_1 rfl ?_
  refine z_callVb (pc := 2) C zk_X10_120 (m_X10_isDeed _ _ _ hI) rfl rfl (by decide) rfl rfl (Nat.le_of_ble_eq_true rfl) dX10_shows_2 (fun h2_17 => ?_) (fun h2_17 => ?_)
  · skip
    have b19x : zB a1 0 7 := (zltc h2_17 (hI 25 0 2).2)
    refine z_if_eq (pc := 5) 16 C dX10_shows_5 (by decide) (fun h => absurd h (by decide)) (fun _ => ?_)
    refine z_iload_n (pc := 8) C dX10_shows_8 rfl ?_
    refine z_iload_n (pc := 9) C dX10_shows_9 rfl ?_
    refine z_callSb (pc := 10) C zk_X10_268 (m_X10_isSheet _ _ _ _) rfl rfl (Nat.le_of_ble_eq_true rfl) dX10_shows_10 (fun h10_19 => ?_) (fun h10_19 => ?_)
    · skip
      have b21x : zB a2 0 3 := h10_19.1
      have b22x : zB a3 0 2 := h10_19.2
      refine z_if_ne (pc := 13) 18 C dX10_shows_13 (by decide) (fun _ => ?_) (fun h => absurd h (by decide))
      refine z_aload_n (pc := 18) C dX10_shows_18 rfl ?_
      refine z_iload_n (pc := 19) C dX10_shows_19 rfl ?_
      refine z_iload_n (pc := 20) C dX10_shows_20 rfl ?_
      refine z_iload (pc := 21) C dX10_shows_21 rfl ?_
      refine z_bipush (pc := 23) (v := 6) C dX10_shows_23 (by decide) ?_
      refine z_callV (pc := 25) C zk_X10_271 (x_X10_lacksRow _ _ a2 b21x a3 b22x a4 b4 6 (zB.wk (a' := 1) (b' := 6) (zB.of (x := 6) 6 (by decide)) (by decide) (by decide)) hI) rfl rfl (by decide) rfl rfl (Nat.le_of_ble_eq_true rfl) dX10_shows_25 (fun r23 g23 q23 => ?_)
      have qa23_6 : (6 : Int32).toInt = 6 := by decide
      obtain ⟨⟨v23, rfl, b23x⟩, hI23, hF23q, hp23_0, hp23_1⟩ := q23
      have hp23_0 := hp23_0 _ rfl
      have hp23_1 := hp23_1 _ rfl
      obtain rfl := zFr_nil hF23q
      simp only [Option.toList, List.cons_append, List.nil_append]
      refine z_istore (pc := 28) C dX10_shows_28 (by rw [hn]; decide) rfl ?_
      refine z_iload (pc := 30) C dX10_shows_30 rfl ?_
      refine z_if_ge (pc := 32) 38 C dX10_shows_32 (by decide) (fun h32_23 => ?_) (fun h32_23 => ?_)
      · skip
        have b25x : zB v23 0 0 := by have q1 := b23x; have q2 := (zB.of (x := 0) 0 (by decide)); simp only [z32lt, z32le, z32eq, Int32.reduceToInt, Int32.toInt_zero] at h32_23; constructor <;> omega
        have b26x : zB a4 0 10 := by have qc0 : (6 : Int32).toInt = 6 := (by decide); constructor <;> omega
        refine z_aload_n (pc := 38) C dX10_shows_38 rfl ?_
        refine z_getR (pc := 39) C zf_X10_13 rfl rfl (by decide) dX10_shows_39 ?_
        refine z_iconst (pc := 42) (v := 5) C dX10_shows_42 (by decide) ?_
        refine z_iload_n (pc := 43) C dX10_shows_43 rfl ?_
        refine z_imul (pc := 44) C dX10_shows_44 ?_
        refine w_gp (fun v => v = (5 : Int32) * a1) rfl (fun v27 q27 => ?_)
        have e27 : v27.toInt = 5 * a1.toInt := by rw [q27]; exact (zmul_kb 5 (by decide) (by decide) b19x (by decide) (by decide))
        have b27x : zB v27 0 35 := zmul_bb e27 (by decide) b19x
        refine z_iconst (pc := 45) (v := 1) C dX10_shows_45 (by decide) ?_
        refine z_iadd (pc := 46) C dX10_shows_46 ?_
        refine w_gp (fun v => v = v27 + (1 : Int32)) rfl (fun v28 q28 => ?_)
        have e28 : v28.toInt = v27.toInt + 1 := by rw [q28]; exact (zadd_eb b27x (zB.of (x := 1) 1 (by decide)) (by decide) (by decide))
        have b28x : zB v28 1 36 := by have q1 := b27x; have q2 := (zB.of (x := 1) 1 (by decide)); constructor <;> omega
        refine z_iald (pc := 47) C rfl (by decide) (zIx b28x (by decide) (by decide)) dX10_shows_47 ?_
        have kq47_28 : v28.toNatClampNeg = v28.toInt.toNat := rfl
        refine w_gp (fun v => v = f 27 0 v28.toNatClampNeg) rfl (fun v29 q29 => ?_)
        have b29x : zB v29 0 63 := by rw [q29]; exact (by have hq9 := hI 27 0 v28.toNatClampNeg; rw [zrg27 (r := 1) (by have hq : v28.toNatClampNeg = v28.toInt.toNat := rfl; have hq2 := b28x; omega)] at hq9; exact hq9)
        refine z_istore (pc := 48) C dX10_shows_48 (by rw [hn]; decide) rfl ?_
        refine z_iconst (pc := 50) (v := 0) C dX10_shows_50 (by decide) ?_
        refine z_istore (pc := 51) C dX10_shows_51 (by rw [hn]; decide) rfl ?_
        refine z_iconst (pc := 53) (v := 0) C dX10_shows_53 (by decide) ?_
        refine z_istore (pc := 54) C dX10_shows_54 (by rw [hn]; decide) rfl ?_
        exact J0 b19x b21x b22x b26x v23 b25x v29 b29x 0 (zB.wk (a' := 0) (b' := 63) (zB.of (x := 0) 0 (by decide)) (by decide) (by decide)) 0 (zB.wk (a' := 0) (b' := 6) (zB.of (x := 0) 0 (by decide)) (by decide) (by decide)) f hI hF (by rfl) (by rfl) (by
                                                                                          have c1 : (6 : Int32).toInt = 6 := by decide
                                                                                          have c2 : (0 : Int32).toInt = 0 := by decide
                                                                                          rcases hp23_0 with ⟨h1, h2, h3⟩ | ⟨h1, h2, h3⟩ | ⟨h1, h2, h3, h4⟩ | ⟨h1, h2, h3⟩
                                                                                          · rw [z32eq] at h3; exfalso; have : (-11 : Int32).toInt = -11 := by decide
                                                                                            omega
                                                                                          · rw [z32eq] at h3; exfalso; have : (-12 : Int32).toInt = -12 := by decide
                                                                                            omega
                                                                                          · exact ⟨by assumption, by assumption, h1, h2, by omega⟩
                                                                                          · rw [z32eq] at h3; exfalso; have : (-13 : Int32).toInt = -13 := by decide
                                                                                            omega) (by
                                                                                          have hn : (v28).toNatClampNeg = 5 * a1.toInt.toNat + 1 := by omega
                                                                                          have hq := q29
                                                                                          rw [hn] at hq
                                                                                          exact hq) (by have qc0 : (0 : Int32).toInt = 0 := (by decide); omega)
      · skip
        have b30x : zB v23 (-13) (-1) := by have q1 := b23x; have q2 := (zB.of (x := 0) 0 (by decide)); simp only [z32lt, z32le, z32eq, Int32.reduceToInt, Int32.toInt_zero] at h32_23; constructor <;> omega
        refine z_iload (pc := 35) C dX10_shows_35 rfl ?_
        exact z_iret (pc := 37) C hr dX10_shows_37 ⟨⟨_, rfl, (zB.wk (a' := (-13)) (b' := 63) b30x (by decide) (by decide))⟩, hI, hF, (by
                                                                                          intro v hv; cases hv
                                                                                          have c1 : (6 : Int32).toInt = 6 := by decide
                                                                                          have c2 : (0 : Int32).toInt = 0 := by decide
                                                                                          rcases hp23_0 with ⟨h1, h2, h3⟩ | ⟨h1, h2, h3⟩ | ⟨h1, h2, h3, h4⟩ | ⟨h1, h2, h3⟩
                                                                                          · exact Or.inr (Or.inl ⟨⟨by assumption, by assumption⟩, h2, h3, rfl⟩)
                                                                                          · exact Or.inr (Or.inr (Or.inl ⟨⟨by assumption, by assumption⟩, by omega, h1, h3, rfl⟩))
                                                                                          · rw [z32eq] at h4; exfalso; omega
                                                                                          · refine Or.inr (Or.inr (Or.inr (Or.inl ⟨⟨by assumption, by assumption⟩, ?_, h1, ?_, h3, rfl⟩)))
                                                                                            · rw [h1]; omega
                                                                                            · omega)⟩
    · skip
      refine z_if_ne (pc := 13) 18 C dX10_shows_13 (by decide) (fun h => absurd (by decide) h) (fun _ => ?_)
      refine z_iconst (pc := 16) (v := -1) C dX10_shows_16 (by decide) ?_
      exact z_iret (pc := 17) C hr dX10_shows_17 ⟨⟨_, rfl, (zB.wk (a' := (-13)) (b' := 63) (zB.of (x := (-1)) (-1) (by decide)) (by decide) (by decide))⟩, hI, hF, (by intro v hv; cases hv; exact Or.inl ⟨by omega, rfl, rfl⟩)⟩
  · skip
    refine z_if_eq (pc := 5) 16 C dX10_shows_5 (by decide) (fun _ => ?_) (fun h => absurd (by decide) h)
    refine z_iconst (pc := 16) (v := -1) C dX10_shows_16 (by decide) ?_
    exact z_iret (pc := 17) C hr dX10_shows_17 ⟨⟨_, rfl, (zB.wk (a' := (-13)) (b' := 63) (zB.of (x := (-1)) (-1) (by decide)) (by decide) (by decide))⟩, hI, hF, (by intro v hv; cases hv; exact Or.inl ⟨by omega, rfl, rfl⟩)⟩

theorem zdem_iff {x c : Int32} (hc : zB c 0 8) : (¬ x = 0 ∧ x &&& (((1 <<< (c &&& 31)) - 1) ^^^ (-1)) = 0) ↔ (1 ≤ x.toInt ∧ x.toInt ≤ ((1 <<< (c &&& 31)) - 1 : Int32).toInt) := by
  have key : ∀ (a : Fin 256) (n : Fin 9), (¬ nI a.val = 0 ∧ nI a.val &&& (((1 <<< (nI n.val &&& 31)) - 1) ^^^ (-1)) = 0) ↔ (1 ≤ (nI a.val).toInt ∧ (nI a.val).toInt ≤ ((1 <<< (nI n.val &&& 31)) - 1 : Int32).toInt) := by decide +kernel
  have top : ∀ n : Fin 9, ((1 <<< (nI n.val &&& 31)) - 1 : Int32).toInt ≤ 255 := by decide +kernel
  obtain ⟨e1, e2⟩ := nI_ofI (x := c) hc.1
  have h2 : c.toInt.toNat < 9 := by have := hc.2; omega
  generalize c.toInt.toNat = n at e1 h2
  subst e1
  by_cases hx : zB x 0 255
  · obtain ⟨f1, f2⟩ := nI_ofI (x := x) hx.1
    have h3 : x.toInt.toNat < 256 := by have := hx.2; omega
    generalize x.toInt.toNat = a at f1 h3
    subst f1
    exact key ⟨a, h3⟩ ⟨n, h2⟩
  · constructor
    · intro h
      exact absurd (zdem hc h.2) hx
    · intro h
      have t : ((1 <<< (nI n &&& 31)) - 1 : Int32).toInt ≤ 255 := top ⟨n, h2⟩
      exact absurd ⟨by omega, by have := h.2; omega⟩ hx

set_option maxRecDepth 100000 in
set_option maxHeartbeats 4000000 in
theorem x_X9_demand (d : Nat) (f : zM) (a1 : Int32) (b1 : zB a1 (-2147483648) 2147483647) (a2 : Int32) (b2 : zB a2 (-2147483648) 2147483647) (a3 : Int32) (b3 : zB a3 (-2147483648) 2147483647) (hI : zInv f) : ZM (d + 1) yX9_demand cX9_demand 4 (some .int) [zr 0 0, zi a1, zi a2, zi a3] f (fun r g => (∃ v, r = some (zi v) ∧ zB v (-3) 7) ∧ zInv g ∧ zFr [(1, some 8), (12, some 0), (12, some 1), (12, some 2)] f g ∧ (∀ v : Int32, r = some (zi v) → (¬ ((0 ≤ a1.toInt ∧ a1.toInt ≤ 5) ∧ (1 ≤ a2.toInt ∧ a2.toInt ≤ ((1 <<< (f 1 0 6 &&& 31)) - 1 : Int32).toInt) ∧ (0 ≤ a3.toInt ∧ a3.toInt ≤ 99)) ∧ v = -1 ∧ g = f) ∨ (((0 ≤ a1.toInt ∧ a1.toInt ≤ 5) ∧ (1 ≤ a2.toInt ∧ a2.toInt ≤ ((1 <<< (f 1 0 6 &&& 31)) - 1 : Int32).toInt) ∧ (0 ≤ a3.toInt ∧ a3.toInt ≤ 99)) ∧ 8 ≤ (f 1 0 8).toInt ∧ v = -3 ∧ g = f) ∨ (((0 ≤ a1.toInt ∧ a1.toInt ≤ 5) ∧ (1 ≤ a2.toInt ∧ a2.toInt ≤ ((1 <<< (f 1 0 6 &&& 31)) - 1 : Int32).toInt) ∧ (0 ≤ a3.toInt ∧ a3.toInt ≤ 99)) ∧ (f 1 0 8).toInt < 8 ∧ v = f 1 0 8 ∧ g = zup (zup (zup (zup f 12 (f 1 0 8).toInt.toNat 0 a1) 12 (f 1 0 8).toInt.toNat 1 a2) 12 (f 1 0 8).toInt.toNat 2 a3) 1 0 8 (f 1 0 8 + 1)))) := by
  refine ZM.intro (by decide +kernel) (Nat.le_of_ble_eq_true rfl) ?_
  intro X C hr hn
  have hF : zFr [(1, some 8), (12, some 0), (12, some 1), (12, some 2)] f f := zFr.rf _ _
  have ct1_0_8 : zB (f 1 0 8) 0 8 := hI 1 0 8
  show Z X 0 [some (zr 0 0), some (zi a1), some (zi a2), some (zi a3)] [] f
  refine z_iload_n (pc := 0) C dX9_demand_0 rfl ?_
  refine z_callSb (pc := 1) C zk_X9_46 (m_X9_isLand _ _ _) rfl rfl (Nat.le_of_ble_eq_true rfl) dX9_demand_1 (fun h1_0 => ?_) (fun h1_0 => ?_)
  · skip
    have b2x : zB a1 0 5 := h1_0
    refine z_if_eq (pc := 4) 32 C dX9_demand_4 (by decide) (fun h => absurd h (by decide)) (fun _ => ?_)
    refine z_iload_n (pc := 7) C dX9_demand_7 rfl ?_
    refine z_if_eq (pc := 8) 32 C dX9_demand_8 (by decide) (fun h8_2 => ?_) (fun h8_2 => ?_)
    · skip
      have b4x : zB a2 0 0 := by have q1 := b2; have q2 := (zB.of (x := 0) 0 (by decide)); simp only [z32lt, z32le, z32eq, Int32.reduceToInt, Int32.toInt_zero] at h8_2; constructor <;> omega
      refine z_iconst (pc := 32) (v := -1) C dX9_demand_32 (by decide) ?_
      exact z_iret (pc := 33) C hr dX9_demand_33 ⟨⟨_, rfl, (zB.wk (a' := (-3)) (b' := 7) (zB.of (x := (-1)) (-1) (by decide)) (by decide) (by decide))⟩, hI, hF, (by
                                                                                          intro v hv; cases hv
                                                                                          have key := zdem_iff (x := a2) (c := f 1 0 6) (hI 1 0 6)
                                                                                          refine Or.inl ⟨fun hG => ?_, rfl, rfl⟩
                                                                                          first
                                                                                            | omega
                                                                                            | exact absurd (key.mpr hG.2.1).2 (by assumption))⟩
    · skip
      refine z_iload_n (pc := 11) C dX9_demand_11 rfl ?_
      refine z_aload_n (pc := 12) C dX9_demand_12 rfl ?_
      refine z_getR (pc := 13) C zf_X9_10 rfl rfl (by decide) dX9_demand_13 ?_
      refine z_callVx (pc := 16) C zk_X9_252 (m_X8_allDeeds _ _ 0 (by decide)) rfl rfl (by decide) rfl rfl (Nat.le_of_ble_eq_true rfl) dX9_demand_16 ?_
      simp only [Option.toList, List.cons_append, List.nil_append]
      refine z_iconst (pc := 19) (v := -1) C dX9_demand_19 (by decide) ?_
      refine z_ixor (pc := 20) C dX9_demand_20 ?_
      refine z_iand (pc := 21) C dX9_demand_21 ?_
      refine z_if_ne (pc := 22) 32 C dX9_demand_22 (by decide) (fun h22 => ?_) (fun h22 => ?_)
      · skip
        refine z_iconst (pc := 32) (v := -1) C dX9_demand_32 (by decide) ?_
        exact z_iret (pc := 33) C hr dX9_demand_33 ⟨⟨_, rfl, (zB.wk (a' := (-3)) (b' := 7) (zB.of (x := (-1)) (-1) (by decide)) (by decide) (by decide))⟩, hI, hF, (by
                                                                                          intro v hv; cases hv
                                                                                          have key := zdem_iff (x := a2) (c := f 1 0 6) (hI 1 0 6)
                                                                                          refine Or.inl ⟨fun hG => ?_, rfl, rfl⟩
                                                                                          first
                                                                                            | omega
                                                                                            | exact absurd (key.mpr hG.2.1).2 (by assumption))⟩
      · skip
        have bdem : zB a2 0 255 := zdem (hI 1 0 6) h22
        refine z_iload_n (pc := 25) C dX9_demand_25 rfl ?_
        refine z_callSb (pc := 26) C zk_X9_68 (m_X9_isYear _ _ _) rfl rfl (Nat.le_of_ble_eq_true rfl) dX9_demand_26 (fun h26_4 => ?_) (fun h26_4 => ?_)
        · skip
          have b6x : zB a3 0 99 := h26_4
          refine z_if_ne (pc := 29) 34 C dX9_demand_29 (by decide) (fun _ => ?_) (fun h => absurd h (by decide))
          refine z_aload_n (pc := 34) C dX9_demand_34 rfl ?_
          refine z_getR (pc := 35) C zf_X9_10 rfl rfl (by decide) dX9_demand_35 ?_
          refine z_getI (pc := 38) C zf_X9_217 rfl rfl (by decide) dX9_demand_38 ?_
          refine w_gp (fun v => v = f 1 0 8) rfl (fun v7 q7 => ?_)
          have e7 : v7.toInt = (f 1 0 8).toInt := by rw [q7]
          have b7x : zB v7 0 8 := by first | exact zB.eqv e7 ct1_0_8 | (have q9 := ct1_0_8; constructor <;> omega)
          refine z_bipush (pc := 41) (v := 8) C dX9_demand_41 (by decide) ?_
          refine z_icmp_lt (pc := 43) 49 C dX9_demand_43 (by decide) (fun h43_7 => ?_) (fun h43_7 => ?_)
          · skip
            have b9x : zB v7 0 7 := by have q1 := b7x; have q2 := (zB.of (x := 8) 8 (by decide)); simp only [z32lt, z32le, z32eq, Int32.reduceToInt, Int32.toInt_zero] at h43_7; constructor <;> omega
            have c10x : zB (f 1 0 8) 0 7 := by first | assumption | (constructor <;> omega)
            refine z_aload_n (pc := 49) C dX9_demand_49 rfl ?_
            refine z_getR (pc := 50) C zf_X9_10 rfl rfl (by decide) dX9_demand_50 ?_
            refine z_getR (pc := 53) C zf_X9_300 rfl rfl (by decide) dX9_demand_53 ?_
            refine z_aload_n (pc := 56) C dX9_demand_56 rfl ?_
            refine z_getR (pc := 57) C zf_X9_10 rfl rfl (by decide) dX9_demand_57 ?_
            refine z_getI (pc := 60) C zf_X9_217 rfl rfl (by decide) dX9_demand_60 ?_
            refine w_gp (fun v => v = f 1 0 8) rfl (fun v11 q11 => ?_)
            have e11 : v11.toInt = (f 1 0 8).toInt := by rw [q11]
            have b11x : zB v11 0 7 := by first | exact zB.eqv e11 c10x | (have q9 := c10x; constructor <;> omega)
            refine z_aald (pc := 63) C rfl ⟨rfl, by decide⟩ (by decide) (zIx b11x (by decide) (by decide)) dX9_demand_63 ?_
            refine w_grx (by have hq := zN b11x (by decide); show 8 * 0 + v11.toNatClampNeg < 16; omega) (fun m12 q12r h12x => ?_)
            have q12r : m12 = 8 * 0 + v11.toNatClampNeg := q12r
            have k12r : v11.toNatClampNeg = v11.toInt.toNat := rfl
            refine z_iload_n (pc := 64) C dX9_demand_64 rfl ?_
            refine z_iload_n (pc := 65) C dX9_demand_65 rfl ?_
            refine z_iload_n (pc := 66) C dX9_demand_66 rfl ?_
            refine z_callV (pc := 67) C zk_X9_304 (x_X2_tell _ _ m12 h12x a1 b2x a2 bdem a3 b6x hI) rfl rfl h12x rfl rfl (Nat.le_of_ble_eq_true rfl) dX9_demand_67 (fun r13 g13 q13 => ?_)
            obtain ⟨rfl, hI13, hF13q, hp13_0⟩ := q13
            have hF13 := zFr.tr hF hF13q (by decide)
            simp only [Option.toList, List.cons_append, List.nil_append]
            have ek13_1_0_8 : (g13 1 0 8).toInt = (f 1 0 8).toInt := by rw [hF13q 1 0 8 rfl]
            have c13_1_0_8x : zB (g13 1 0 8) 0 7 := by first | exact zB.eqv ek13_1_0_8 c10x | (have q9 := c10x; constructor <;> omega)
            refine z_aload_n (pc := 70) C dX9_demand_70 rfl ?_
            refine z_getR (pc := 71) C zf_X9_10 rfl rfl (by decide) dX9_demand_71 ?_
            refine z_dupr (pc := 74) C dX9_demand_74 ?_
            refine z_getI (pc := 75) C zf_X9_217 rfl rfl (by decide) dX9_demand_75 ?_
            refine w_gp (fun v => v = g13 1 0 8) rfl (fun v14 q14 => ?_)
            have e14 : v14.toInt = (g13 1 0 8).toInt := by rw [q14]
            have b14x : zB v14 0 7 := by first | exact zB.eqv e14 c13_1_0_8x | (have q9 := c13_1_0_8x; constructor <;> omega)
            refine z_iconst (pc := 78) (v := 1) C dX9_demand_78 (by decide) ?_
            refine z_iadd (pc := 79) C dX9_demand_79 ?_
            refine w_gp (fun v => v = v14 + (1 : Int32)) rfl (fun v15 q15 => ?_)
            have e15 : v15.toInt = v14.toInt + 1 := by rw [q15]; exact (zadd_eb b14x (zB.of (x := 1) 1 (by decide)) (by decide) (by decide))
            have b15x : zB v15 1 8 := by have q1 := b14x; have q2 := (zB.of (x := 1) 1 (by decide)); constructor <;> omega
            refine z_putI (pc := 80) C zf_X9_217 zp_8_8 rfl rfl (by decide) dX9_demand_80 ?_
            refine w_memx hI13 hF13 (zB.wk (a' := 0) (b' := 8) b15x (by decide) (by decide)) rfl (fun g16 qm16 hI16 hF16 hq16 hx16 => ?_)
            have ec16 : (g16 1 0 8).toInt = v15.toInt := by rw [hx16]
            have c16x : zB (g16 1 0 8) 1 8 := by first | exact zB.eqv ec16 b15x | (have q9 := b15x; constructor <;> omega)
            refine z_aload_n (pc := 83) C dX9_demand_83 rfl ?_
            refine z_getR (pc := 84) C zf_X9_10 rfl rfl (by decide) dX9_demand_84 ?_
            refine z_getI (pc := 87) C zf_X9_217 rfl rfl (by decide) dX9_demand_87 ?_
            refine w_gp (fun v => v = g16 1 0 8) rfl (fun v17 q17 => ?_)
            have e17 : v17.toInt = (g16 1 0 8).toInt := by rw [q17]
            have b17x : zB v17 1 8 := by first | exact zB.eqv e17 c16x | (have q9 := c16x; constructor <;> omega)
            refine z_iconst (pc := 90) (v := 1) C dX9_demand_90 (by decide) ?_
            refine z_isub (pc := 91) C dX9_demand_91 ?_
            refine w_gp (fun v => v = v17 - (1 : Int32)) rfl (fun v18 q18 => ?_)
            have e18 : v18.toInt = v17.toInt - 1 := by rw [q18]; exact (zsub_eb b17x (zB.of (x := 1) 1 (by decide)) (by decide) (by decide))
            have b18x : zB v18 0 7 := by have q1 := b17x; have q2 := (zB.of (x := 1) 1 (by decide)); constructor <;> omega
            exact z_iret (pc := 92) C hr dX9_demand_92 ⟨⟨_, rfl, (zB.wk (a' := (-3)) (b' := 7) b18x (by decide) (by decide))⟩, hI16, hF16, (by
                                                                                          intro v hv; cases hv
                                                                                          have key := zdem_iff (x := a2) (c := f 1 0 6) (hI 1 0 6)
                                                                                          have hn : m12 = (f 1 0 8).toInt.toNat := by omega
                                                                                          have hg := hp13_0
                                                                                          refine Or.inr (Or.inr ⟨⟨by assumption, key.mp ⟨by assumption, by assumption⟩, by assumption⟩, by omega, ?_, ?_⟩)
                                                                                          · rw [z32eq]; omega
                                                                                          · have e1 : g13 1 0 8 = f 1 0 8 := hF13q 1 0 8 rfl
                                                                                            rw [← hn, ← hg]
                                                                                            subst qm16
                                                                                            congr 1
                                                                                            rw [z32eq]
                                                                                            have e2 : ((f 1 0 8) + 1 : Int32).toInt = (f 1 0 8).toInt + 1 := zadd_eb (x := f 1 0 8) (hI 1 0 8) (zB.of (x := 1) 1 (by decide)) (by decide) (by decide)
                                                                                            omega)⟩
          · skip
            have b19x : zB v7 8 8 := by have q1 := b7x; have q2 := (zB.of (x := 8) 8 (by decide)); simp only [z32lt, z32le, z32eq, Int32.reduceToInt, Int32.toInt_zero] at h43_7; constructor <;> omega
            have c20x : zB (f 1 0 8) 8 8 := by first | assumption | (constructor <;> omega)
            refine z_bipush (pc := 46) (v := -3) C dX9_demand_46 (by decide) ?_
            exact z_iret (pc := 48) C hr dX9_demand_48 ⟨⟨_, rfl, (zB.wk (a' := (-3)) (b' := 7) (zB.of (x := (-3)) (-3) (by decide)) (by decide) (by decide))⟩, hI, hF, (by
                                                                                          intro v hv; cases hv
                                                                                          have key := zdem_iff (x := a2) (c := f 1 0 6) (hI 1 0 6)
                                                                                          exact Or.inr (Or.inl ⟨⟨by assumption, key.mp ⟨by assumption, by assumption⟩, by assumption⟩, by omega, rfl, rfl⟩))⟩
        · skip
          refine z_if_ne (pc := 29) 34 C dX9_demand_29 (by decide) (fun h => absurd (by decide) h) (fun _ => ?_)
          refine z_iconst (pc := 32) (v := -1) C dX9_demand_32 (by decide) ?_
          exact z_iret (pc := 33) C hr dX9_demand_33 ⟨⟨_, rfl, (zB.wk (a' := (-3)) (b' := 7) (zB.of (x := (-1)) (-1) (by decide)) (by decide) (by decide))⟩, hI, hF, (by
                                                                                          intro v hv; cases hv
                                                                                          have key := zdem_iff (x := a2) (c := f 1 0 6) (hI 1 0 6)
                                                                                          refine Or.inl ⟨fun hG => ?_, rfl, rfl⟩
                                                                                          first
                                                                                            | omega
                                                                                            | exact absurd (key.mpr hG.2.1).2 (by assumption))⟩
  · skip
    refine z_if_eq (pc := 4) 32 C dX9_demand_4 (by decide) (fun _ => ?_) (fun h => absurd (by decide) h)
    refine z_iconst (pc := 32) (v := -1) C dX9_demand_32 (by decide) ?_
    exact z_iret (pc := 33) C hr dX9_demand_33 ⟨⟨_, rfl, (zB.wk (a' := (-3)) (b' := 7) (zB.of (x := (-1)) (-1) (by decide)) (by decide) (by decide))⟩, hI, hF, (by
                                                                                          intro v hv; cases hv
                                                                                          have key := zdem_iff (x := a2) (c := f 1 0 6) (hI 1 0 6)
                                                                                          refine Or.inl ⟨fun hG => ?_, rfl, rfl⟩
                                                                                          first
                                                                                            | omega
                                                                                            | exact absurd (key.mpr hG.2.1).2 (by assumption))⟩

set_option maxRecDepth 100000 in
set_option maxHeartbeats 4000000 in
theorem x_X10_allDeeds (d : Nat) (f : zM)  (hI : zInv f) : ZM d yX10_allDeeds cX10_allDeeds 1 (some .int) [zr 25 0] f (fun r g => (∃ v, r = some (zi v) ∧ zB v (-1) 255) ∧ zInv g ∧ zFr [] f g ∧ (∀ v : Int32, r = some (zi v) → v = (1 <<< (f 25 0 2 &&& 31)) - 1)) := by
  refine ZM.intro (by decide +kernel) (Nat.le_of_ble_eq_true rfl) ?_
  intro X C hr hn
  have hF : zFr [] f f := zFr.rf _ _
  show Z X 0 [some (zr 25 0)] [] f
  refine z_iconst (pc := 0) (v := 1) C dX10_allDeeds_0 (by decide) ?_
  refine z_aload_n (pc := 1) C dX10_allDeeds_1 rfl ?_
  refine z_getI (pc := 2) C zf_X10_73 rfl rfl (by decide) dX10_allDeeds_2 ?_
  refine w_gp (fun v => v = f 25 0 2) rfl (fun v2 q2 => ?_)
  have b2x : zB v2 0 8 := by rw [q2]; exact (hI 25 0 2)
  refine z_ishl (pc := 5) C dX10_allDeeds_5 ?_
  refine w_gp (fun v => v = (1 : Int32) <<< (v2 &&& 31)) rfl (fun v3 q3 => ?_)
  have b3x : zB v3 0 256 := by rw [q3]; exact (zshl_b b2x 8 (by decide) (by decide))
  refine z_iconst (pc := 6) (v := 1) C dX10_allDeeds_6 (by decide) ?_
  refine z_isub (pc := 7) C dX10_allDeeds_7 ?_
  refine w_gp (fun v => v = v3 - (1 : Int32)) rfl (fun v4 q4 => ?_)
  have e4 : v4.toInt = v3.toInt - 1 := by rw [q4]; exact (zsub_eb b3x (zB.of (x := 1) 1 (by decide)) (by decide) (by decide))
  have b4x : zB v4 (-1) 255 := by have q1 := b3x; have q2 := (zB.of (x := 1) 1 (by decide)); constructor <;> omega
  exact z_iret (pc := 8) C hr dX10_allDeeds_8 ⟨⟨_, rfl, b4x⟩, hI, hF, (by intro v hv; cases hv; subst_vars; rfl)⟩

set_option maxRecDepth 100000 in
set_option maxHeartbeats 4000000 in
theorem x_X10_demand (d : Nat) (f : zM) (a1 : Int32) (b1 : zB a1 (-2147483648) 2147483647) (a2 : Int32) (b2 : zB a2 (-2147483648) 2147483647) (a3 : Int32) (b3 : zB a3 (-2147483648) 2147483647) (hI : zInv f) : ZM (d + 2) yX10_demand cX10_demand 4 (some .int) [zr 25 0, zi a1, zi a2, zi a3] f (fun r g => (∃ v, r = some (zi v) ∧ zB v (-3) 7) ∧ zInv g ∧ zFr [(25, some 6), (29, none)] f g ∧ (∀ v : Int32, r = some (zi v) → (¬ ((0 ≤ a1.toInt ∧ a1.toInt ≤ 5) ∧ (1 ≤ a2.toInt ∧ a2.toInt ≤ ((1 <<< (f 25 0 2 &&& 31)) - 1 : Int32).toInt) ∧ (0 ≤ a3.toInt ∧ a3.toInt ≤ 99)) ∧ v = -1 ∧ g = f) ∨ (((0 ≤ a1.toInt ∧ a1.toInt ≤ 5) ∧ (1 ≤ a2.toInt ∧ a2.toInt ≤ ((1 <<< (f 25 0 2 &&& 31)) - 1 : Int32).toInt) ∧ (0 ≤ a3.toInt ∧ a3.toInt ≤ 99)) ∧ 8 ≤ (f 25 0 6).toInt ∧ v = -3 ∧ g = f) ∨ (((0 ≤ a1.toInt ∧ a1.toInt ≤ 5) ∧ (1 ≤ a2.toInt ∧ a2.toInt ≤ ((1 <<< (f 25 0 2 &&& 31)) - 1 : Int32).toInt) ∧ (0 ≤ a3.toInt ∧ a3.toInt ≤ 99)) ∧ (f 25 0 6).toInt < 8 ∧ v = f 25 0 6 ∧ g 25 0 6 = f 25 0 6 + 1 ∧ g 29 0 (3 * (f 25 0 6).toInt.toNat) = a1 ∧ g 29 0 (3 * (f 25 0 6).toInt.toNat + 1) = a2 ∧ g 29 0 (3 * (f 25 0 6).toInt.toNat + 2) = a3 ∧ (∀ q, (q < 3 * (f 25 0 6).toInt.toNat ∨ 3 * (f 25 0 6).toInt.toNat + 3 ≤ q) → g 29 0 q = f 29 0 q)))) := by
  refine ZM.intro (by decide +kernel) (Nat.le_of_ble_eq_true rfl) ?_
  intro X C hr hn
  have hF : zFr [(25, some 6), (29, none)] f f := zFr.rf _ _
  have ct25_0_6 : zB (f 25 0 6) 0 8 := hI 25 0 6
  show Z X 0 [some (zr 25 0), some (zi a1), some (zi a2), some (zi a3)] [] f
  refine z_iload_n (pc := 0) C dX10_demand_0 rfl ?_
  refine z_callSb (pc := 1) C zk_X10_83 (m_X10_isLand _ _ _) rfl rfl (Nat.le_of_ble_eq_true rfl) dX10_demand_1 (fun h1_0 => ?_) (fun h1_0 => ?_)
  · skip
    have b2x : zB a1 0 5 := h1_0
    refine z_if_eq (pc := 4) 33 C dX10_demand_4 (by decide) (fun h => absurd h (by decide)) (fun _ => ?_)
    refine z_iload_n (pc := 7) C dX10_demand_7 rfl ?_
    refine z_i2l (pc := 8) C dX10_demand_8 ?_
    refine z_lconst (pc := 9) (v := 1) C dX10_demand_9 (by decide) ?_
    refine z_aload_n (pc := 10) C dX10_demand_10 rfl ?_
    refine z_callV (pc := 11) C zk_X10_131 (x_X10_allDeeds _ _  hI) rfl rfl (by decide) rfl rfl (Nat.le_of_ble_eq_true rfl) dX10_demand_11 (fun r3 g3 q3 => ?_)
    obtain ⟨⟨v3, rfl, b3x⟩, hI3, hF3q, hp3_0⟩ := q3
    have hp3_0 := hp3_0 _ rfl
    obtain rfl := zFr_nil hF3q
    simp only [Option.toList, List.cons_append, List.nil_append]
    refine z_i2l (pc := 14) C dX10_demand_14 ?_
    refine z_callSb (pc := 15) C zk_X10_69 (m_X10_in _ _ _ _ _) rfl rfl (Nat.le_of_ble_eq_true rfl) dX10_demand_15 (fun h15_3 => ?_) (fun h15_3 => ?_)
    · skip
      have hc15_1 : (1 ≤ a2.toInt ∧ a2.toInt ≤ v3.toInt) := by have q9 := h15_3; simp only [z64] at q9; exact q9
      have b5x : zB a2 1 255 := zin64v h15_3 rfl b3x
      have b5xr := zin64r h15_3
      refine z_if_eq (pc := 18) 33 C dX10_demand_18 (by decide) (fun h => absurd h (by decide)) (fun _ => ?_)
      refine z_iload_n (pc := 21) C dX10_demand_21 rfl ?_
      refine z_i2l (pc := 22) C dX10_demand_22 ?_
      refine z_lconst (pc := 23) (v := 0) C dX10_demand_23 (by decide) ?_
      refine z_ldc2 (pc := 24) C zw_1137 dX10_demand_24 ?_
      refine z_callSb (pc := 27) C zk_X10_69 (m_X10_in _ _ _ _ _) rfl rfl (Nat.le_of_ble_eq_true rfl) dX10_demand_27 (fun h27_5 => ?_) (fun h27_5 => ?_)
      · skip
        have hc27_1 : (0 ≤ a3.toInt ∧ a3.toInt ≤ 99) := by have q9 := h27_5; simp only [z64] at q9; exact q9
        have b7x : zB a3 0 99 := zin64 h27_5 rfl rfl
        refine z_if_ne (pc := 30) 35 C dX10_demand_30 (by decide) (fun _ => ?_) (fun h => absurd h (by decide))
        refine z_aload_n (pc := 35) C dX10_demand_35 rfl ?_
        refine z_getI (pc := 36) C zf_X10_126 rfl rfl (by decide) dX10_demand_36 ?_
        refine w_gp (fun v => v = f 25 0 6) rfl (fun v8 q8 => ?_)
        have e8 : v8.toInt = (f 25 0 6).toInt := by rw [q8]
        have b8x : zB v8 0 8 := by first | exact zB.eqv e8 ct25_0_6 | (have q9 := ct25_0_6; constructor <;> omega)
        refine z_bipush (pc := 39) (v := 8) C dX10_demand_39 (by decide) ?_
        refine z_icmp_ne (pc := 41) 47 C dX10_demand_41 (by decide) (fun h41_8 => ?_) (fun h41_8 => ?_)
        · skip
          have b10x : zB v8 0 7 := by have q1 := b8x; have q2 := (zB.of (x := 8) 8 (by decide)); simp only [z32lt, z32le, z32eq, Int32.reduceToInt, Int32.toInt_zero] at h41_8; constructor <;> omega
          have c11x : zB (f 25 0 6) 0 7 := by first | assumption | (constructor <;> omega)
          refine z_aload_n (pc := 47) C dX10_demand_47 rfl ?_
          refine z_getR (pc := 48) C zf_X10_19 rfl rfl (by decide) dX10_demand_48 ?_
          refine z_iconst (pc := 51) (v := 3) C dX10_demand_51 (by decide) ?_
          refine z_aload_n (pc := 52) C dX10_demand_52 rfl ?_
          refine z_getI (pc := 53) C zf_X10_126 rfl rfl (by decide) dX10_demand_53 ?_
          refine w_gp (fun v => v = f 25 0 6) rfl (fun v12 q12 => ?_)
          have e12 : v12.toInt = (f 25 0 6).toInt := by rw [q12]
          have b12x : zB v12 0 7 := by first | exact zB.eqv e12 c11x | (have q9 := c11x; constructor <;> omega)
          refine z_imul (pc := 56) C dX10_demand_56 ?_
          refine w_gp (fun v => v = (3 : Int32) * v12) rfl (fun v13 q13 => ?_)
          have e13 : v13.toInt = 3 * v12.toInt := by rw [q13]; exact (zmul_kb 3 (by decide) (by decide) b12x (by decide) (by decide))
          have b13x : zB v13 0 21 := zmul_bb e13 (by decide) b12x
          refine z_iload_n (pc := 57) C dX10_demand_57 rfl ?_
          have kw58_13 : v13.toNatClampNeg = v13.toInt.toNat := rfl
          refine z_iast (pc := 58) C rfl (by decide) (zIx b13x (by decide) (by decide)) dX10_demand_58 ?_
          refine w_memx hI hF (by rw [zrg29 (r := 0) (by have hq : v13.toNatClampNeg = v13.toInt.toNat := rfl; have hq2 := b13x; omega)]; exact b2x) rfl (fun g14 qm14 hI14 hF14 hq14 hx14 => ?_)
          have ek14_25_0_6 : (g14 25 0 6).toInt = (f 25 0 6).toInt := by rw [hq14 25 0 6 (by omega)]
          have c14_25_0_6x : zB (g14 25 0 6) 0 7 := by first | exact zB.eqv ek14_25_0_6 c11x | (have q9 := c11x; constructor <;> omega)
          refine z_aload_n (pc := 59) C dX10_demand_59 rfl ?_
          refine z_getR (pc := 60) C zf_X10_19 rfl rfl (by decide) dX10_demand_60 ?_
          refine z_iconst (pc := 63) (v := 3) C dX10_demand_63 (by decide) ?_
          refine z_aload_n (pc := 64) C dX10_demand_64 rfl ?_
          refine z_getI (pc := 65) C zf_X10_126 rfl rfl (by decide) dX10_demand_65 ?_
          refine w_gp (fun v => v = g14 25 0 6) rfl (fun v15 q15 => ?_)
          have e15 : v15.toInt = (g14 25 0 6).toInt := by rw [q15]
          have b15x : zB v15 0 7 := by first | exact zB.eqv e15 c14_25_0_6x | (have q9 := c14_25_0_6x; constructor <;> omega)
          refine z_imul (pc := 68) C dX10_demand_68 ?_
          refine w_gp (fun v => v = (3 : Int32) * v15) rfl (fun v16 q16 => ?_)
          have e16 : v16.toInt = 3 * v15.toInt := by rw [q16]; exact (zmul_kb 3 (by decide) (by decide) b15x (by decide) (by decide))
          have b16x : zB v16 0 21 := zmul_bb e16 (by decide) b15x
          refine z_iconst (pc := 69) (v := 1) C dX10_demand_69 (by decide) ?_
          refine z_iadd (pc := 70) C dX10_demand_70 ?_
          refine w_gp (fun v => v = v16 + (1 : Int32)) rfl (fun v17 q17 => ?_)
          have e17 : v17.toInt = v16.toInt + 1 := by rw [q17]; exact (zadd_eb b16x (zB.of (x := 1) 1 (by decide)) (by decide) (by decide))
          have b17x : zB v17 1 22 := by have q1 := b16x; have q2 := (zB.of (x := 1) 1 (by decide)); constructor <;> omega
          refine z_iload_n (pc := 71) C dX10_demand_71 rfl ?_
          have kw72_17 : v17.toNatClampNeg = v17.toInt.toNat := rfl
          refine z_iast (pc := 72) C rfl (by decide) (zIx b17x (by decide) (by decide)) dX10_demand_72 ?_
          refine w_memx hI14 hF14 (by rw [zrg29 (r := 1) (by have hq : v17.toNatClampNeg = v17.toInt.toNat := rfl; have hq2 := b17x; omega)]; exact (zB.wk (a' := 0) (b' := 255) b5x (by decide) (by decide))) rfl (fun g18 qm18 hI18 hF18 hq18 hx18 => ?_)
          have ek18_25_0_6 : (g18 25 0 6).toInt = (g14 25 0 6).toInt := by rw [hq18 25 0 6 (by omega)]
          have c18_25_0_6x : zB (g18 25 0 6) 0 7 := by first | exact zB.eqv ek18_25_0_6 c14_25_0_6x | (have q9 := c14_25_0_6x; constructor <;> omega)
          refine z_aload_n (pc := 73) C dX10_demand_73 rfl ?_
          refine z_getR (pc := 74) C zf_X10_19 rfl rfl (by decide) dX10_demand_74 ?_
          refine z_iconst (pc := 77) (v := 3) C dX10_demand_77 (by decide) ?_
          refine z_aload_n (pc := 78) C dX10_demand_78 rfl ?_
          refine z_getI (pc := 79) C zf_X10_126 rfl rfl (by decide) dX10_demand_79 ?_
          refine w_gp (fun v => v = g18 25 0 6) rfl (fun v19 q19 => ?_)
          have e19 : v19.toInt = (g18 25 0 6).toInt := by rw [q19]
          have b19x : zB v19 0 7 := by first | exact zB.eqv e19 c18_25_0_6x | (have q9 := c18_25_0_6x; constructor <;> omega)
          refine z_imul (pc := 82) C dX10_demand_82 ?_
          refine w_gp (fun v => v = (3 : Int32) * v19) rfl (fun v20 q20 => ?_)
          have e20 : v20.toInt = 3 * v19.toInt := by rw [q20]; exact (zmul_kb 3 (by decide) (by decide) b19x (by decide) (by decide))
          have b20x : zB v20 0 21 := zmul_bb e20 (by decide) b19x
          refine z_iconst (pc := 83) (v := 2) C dX10_demand_83 (by decide) ?_
          refine z_iadd (pc := 84) C dX10_demand_84 ?_
          refine w_gp (fun v => v = v20 + (2 : Int32)) rfl (fun v21 q21 => ?_)
          have e21 : v21.toInt = v20.toInt + 2 := by rw [q21]; exact (zadd_eb b20x (zB.of (x := 2) 2 (by decide)) (by decide) (by decide))
          have b21x : zB v21 2 23 := by have q1 := b20x; have q2 := (zB.of (x := 2) 2 (by decide)); constructor <;> omega
          refine z_iload_n (pc := 85) C dX10_demand_85 rfl ?_
          have kw86_21 : v21.toNatClampNeg = v21.toInt.toNat := rfl
          refine z_iast (pc := 86) C rfl (by decide) (zIx b21x (by decide) (by decide)) dX10_demand_86 ?_
          refine w_memx hI18 hF18 (by rw [zrg29 (r := 2) (by have hq : v21.toNatClampNeg = v21.toInt.toNat := rfl; have hq2 := b21x; omega)]; exact b7x) rfl (fun g22 qm22 hI22 hF22 hq22 hx22 => ?_)
          have ek22_25_0_6 : (g22 25 0 6).toInt = (g18 25 0 6).toInt := by rw [hq22 25 0 6 (by omega)]
          have c22_25_0_6x : zB (g22 25 0 6) 0 7 := by first | exact zB.eqv ek22_25_0_6 c18_25_0_6x | (have q9 := c18_25_0_6x; constructor <;> omega)
          refine z_aload_n (pc := 87) C dX10_demand_87 rfl ?_
          refine z_dupr (pc := 88) C dX10_demand_88 ?_
          refine z_getI (pc := 89) C zf_X10_126 rfl rfl (by decide) dX10_demand_89 ?_
          refine w_gp (fun v => v = g22 25 0 6) rfl (fun v23 q23 => ?_)
          have e23 : v23.toInt = (g22 25 0 6).toInt := by rw [q23]
          have b23x : zB v23 0 7 := by first | exact zB.eqv e23 c22_25_0_6x | (have q9 := c22_25_0_6x; constructor <;> omega)
          refine z_iconst (pc := 92) (v := 1) C dX10_demand_92 (by decide) ?_
          refine z_iadd (pc := 93) C dX10_demand_93 ?_
          refine w_gp (fun v => v = v23 + (1 : Int32)) rfl (fun v24 q24 => ?_)
          have e24 : v24.toInt = v23.toInt + 1 := by rw [q24]; exact (zadd_eb b23x (zB.of (x := 1) 1 (by decide)) (by decide) (by decide))
          have b24x : zB v24 1 8 := by have q1 := b23x; have q2 := (zB.of (x := 1) 1 (by decide)); constructor <;> omega
          refine z_putI (pc := 94) C zf_X10_126 zp_10_6 rfl rfl (by decide) dX10_demand_94 ?_
          refine w_memx hI22 hF22 (zB.wk (a' := 0) (b' := 8) b24x (by decide) (by decide)) rfl (fun g25 qm25 hI25 hF25 hq25 hx25 => ?_)
          have ec25 : (g25 25 0 6).toInt = v24.toInt := by rw [hx25]
          have c25x : zB (g25 25 0 6) 1 8 := by first | exact zB.eqv ec25 b24x | (have q9 := b24x; constructor <;> omega)
          refine z_aload_n (pc := 97) C dX10_demand_97 rfl ?_
          refine z_getI (pc := 98) C zf_X10_126 rfl rfl (by decide) dX10_demand_98 ?_
          refine w_gp (fun v => v = g25 25 0 6) rfl (fun v26 q26 => ?_)
          have e26 : v26.toInt = (g25 25 0 6).toInt := by rw [q26]
          have b26x : zB v26 1 8 := by first | exact zB.eqv e26 c25x | (have q9 := c25x; constructor <;> omega)
          refine z_iconst (pc := 101) (v := 1) C dX10_demand_101 (by decide) ?_
          refine z_isub (pc := 102) C dX10_demand_102 ?_
          refine w_gp (fun v => v = v26 - (1 : Int32)) rfl (fun v27 q27 => ?_)
          have e27 : v27.toInt = v26.toInt - 1 := by rw [q27]; exact (zsub_eb b26x (zB.of (x := 1) 1 (by decide)) (by decide) (by decide))
          have b27x : zB v27 0 7 := by have q1 := b26x; have q2 := (zB.of (x := 1) 1 (by decide)); constructor <;> omega
          exact z_iret (pc := 103) C hr dX10_demand_103 ⟨⟨_, rfl, (zB.wk (a' := (-3)) (b' := 7) b27x (by decide) (by decide))⟩, hI25, hF25, (by
                                                                                          intro v hv; cases hv
                                                                                          have e1 : ((f 25 0 6) + 1 : Int32).toInt = (f 25 0 6).toInt + 1 := zadd_eb (x := f 25 0 6) (hI 25 0 6) (zB.of (x := 1) 1 (by decide)) (by decide) (by decide)
                                                                                          refine Or.inr (Or.inr ⟨?_, by omega, ?_, ?_, ?_, ?_, ?_, ?_⟩)
                                                                                          · have q9 := hp3_0
                                                                                            rw [← q9]
                                                                                            omega
                                                                                          · rw [z32eq]; omega
                                                                                          · rw [z32eq]; omega
                                                                                          · subst qm25 qm22 qm18 qm14
                                                                                            rw [zup_ne _ _ (by omega), zup_ne _ _ (by omega), zup_ne _ _ (by omega), show 3 * (f 25 0 6).toInt.toNat = (v13).toNatClampNeg by omega]
                                                                                            exact zup_same _ _ _ _ _
                                                                                          · subst qm25 qm22 qm18 qm14
                                                                                            rw [zup_ne _ _ (by omega), zup_ne _ _ (by omega), show 3 * (f 25 0 6).toInt.toNat + 1 = (v17).toNatClampNeg by omega]
                                                                                            exact zup_same _ _ _ _ _
                                                                                          · subst qm25 qm22 qm18 qm14
                                                                                            rw [zup_ne _ _ (by omega), show 3 * (f 25 0 6).toInt.toNat + 2 = (v21).toNatClampNeg by omega]
                                                                                            exact zup_same _ _ _ _ _
                                                                                          · intro q hq
                                                                                            subst qm25 qm22 qm18 qm14
                                                                                            rw [zup_ne _ _ (by omega), zup_ne _ _ (by omega), zup_ne _ _ (by omega), zup_ne _ _ (by omega)])⟩
        · skip
          have b28x : zB v8 8 8 := by have q1 := b8x; have q2 := (zB.of (x := 8) 8 (by decide)); simp only [z32lt, z32le, z32eq, Int32.reduceToInt, Int32.toInt_zero] at h41_8; constructor <;> omega
          have c29x : zB (f 25 0 6) 8 8 := by first | assumption | (constructor <;> omega)
          refine z_bipush (pc := 44) (v := -3) C dX10_demand_44 (by decide) ?_
          exact z_iret (pc := 46) C hr dX10_demand_46 ⟨⟨_, rfl, (zB.wk (a' := (-3)) (b' := 7) (zB.of (x := (-3)) (-3) (by decide)) (by decide) (by decide))⟩, hI, hF, (by
                                                                                          intro v hv; cases hv
                                                                                          have q9 := hp3_0
                                                                                          refine Or.inr (Or.inl ⟨?_, by omega, rfl, rfl⟩)
                                                                                          rw [← q9]
                                                                                          omega)⟩
      · skip
        have hc27_0 : ¬ (0 ≤ a3.toInt ∧ a3.toInt ≤ 99) := by have q9 := h27_5; simp only [z64] at q9; exact q9
        refine z_if_ne (pc := 30) 35 C dX10_demand_30 (by decide) (fun h => absurd (by decide) h) (fun _ => ?_)
        refine z_iconst (pc := 33) (v := -1) C dX10_demand_33 (by decide) ?_
        exact z_iret (pc := 34) C hr dX10_demand_34 ⟨⟨_, rfl, (zB.wk (a' := (-3)) (b' := 7) (zB.of (x := (-1)) (-1) (by decide)) (by decide) (by decide))⟩, hI, hF, (by
                                                                                          intro v hv; cases hv
                                                                                          have q9 := hp3_0
                                                                                          refine Or.inl ⟨?_, rfl, rfl⟩
                                                                                          rw [← q9]
                                                                                          omega)⟩
    · skip
      have hc15_0 : ¬ (1 ≤ a2.toInt ∧ a2.toInt ≤ v3.toInt) := by have q9 := h15_3; simp only [z64] at q9; exact q9
      refine z_if_eq (pc := 18) 33 C dX10_demand_18 (by decide) (fun _ => ?_) (fun h => absurd (by decide) h)
      refine z_iconst (pc := 33) (v := -1) C dX10_demand_33 (by decide) ?_
      exact z_iret (pc := 34) C hr dX10_demand_34 ⟨⟨_, rfl, (zB.wk (a' := (-3)) (b' := 7) (zB.of (x := (-1)) (-1) (by decide)) (by decide) (by decide))⟩, hI, hF, (by
                                                                                          intro v hv; cases hv
                                                                                          have q9 := hp3_0
                                                                                          refine Or.inl ⟨?_, rfl, rfl⟩
                                                                                          rw [← q9]
                                                                                          omega)⟩
  · skip
    refine z_if_eq (pc := 4) 33 C dX10_demand_4 (by decide) (fun _ => ?_) (fun h => absurd (by decide) h)
    refine z_iconst (pc := 33) (v := -1) C dX10_demand_33 (by decide) ?_
    exact z_iret (pc := 34) C hr dX10_demand_34 ⟨⟨_, rfl, (zB.wk (a' := (-3)) (b' := 7) (zB.of (x := (-1)) (-1) (by decide)) (by decide) (by decide))⟩, hI, hF, (by intro v hv; cases hv; exact Or.inl ⟨by omega, rfl, rfl⟩)⟩
