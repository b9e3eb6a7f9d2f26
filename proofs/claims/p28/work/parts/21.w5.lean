set_option maxRecDepth 100000 in
set_option maxHeartbeats 4000000 in
theorem w_X9_isLess (d : Nat) (f : zM) (a0 : Int32) (b0 : zB a0 (-2147483648) 2147483647) (a1 : Int32) (b1 : zB a1 (-2147483648) 2147483647) (hI : zInv f) : ZM (d + 1) yX9_isLess cX9_isLess 3 (some .boolean) [zi a0, zi a1] f (fun r g => (∃ v, r = some (zi v) ∧ zB v 0 1) ∧ zInv g ∧ zFr [] f g) := by
  refine ZM.intro (by decide +kernel) (Nat.le_of_ble_eq_true rfl) ?_
  intro X C hr hn
  have hF : zFr [] f f := zFr.rf _ _
  have J : ∀ t : Nat, (∀ a31_2 : Int32, zB a31_2 (-63) 0 → ∀ g : zM, zInv g → zFr [] f g → (2 : Int) < t → Z X 31 [some (zi a0), some (zi a1), some (zi a31_2)] [] g) ∧ (∀ a35_2 : Int32, zB a35_2 0 63 → ∀ g : zM, zInv g → zFr [] f g → (1 : Int) < t → Z X 35 [some (zi a0), some (zi a1), some (zi a35_2)] [] g) ∧ (∀ a36_2 : Int32, zB a36_2 (-63) 63 → ∀ a36_s0 : Int32, zB a36_s0 0 1 → ∀ g : zM, zInv g → zFr [] f g → (0 : Int) < t → Z X 36 [some (zi a0), some (zi a1), some (zi a36_2)] [zi a36_s0] g) := by
    intro t
    induction t with
    | zero =>
      refine ⟨?_, ?_, ?_⟩ <;> (intros; exfalso; omega)
    | succ t ih =>
      obtain ⟨ih0, ih1, ih2⟩ := ih
      refine ⟨?_, ?_, ?_⟩
      · skip
        intro a31_2 b31_2 g31_ hI31_ hF31_ hM31_
        refine z_iconst (pc := 31) (v := 1) C dX9_isLess_31 (by decide) ?_
        refine z_goto (pc := 32) 36 C dX9_isLess_32 (by decide) ?_
        exact ih2 a31_2 (zB.wk (a' := (-63)) (b' := 63) b31_2 (by decide) (by decide)) 1 (zB.wk (a' := 0) (b' := 1) (zB.of (x := 1) 1 (by decide)) (by decide) (by decide)) g31_ hI31_ hF31_  (by have qc0 : (1 : Int32).toInt = 1 := (by decide); omega)
      · skip
        intro a35_2 b35_2 g35_ hI35_ hF35_ hM35_
        refine z_iconst (pc := 35) (v := 0) C dX9_isLess_35 (by decide) ?_
        exact ih2 a35_2 (zB.wk (a' := (-63)) (b' := 63) b35_2 (by decide) (by decide)) 0 (zB.wk (a' := 0) (b' := 1) (zB.of (x := 0) 0 (by decide)) (by decide) (by decide)) g35_ hI35_ hF35_  (by have qc0 : (0 : Int32).toInt = 0 := (by decide); omega)
      · skip
        intro a36_2 b36_2 a36_s0 b36_s0 g36_ hI36_ hF36_ hM36_
        exact z_zret (pc := 36) C hr (z01 b36_s0) dX9_isLess_36 ⟨⟨_, rfl, b36_s0⟩, hI36_, hF36_⟩
  obtain ⟨J0, J1, J2⟩ := J 14
  show Z X 0 [some (zi a0), some (zi a1), none] [] f
  refine z_iload_n (pc := 0) C dX9_isLess_0 rfl ?_
  refine z_bipush (pc := 1) (v := -4) C dX9_isLess_1 (by decide) ?_
  refine z_icmp_ne (pc := 3) 8 C dX9_isLess_3 (by decide) (fun h3_0 => ?_) (fun h3_0 => ?_)
  · skip
    refine z_iload_n (pc := 8) C dX9_isLess_8 rfl ?_
    refine z_callS (pc := 9) C zk_X9_348 (w_J6_bitCount_0f7a4 _ _ a0 b0 hI) rfl rfl (Nat.le_of_ble_eq_true rfl) dX9_isLess_9 (fun r2 g2 q2 => ?_)
    obtain ⟨⟨v2, rfl, b2x⟩, hI2, hF2q⟩ := q2
    obtain rfl := zFr_nil hF2q
    simp only [Option.toList, List.cons_append, List.nil_append]
    refine z_iload_n (pc := 12) C dX9_isLess_12 rfl ?_
    refine z_callS (pc := 13) C zk_X9_348 (w_J6_bitCount_0f7a4 _ _ a1 b1 hI) rfl rfl (Nat.le_of_ble_eq_true rfl) dX9_isLess_13 (fun r3 g3 q3 => ?_)
    obtain ⟨⟨v3, rfl, b3x⟩, hI3, hF3q⟩ := q3
    obtain rfl := zFr_nil hF3q
    simp only [Option.toList, List.cons_append, List.nil_append]
    refine z_isub (pc := 16) C dX9_isLess_16 ?_
    refine w_gp (fun v => v.toInt = v2.toInt - v3.toInt) (zsub_eb b2x b3x (by decide) (by decide)) (fun v4 e4 => ?_)
    have b4x : zB v4 (-63) 63 := by have q1 := b2x; have q2 := b3x; constructor <;> omega
    refine z_istore_n (pc := 17) C dX9_isLess_17 (by rw [hn]; decide) rfl ?_
    refine z_iload_n (pc := 18) C dX9_isLess_18 rfl ?_
    refine z_if_lt (pc := 19) 31 C dX9_isLess_19 (by decide) (fun h19_4 => ?_) (fun h19_4 => ?_)
    · skip
      have b6x : zB v4 (-63) (-1) := by have q1 := b4x; have q2 := (zB.of (x := 0) 0 (by decide)); simp only [z32lt, z32le, z32eq, Int32.reduceToInt, Int32.toInt_zero] at h19_4; constructor <;> omega
      exact J0 v4 (zB.wk (a' := (-63)) (b' := 0) b6x (by decide) (by decide)) f hI hF  (by omega)
    · skip
      have b7x : zB v4 0 63 := by have q1 := b4x; have q2 := (zB.of (x := 0) 0 (by decide)); simp only [z32lt, z32le, z32eq, Int32.reduceToInt, Int32.toInt_zero] at h19_4; constructor <;> omega
      refine z_iload_n (pc := 22) C dX9_isLess_22 rfl ?_
      refine z_if_ne (pc := 23) 35 C dX9_isLess_23 (by decide) (fun h23_7 => ?_) (fun h23_7 => ?_)
      · skip
        have b9x : zB v4 1 63 := by have q1 := b7x; have q2 := (zB.of (x := 0) 0 (by decide)); simp only [z32lt, z32le, z32eq, Int32.reduceToInt, Int32.toInt_zero] at h23_7; constructor <;> omega
        exact J1 v4 (zB.wk (a' := 0) (b' := 63) b9x (by decide) (by decide)) f hI hF  (by omega)
      · skip
        have b10x : zB v4 0 0 := by have q1 := b7x; have q2 := (zB.of (x := 0) 0 (by decide)); simp only [z32lt, z32le, z32eq, Int32.reduceToInt, Int32.toInt_zero] at h23_7; constructor <;> omega
        refine z_iload_n (pc := 26) C dX9_isLess_26 rfl ?_
        refine z_iload_n (pc := 27) C dX9_isLess_27 rfl ?_
        refine z_icmp_ge (pc := 28) 35 C dX9_isLess_28 (by decide) (fun h28_10 => ?_) (fun h28_10 => ?_)
        · skip
          exact J1 v4 (zB.wk (a' := 0) (b' := 63) b10x (by decide) (by decide)) f hI hF  (by omega)
        · skip
          have b12x : zB a0 (-2147483648) 2147483646 := by have q1 := b0; have q2 := b1; simp only [z32lt, z32le, z32eq, Int32.reduceToInt, Int32.toInt_zero] at h28_10; constructor <;> omega
          have b13x : zB a1 (-2147483647) 2147483647 := by have q1 := b0; have q2 := b1; simp only [z32lt, z32le, z32eq, Int32.reduceToInt, Int32.toInt_zero] at h28_10; constructor <;> omega
          exact J0 v4 (zB.wk (a' := (-63)) (b' := 0) b10x (by decide) (by decide)) f hI hF  (by omega)
  · skip
    have b14x : zB a1 (-4) (-4) := by have q1 := b1; have q2 := (zB.of (x := (-4)) (-4) (by decide)); simp only [z32lt, z32le, z32eq, Int32.reduceToInt, Int32.toInt_zero] at h3_0; constructor <;> omega
    refine z_iconst (pc := 6) (v := 1) C dX9_isLess_6 (by decide) ?_
    exact z_zret (pc := 7) C hr (z01 (zB.wk (a' := 0) (b' := 1) (zB.of (x := 1) 1 (by decide)) (by decide) (by decide))) dX9_isLess_7 ⟨⟨_, rfl, (zB.wk (a' := 0) (b' := 1) (zB.of (x := 1) 1 (by decide)) (by decide) (by decide))⟩, hI, hF⟩

set_option maxRecDepth 100000 in
set_option maxHeartbeats 4000000 in
theorem w_X9_crime (d : Nat) (f : zM) (a1 : Int32) (b1 : zB a1 (-2147483648) 2147483647) (a2 : Int32) (b2 : zB a2 (-2147483648) 2147483647) (a3 : Int32) (b3 : zB a3 (-2147483648) 2147483647) (a4 : Int32) (b4 : zB a4 (-2147483648) 2147483647) (a5 : Int32) (b5 : zB a5 (-2147483648) 2147483647) (a6 : Int32) (b6 : zB a6 0 1) (hI : zInv f) : ZM (d + 3) yX9_crime cX9_crime 7 (some .int) [zr 0 0, zi a1, zi a2, zi a3, zi a4, zi a5, zi a6] f (fun r g => (∃ v, r = some (zi v) ∧ zB v (-3) 23) ∧ zInv g ∧ zFr [(1, some 5), (7, some 0), (7, some 1), (7, some 2), (7, some 3), (7, some 4), (7, some 5), (8, some 5), (8, some 6), (8, some 7), (9, none), (10, none)] f g) := by
  refine ZM.intro (by decide +kernel) (Nat.le_of_ble_eq_true rfl) ?_
  intro X C hr hn
  have hF : zFr [(1, some 5), (7, some 0), (7, some 1), (7, some 2), (7, some 3), (7, some 4), (7, some 5), (8, some 5), (8, some 6), (8, some 7), (9, none), (10, none)] f f := zFr.rf _ _
  have ct1_0_5 : zB (f 1 0 5) 0 24 := hI 1 0 5
  have J : ∀ t : Nat, (∀ g : zM, zInv g → zFr [(1, some 5), (7, some 0), (7, some 1), (7, some 2), (7, some 3), (7, some 4), (7, some 5), (8, some 5), (8, some 6), (8, some 7), (9, none), (10, none)] f g → zB (g 1 0 5) 0 24 → (0 : Int) < t → Z X 59 [some (zr 0 0), some (zi a1), some (zi a2), some (zi a3), some (zi a4), some (zi a5), some (zi a6)] [] g) := by
    intro t
    induction t with
    | zero =>
      intros; exfalso; omega
    | succ t ih =>
      have ih0 := ih
      intro g59_ hI59_ hF59_ f59_1_0_5 hM59_
      refine z_iconst (pc := 59) (v := -1) C dX9_crime_59 (by decide) ?_
      exact z_iret (pc := 60) C hr dX9_crime_60 ⟨⟨_, rfl, (zB.wk (a' := (-3)) (b' := 23) (zB.of (x := (-1)) (-1) (by decide)) (by decide) (by decide))⟩, hI59_, hF59_⟩
  have J0 := J 12
  show Z X 0 [some (zr 0 0), some (zi a1), some (zi a2), some (zi a3), some (zi a4), some (zi a5), some (zi a6)] [] f
  refine z_iload_n (pc := 0) C dX9_crime_0 rfl ?_
  refine z_callSb (pc := 1) C zk_X9_46 (m_X9_isLand _ _ _) rfl rfl (Nat.le_of_ble_eq_true rfl) dX9_crime_1 (fun h1_0 => ?_) (fun h1_0 => ?_)
  · skip
    have b2x : zB a1 0 5 := h1_0
    refine z_if_eq (pc := 4) 59 C dX9_crime_4 (by decide) (fun h => absurd h (by decide)) (fun _ => ?_)
    refine z_iload_n (pc := 7) C dX9_crime_7 rfl ?_
    refine z_iconst (pc := 8) (v := 1) C dX9_crime_8 (by decide) ?_
    refine z_icmp_lt (pc := 9) 59 C dX9_crime_9 (by decide) (fun h9_2 => ?_) (fun h9_2 => ?_)
    · skip
      have b4x : zB a2 (-2147483648) 0 := by have q1 := b2; have q2 := (zB.of (x := 1) 1 (by decide)); simp only [z32lt, z32le, z32eq, Int32.reduceToInt, Int32.toInt_zero] at h9_2; constructor <;> omega
      exact J0  f hI hF ct1_0_5 (by omega)
    · skip
      have b5x : zB a2 1 2147483647 := by have q1 := b2; have q2 := (zB.of (x := 1) 1 (by decide)); simp only [z32lt, z32le, z32eq, Int32.reduceToInt, Int32.toInt_zero] at h9_2; constructor <;> omega
      refine z_iload_n (pc := 12) C dX9_crime_12 rfl ?_
      refine z_bipush (pc := 13) (v := 63) C dX9_crime_13 (by decide) ?_
      refine z_icmp_gt (pc := 15) 59 C dX9_crime_15 (by decide) (fun h15_5 => ?_) (fun h15_5 => ?_)
      · skip
        have b7x : zB a2 64 2147483647 := by have q1 := b5x; have q2 := (zB.of (x := 63) 63 (by decide)); simp only [z32lt, z32le, z32eq, Int32.reduceToInt, Int32.toInt_zero] at h15_5; constructor <;> omega
        exact J0  f hI hF ct1_0_5 (by omega)
      · skip
        have b8x : zB a2 1 63 := by have q1 := b5x; have q2 := (zB.of (x := 63) 63 (by decide)); simp only [z32lt, z32le, z32eq, Int32.reduceToInt, Int32.toInt_zero] at h15_5; constructor <;> omega
        refine z_iload_n (pc := 18) C dX9_crime_18 rfl ?_
        refine z_if_lt (pc := 19) 59 C dX9_crime_19 (by decide) (fun h19_8 => ?_) (fun h19_8 => ?_)
        · skip
          have b10x : zB a3 (-2147483648) (-1) := by have q1 := b3; have q2 := (zB.of (x := 0) 0 (by decide)); simp only [z32lt, z32le, z32eq, Int32.reduceToInt, Int32.toInt_zero] at h19_8; constructor <;> omega
          exact J0  f hI hF ct1_0_5 (by omega)
        · skip
          have b11x : zB a3 0 2147483647 := by have q1 := b3; have q2 := (zB.of (x := 0) 0 (by decide)); simp only [z32lt, z32le, z32eq, Int32.reduceToInt, Int32.toInt_zero] at h19_8; constructor <;> omega
          refine z_iload_n (pc := 22) C dX9_crime_22 rfl ?_
          refine z_bipush (pc := 23) (v := 63) C dX9_crime_23 (by decide) ?_
          refine z_icmp_gt (pc := 25) 59 C dX9_crime_25 (by decide) (fun h25_11 => ?_) (fun h25_11 => ?_)
          · skip
            have b13x : zB a3 64 2147483647 := by have q1 := b11x; have q2 := (zB.of (x := 63) 63 (by decide)); simp only [z32lt, z32le, z32eq, Int32.reduceToInt, Int32.toInt_zero] at h25_11; constructor <;> omega
            exact J0  f hI hF ct1_0_5 (by omega)
          · skip
            have b14x : zB a3 0 63 := by have q1 := b11x; have q2 := (zB.of (x := 63) 63 (by decide)); simp only [z32lt, z32le, z32eq, Int32.reduceToInt, Int32.toInt_zero] at h25_11; constructor <;> omega
            refine z_iload_n (pc := 28) C dX9_crime_28 rfl ?_
            refine z_iload_n (pc := 29) C dX9_crime_29 rfl ?_
            refine z_iand (pc := 30) C dX9_crime_30 ?_
            refine w_gp (fun v => zB v 0 63 ∧ v.toInt ≤ a3.toInt) (zand_r b8x b14x (by decide)) (fun v15 e15 => ?_)
            have b15x := e15.1
            have r15 := e15.2
            refine z_if_ne (pc := 31) 59 C dX9_crime_31 (by decide) (fun h31_15 => ?_) (fun h31_15 => ?_)
            · skip
              have b17x : zB v15 1 63 := by have q1 := b15x; have q2 := (zB.of (x := 0) 0 (by decide)); simp only [z32lt, z32le, z32eq, Int32.reduceToInt, Int32.toInt_zero] at h31_15; constructor <;> omega
              exact J0  f hI hF ct1_0_5 (by omega)
            · skip
              have b18x : zB v15 0 0 := by have q1 := b15x; have q2 := (zB.of (x := 0) 0 (by decide)); simp only [z32lt, z32le, z32eq, Int32.reduceToInt, Int32.toInt_zero] at h31_15; constructor <;> omega
              refine z_iload (pc := 34) C dX9_crime_34 rfl ?_
              refine z_iconst (pc := 36) (v := 1) C dX9_crime_36 (by decide) ?_
              refine z_icmp_lt (pc := 37) 59 C dX9_crime_37 (by decide) (fun h37_18 => ?_) (fun h37_18 => ?_)
              · skip
                have b20x : zB a5 (-2147483648) 0 := by have q1 := b5; have q2 := (zB.of (x := 1) 1 (by decide)); simp only [z32lt, z32le, z32eq, Int32.reduceToInt, Int32.toInt_zero] at h37_18; constructor <;> omega
                exact J0  f hI hF ct1_0_5 (by omega)
              · skip
                have b21x : zB a5 1 2147483647 := by have q1 := b5; have q2 := (zB.of (x := 1) 1 (by decide)); simp only [z32lt, z32le, z32eq, Int32.reduceToInt, Int32.toInt_zero] at h37_18; constructor <;> omega
                refine z_iload (pc := 40) C dX9_crime_40 rfl ?_
                refine z_bipush (pc := 42) (v := 40) C dX9_crime_42 (by decide) ?_
                refine z_icmp_gt (pc := 44) 59 C dX9_crime_44 (by decide) (fun h44_21 => ?_) (fun h44_21 => ?_)
                · skip
                  have b23x : zB a5 41 2147483647 := by have q1 := b21x; have q2 := (zB.of (x := 40) 40 (by decide)); simp only [z32lt, z32le, z32eq, Int32.reduceToInt, Int32.toInt_zero] at h44_21; constructor <;> omega
                  exact J0  f hI hF ct1_0_5 (by omega)
                · skip
                  have b24x : zB a5 1 40 := by have q1 := b21x; have q2 := (zB.of (x := 40) 40 (by decide)); simp only [z32lt, z32le, z32eq, Int32.reduceToInt, Int32.toInt_zero] at h44_21; constructor <;> omega
                  refine z_iload (pc := 47) C dX9_crime_47 rfl ?_
                  refine z_if_lt (pc := 49) 59 C dX9_crime_49 (by decide) (fun h49_24 => ?_) (fun h49_24 => ?_)
                  · skip
                    have b26x : zB a4 (-2147483648) (-1) := by have q1 := b4; have q2 := (zB.of (x := 0) 0 (by decide)); simp only [z32lt, z32le, z32eq, Int32.reduceToInt, Int32.toInt_zero] at h49_24; constructor <;> omega
                    exact J0  f hI hF ct1_0_5 (by omega)
                  · skip
                    have b27x : zB a4 0 2147483647 := by have q1 := b4; have q2 := (zB.of (x := 0) 0 (by decide)); simp only [z32lt, z32le, z32eq, Int32.reduceToInt, Int32.toInt_zero] at h49_24; constructor <;> omega
                    refine z_iload (pc := 52) C dX9_crime_52 rfl ?_
                    refine z_iload (pc := 54) C dX9_crime_54 rfl ?_
                    refine z_icmp_le (pc := 56) 61 C dX9_crime_56 (by decide) (fun h56_27 => ?_) (fun h56_27 => ?_)
                    · skip
                      have b29x : zB a4 0 40 := by have q1 := b27x; have q2 := b24x; simp only [z32lt, z32le, z32eq, Int32.reduceToInt, Int32.toInt_zero] at h56_27; constructor <;> omega
                      refine z_aload_n (pc := 61) C dX9_crime_61 rfl ?_
                      refine z_getR (pc := 62) C zf_X9_10 rfl rfl (by decide) dX9_crime_62 ?_
                      refine z_getI (pc := 65) C zf_X9_50 rfl rfl (by decide) dX9_crime_65 ?_
                      refine w_gp (fun v => v.toInt = (f 1 0 5).toInt) rfl (fun v30 e30 => ?_)
                      have b30x : zB v30 0 24 := by have q9 : zB (f 1 0 5) 0 24 := ct1_0_5; constructor <;> omega
                      refine z_bipush (pc := 68) (v := 24) C dX9_crime_68 (by decide) ?_
                      refine z_icmp_lt (pc := 70) 76 C dX9_crime_70 (by decide) (fun h70_30 => ?_) (fun h70_30 => ?_)
                      · skip
                        have b32x : zB v30 0 23 := by have q1 := b30x; have q2 := (zB.of (x := 24) 24 (by decide)); simp only [z32lt, z32le, z32eq, Int32.reduceToInt, Int32.toInt_zero] at h70_30; constructor <;> omega
                        have c33x : zB (f 1 0 5) 0 23 := by constructor <;> omega
                        refine z_aload_n (pc := 76) C dX9_crime_76 rfl ?_
                        refine z_getR (pc := 77) C zf_X9_10 rfl rfl (by decide) dX9_crime_77 ?_
                        refine z_getR (pc := 80) C zf_X9_54 rfl rfl (by decide) dX9_crime_80 ?_
                        refine z_aload_n (pc := 83) C dX9_crime_83 rfl ?_
                        refine z_getR (pc := 84) C zf_X9_10 rfl rfl (by decide) dX9_crime_84 ?_
                        refine z_getI (pc := 87) C zf_X9_50 rfl rfl (by decide) dX9_crime_87 ?_
                        refine w_gp (fun v => v.toInt = (f 1 0 5).toInt) rfl (fun v34 e34 => ?_)
                        have b34x : zB v34 0 23 := by have q9 : zB (f 1 0 5) 0 23 := c33x; constructor <;> omega
                        refine z_aald (pc := 90) C rfl ⟨rfl, by decide⟩ (by decide) (zIx b34x (by decide) (by decide)) dX9_crime_90 ?_
                        refine w_gr (by have hq := zN b34x (by decide); show 24 * 0 + v34.toNatClampNeg < 60; omega) (fun m35 h35x => ?_)
                        refine z_iload_n (pc := 91) C dX9_crime_91 rfl ?_
                        refine z_iload_n (pc := 92) C dX9_crime_92 rfl ?_
                        refine z_iload_n (pc := 93) C dX9_crime_93 rfl ?_
                        refine z_iload (pc := 94) C dX9_crime_94 rfl ?_
                        refine z_iload (pc := 96) C dX9_crime_96 rfl ?_
                        refine z_iload (pc := 98) C dX9_crime_98 rfl ?_
                        refine z_callV (pc := 100) C zk_X9_58 (w_X0_tell _ _ m35 h35x a1 b2x a2 (zB.wk (a' := 0) (b' := 63) b8x (by decide) (by decide)) a3 b14x a4 b29x a5 (zB.wk (a' := 0) (b' := 40) b24x (by decide) (by decide)) a6 b6 hI) rfl rfl h35x rfl rfl (Nat.le_of_ble_eq_true rfl) dX9_crime_100 (fun r36 g36 q36 => ?_)
                        obtain ⟨rfl, hI36, hF36q⟩ := q36
                        have hF36 := zFr.tr hF hF36q (by decide)
                        simp only [Option.toList, List.cons_append, List.nil_append]
                        have ek36_1_0_5 : (g36 1 0 5).toInt = (f 1 0 5).toInt := by rw [hF36q 1 0 5 rfl]
                        have c36_1_0_5x : zB (g36 1 0 5) 0 23 := by have q9 := c33x; constructor <;> omega
                        refine z_aload_n (pc := 103) C dX9_crime_103 rfl ?_
                        refine z_getR (pc := 104) C zf_X9_10 rfl rfl (by decide) dX9_crime_104 ?_
                        refine z_callV (pc := 107) C zk_X9_64 (w_X8_takeCrime _ _ c36_1_0_5x hI36) rfl rfl (by decide) rfl rfl (Nat.le_of_ble_eq_true rfl) dX9_crime_107 (fun r37 g37 q37 => ?_)
                        obtain ⟨⟨v37, rfl, b37x⟩, hI37, hF37q, hp37_0⟩ := q37
                        have hp37_0 := hp37_0 _ rfl
                        have hF37 := zFr.tr hF36 hF37q (by decide)
                        simp only [Option.toList, List.cons_append, List.nil_append]
                        have cr37_1_0_5 : zB (g37 1 0 5) 0 24 := hI37 1 0 5
                        exact z_iret (pc := 110) C hr dX9_crime_110 ⟨⟨_, rfl, (zB.wk (a' := (-3)) (b' := 23) b37x (by decide) (by decide))⟩, hI37, hF37⟩
                      · skip
                        have b38x : zB v30 24 24 := by have q1 := b30x; have q2 := (zB.of (x := 24) 24 (by decide)); simp only [z32lt, z32le, z32eq, Int32.reduceToInt, Int32.toInt_zero] at h70_30; constructor <;> omega
                        have c39x : zB (f 1 0 5) 24 24 := by constructor <;> omega
                        refine z_bipush (pc := 73) (v := -3) C dX9_crime_73 (by decide) ?_
                        exact z_iret (pc := 75) C hr dX9_crime_75 ⟨⟨_, rfl, (zB.wk (a' := (-3)) (b' := 23) (zB.of (x := (-3)) (-3) (by decide)) (by decide) (by decide))⟩, hI, hF⟩
                    · skip
                      have b40x : zB a4 2 2147483647 := by have q1 := b27x; have q2 := b24x; simp only [z32lt, z32le, z32eq, Int32.reduceToInt, Int32.toInt_zero] at h56_27; constructor <;> omega
                      exact J0  f hI hF ct1_0_5 (by omega)
  · skip
    refine z_if_eq (pc := 4) 59 C dX9_crime_4 (by decide) (fun _ => ?_) (fun h => absurd (by decide) h)
    exact J0  f hI hF ct1_0_5 (by omega)

set_option maxRecDepth 100000 in
set_option maxHeartbeats 4000000 in
theorem w_X9_deed (d : Nat) (f : zM) (a1 : Int32) (b1 : zB a1 (-2147483648) 2147483647) (a2 : Int32) (b2 : zB a2 (-2147483648) 2147483647) (a3 : Int32) (b3 : zB a3 (-2147483648) 2147483647) (a4 : Int32) (b4 : zB a4 (-2147483648) 2147483647) (hI : zInv f) : ZM (d + 4) yX9_deed cX9_deed 5 (some .int) [zr 0 0, zi a1, zi a2, zi a3, zi a4] f (fun r g => (∃ v, r = some (zi v) ∧ zB v (-3) 7) ∧ zInv g ∧ zFr [(1, some 6), (8, some 0), (8, some 1), (8, some 2), (8, some 3), (8, some 4), (8, some 5), (8, some 6), (8, some 7), (9, none), (10, none)] f g) := by
  refine ZM.intro (by decide +kernel) (Nat.le_of_ble_eq_true rfl) ?_
  intro X C hr hn
  have hF : zFr [(1, some 6), (8, some 0), (8, some 1), (8, some 2), (8, some 3), (8, some 4), (8, some 5), (8, some 6), (8, some 7), (9, none), (10, none)] f f := zFr.rf _ _
  have ct1_0_6 : zB (f 1 0 6) 0 8 := hI 1 0 6
  have J : ∀ t : Nat, (∀ g : zM, zInv g → zFr [(1, some 6), (8, some 0), (8, some 1), (8, some 2), (8, some 3), (8, some 4), (8, some 5), (8, some 6), (8, some 7), (9, none), (10, none)] f g → zB (g 1 0 6) 0 8 → (0 : Int) < t → Z X 36 [some (zr 0 0), some (zi a1), some (zi a2), some (zi a3), some (zi a4)] [] g) := by
    intro t
    induction t with
    | zero =>
      intros; exfalso; omega
    | succ t ih =>
      have ih0 := ih
      intro g36_ hI36_ hF36_ f36_1_0_6 hM36_
      refine z_iconst (pc := 36) (v := -1) C dX9_deed_36 (by decide) ?_
      exact z_iret (pc := 37) C hr dX9_deed_37 ⟨⟨_, rfl, (zB.wk (a' := (-3)) (b' := 7) (zB.of (x := (-1)) (-1) (by decide)) (by decide) (by decide))⟩, hI36_, hF36_⟩
  have J0 := J 12
  show Z X 0 [some (zr 0 0), some (zi a1), some (zi a2), some (zi a3), some (zi a4)] [] f
  refine z_iload_n (pc := 0) C dX9_deed_0 rfl ?_
  refine z_iconst (pc := 1) (v := 1) C dX9_deed_1 (by decide) ?_
  refine z_icmp_lt (pc := 2) 36 C dX9_deed_2 (by decide) (fun h2_0 => ?_) (fun h2_0 => ?_)
  · skip
    have b2x : zB a1 (-2147483648) 0 := by have q1 := b1; have q2 := (zB.of (x := 1) 1 (by decide)); simp only [z32lt, z32le, z32eq, Int32.reduceToInt, Int32.toInt_zero] at h2_0; constructor <;> omega
    exact J0  f hI hF ct1_0_6 (by omega)
  · skip
    have b3x : zB a1 1 2147483647 := by have q1 := b1; have q2 := (zB.of (x := 1) 1 (by decide)); simp only [z32lt, z32le, z32eq, Int32.reduceToInt, Int32.toInt_zero] at h2_0; constructor <;> omega
    refine z_iload_n (pc := 5) C dX9_deed_5 rfl ?_
    refine z_bipush (pc := 6) (v := 63) C dX9_deed_6 (by decide) ?_
    refine z_icmp_gt (pc := 8) 36 C dX9_deed_8 (by decide) (fun h8_3 => ?_) (fun h8_3 => ?_)
    · skip
      have b5x : zB a1 64 2147483647 := by have q1 := b3x; have q2 := (zB.of (x := 63) 63 (by decide)); simp only [z32lt, z32le, z32eq, Int32.reduceToInt, Int32.toInt_zero] at h8_3; constructor <;> omega
      exact J0  f hI hF ct1_0_6 (by omega)
    · skip
      have b6x : zB a1 1 63 := by have q1 := b3x; have q2 := (zB.of (x := 63) 63 (by decide)); simp only [z32lt, z32le, z32eq, Int32.reduceToInt, Int32.toInt_zero] at h8_3; constructor <;> omega
      refine z_iload_n (pc := 11) C dX9_deed_11 rfl ?_
      refine z_if_lt (pc := 12) 36 C dX9_deed_12 (by decide) (fun h12_6 => ?_) (fun h12_6 => ?_)
      · skip
        have b8x : zB a2 (-2147483648) (-1) := by have q1 := b2; have q2 := (zB.of (x := 0) 0 (by decide)); simp only [z32lt, z32le, z32eq, Int32.reduceToInt, Int32.toInt_zero] at h12_6; constructor <;> omega
        exact J0  f hI hF ct1_0_6 (by omega)
      · skip
        have b9x : zB a2 0 2147483647 := by have q1 := b2; have q2 := (zB.of (x := 0) 0 (by decide)); simp only [z32lt, z32le, z32eq, Int32.reduceToInt, Int32.toInt_zero] at h12_6; constructor <;> omega
        refine z_iload_n (pc := 15) C dX9_deed_15 rfl ?_
        refine z_bipush (pc := 16) (v := 63) C dX9_deed_16 (by decide) ?_
        refine z_icmp_gt (pc := 18) 36 C dX9_deed_18 (by decide) (fun h18_9 => ?_) (fun h18_9 => ?_)
        · skip
          have b11x : zB a2 64 2147483647 := by have q1 := b9x; have q2 := (zB.of (x := 63) 63 (by decide)); simp only [z32lt, z32le, z32eq, Int32.reduceToInt, Int32.toInt_zero] at h18_9; constructor <;> omega
          exact J0  f hI hF ct1_0_6 (by omega)
        · skip
          have b12x : zB a2 0 63 := by have q1 := b9x; have q2 := (zB.of (x := 63) 63 (by decide)); simp only [z32lt, z32le, z32eq, Int32.reduceToInt, Int32.toInt_zero] at h18_9; constructor <;> omega
          refine z_iload_n (pc := 21) C dX9_deed_21 rfl ?_
          refine z_callSb (pc := 22) C zk_X9_46 (m_X9_isLand _ _ _) rfl rfl (Nat.le_of_ble_eq_true rfl) dX9_deed_22 (fun h22_12 => ?_) (fun h22_12 => ?_)
          · skip
            have b14x : zB a3 0 5 := h22_12
            refine z_if_eq (pc := 25) 36 C dX9_deed_25 (by decide) (fun h => absurd h (by decide)) (fun _ => ?_)
            refine z_iload (pc := 28) C dX9_deed_28 rfl ?_
            refine z_callSb (pc := 30) C zk_X9_68 (m_X9_isYear _ _ _) rfl rfl (Nat.le_of_ble_eq_true rfl) dX9_deed_30 (fun h30_14 => ?_) (fun h30_14 => ?_)
            · skip
              have b16x : zB a4 0 99 := h30_14
              refine z_if_ne (pc := 33) 38 C dX9_deed_33 (by decide) (fun _ => ?_) (fun h => absurd h (by decide))
              refine z_aload_n (pc := 38) C dX9_deed_38 rfl ?_
              refine z_getR (pc := 39) C zf_X9_10 rfl rfl (by decide) dX9_deed_39 ?_
              refine z_getI (pc := 42) C zf_X9_71 rfl rfl (by decide) dX9_deed_42 ?_
              refine w_gp (fun v => v.toInt = (f 1 0 6).toInt) rfl (fun v17 e17 => ?_)
              have b17x : zB v17 0 8 := by have q9 : zB (f 1 0 6) 0 8 := ct1_0_6; constructor <;> omega
              refine z_bipush (pc := 45) (v := 8) C dX9_deed_45 (by decide) ?_
              refine z_icmp_lt (pc := 47) 53 C dX9_deed_47 (by decide) (fun h47_17 => ?_) (fun h47_17 => ?_)
              · skip
                have b19x : zB v17 0 7 := by have q1 := b17x; have q2 := (zB.of (x := 8) 8 (by decide)); simp only [z32lt, z32le, z32eq, Int32.reduceToInt, Int32.toInt_zero] at h47_17; constructor <;> omega
                have c20x : zB (f 1 0 6) 0 7 := by constructor <;> omega
                refine z_aload_n (pc := 53) C dX9_deed_53 rfl ?_
                refine z_getR (pc := 54) C zf_X9_10 rfl rfl (by decide) dX9_deed_54 ?_
                refine z_getR (pc := 57) C zf_X9_74 rfl rfl (by decide) dX9_deed_57 ?_
                refine z_aload_n (pc := 60) C dX9_deed_60 rfl ?_
                refine z_getR (pc := 61) C zf_X9_10 rfl rfl (by decide) dX9_deed_61 ?_
                refine z_getI (pc := 64) C zf_X9_71 rfl rfl (by decide) dX9_deed_64 ?_
                refine w_gp (fun v => v.toInt = (f 1 0 6).toInt) rfl (fun v21 e21 => ?_)
                have b21x : zB v21 0 7 := by have q9 : zB (f 1 0 6) 0 7 := c20x; constructor <;> omega
                refine z_aald (pc := 67) C rfl ⟨rfl, by decide⟩ (by decide) (zIx b21x (by decide) (by decide)) dX9_deed_67 ?_
                refine w_gr (by have hq := zN b21x (by decide); show 8 * 0 + v21.toNatClampNeg < 16; omega) (fun m22 h22x => ?_)
                refine z_iload_n (pc := 68) C dX9_deed_68 rfl ?_
                refine z_iload_n (pc := 69) C dX9_deed_69 rfl ?_
                refine z_iload_n (pc := 70) C dX9_deed_70 rfl ?_
                refine z_iload (pc := 71) C dX9_deed_71 rfl ?_
                refine z_callV (pc := 73) C zk_X9_78 (w_X1_tell _ _ m22 h22x a1 (zB.wk (a' := 0) (b' := 63) b6x (by decide) (by decide)) a2 b12x a3 b14x a4 b16x hI) rfl rfl h22x rfl rfl (Nat.le_of_ble_eq_true rfl) dX9_deed_73 (fun r23 g23 q23 => ?_)
                obtain ⟨rfl, hI23, hF23q⟩ := q23
                have hF23 := zFr.tr hF hF23q (by decide)
                simp only [Option.toList, List.cons_append, List.nil_append]
                have ek23_1_0_6 : (g23 1 0 6).toInt = (f 1 0 6).toInt := by rw [hF23q 1 0 6 rfl]
                have c23_1_0_6x : zB (g23 1 0 6) 0 7 := by have q9 := c20x; constructor <;> omega
                refine z_aload_n (pc := 76) C dX9_deed_76 rfl ?_
                refine z_getR (pc := 77) C zf_X9_10 rfl rfl (by decide) dX9_deed_77 ?_
                refine z_callV (pc := 80) C zk_X9_83 (w_X8_takeDeed _ _ c23_1_0_6x hI23) rfl rfl (by decide) rfl rfl (Nat.le_of_ble_eq_true rfl) dX9_deed_80 (fun r24 g24 q24 => ?_)
                obtain ⟨⟨v24, rfl, b24x⟩, hI24, hF24q⟩ := q24
                have hF24 := zFr.tr hF23 hF24q (by decide)
                simp only [Option.toList, List.cons_append, List.nil_append]
                have cr24_1_0_6 : zB (g24 1 0 6) 0 8 := hI24 1 0 6
                exact z_iret (pc := 83) C hr dX9_deed_83 ⟨⟨_, rfl, (zB.wk (a' := (-3)) (b' := 7) b24x (by decide) (by decide))⟩, hI24, hF24⟩
              · skip
                have b25x : zB v17 8 8 := by have q1 := b17x; have q2 := (zB.of (x := 8) 8 (by decide)); simp only [z32lt, z32le, z32eq, Int32.reduceToInt, Int32.toInt_zero] at h47_17; constructor <;> omega
                have c26x : zB (f 1 0 6) 8 8 := by constructor <;> omega
                refine z_bipush (pc := 50) (v := -3) C dX9_deed_50 (by decide) ?_
                exact z_iret (pc := 52) C hr dX9_deed_52 ⟨⟨_, rfl, (zB.wk (a' := (-3)) (b' := 7) (zB.of (x := (-3)) (-3) (by decide)) (by decide) (by decide))⟩, hI, hF⟩
            · skip
              refine z_if_ne (pc := 33) 38 C dX9_deed_33 (by decide) (fun h => absurd (by decide) h) (fun _ => ?_)
              exact J0  f hI hF ct1_0_6 (by omega)
          · skip
            refine z_if_eq (pc := 25) 36 C dX9_deed_25 (by decide) (fun _ => ?_) (fun h => absurd (by decide) h)
            exact J0  f hI hF ct1_0_6 (by omega)

set_option maxRecDepth 100000 in
set_option maxHeartbeats 4000000 in
theorem w_X9_addPaper (d : Nat) (f : zM) (a1 : Int32) (b1 : zB a1 (-2147483648) 2147483647) (a2 : Int32) (b2 : zB a2 (-2147483648) 2147483647) (a3 : Int32) (b3 : zB a3 (-2147483648) 2147483647) (a4 : Int32) (b4 : zB a4 (-2147483648) 2147483647) (a5 : Int32) (b5 : zB a5 (-2147483648) 2147483647) (hI : zInv f) : ZM (d + 1) yX9_addPaper cX9_addPaper 7 (some .int) [zr 0 0, zi a1, zi a2, zi a3, zi a4, zi a5] f (fun r g => (∃ v, r = some (zi v) ∧ zB v (-3) 11) ∧ zInv g ∧ zFr [(1, some 7), (11, some 1), (11, some 2), (11, some 5), (11, some 6), (11, some 7)] f g) := by
  refine ZM.intro (by decide +kernel) (Nat.le_of_ble_eq_true rfl) ?_
  intro X C hr hn
  have hF : zFr [(1, some 7), (11, some 1), (11, some 2), (11, some 5), (11, some 6), (11, some 7)] f f := zFr.rf _ _
  have ct1_0_7 : zB (f 1 0 7) 0 12 := hI 1 0 7
  have J : ∀ t : Nat, (∀ g : zM, zInv g → zFr [(1, some 7), (11, some 1), (11, some 2), (11, some 5), (11, some 6), (11, some 7)] f g → zB (g 1 0 7) 0 12 → (0 : Int) < t → Z X 49 [some (zr 0 0), some (zi a1), some (zi a2), some (zi a3), some (zi a4), some (zi a5), none] [] g) := by
    intro t
    induction t with
    | zero =>
      intros; exfalso; omega
    | succ t ih =>
      have ih0 := ih
      intro g49_ hI49_ hF49_ f49_1_0_7 hM49_
      refine z_iconst (pc := 49) (v := -1) C dX9_addPaper_49 (by decide) ?_
      exact z_iret (pc := 50) C hr dX9_addPaper_50 ⟨⟨_, rfl, (zB.wk (a' := (-3)) (b' := 11) (zB.of (x := (-1)) (-1) (by decide)) (by decide) (by decide))⟩, hI49_, hF49_⟩
  have J0 := J 12
  show Z X 0 [some (zr 0 0), some (zi a1), some (zi a2), some (zi a3), some (zi a4), some (zi a5), none] [] f
  refine z_iload_n (pc := 0) C dX9_addPaper_0 rfl ?_
  refine z_callSb (pc := 1) C zk_X9_46 (m_X9_isLand _ _ _) rfl rfl (Nat.le_of_ble_eq_true rfl) dX9_addPaper_1 (fun h1_0 => ?_) (fun h1_0 => ?_)
  · skip
    have b2x : zB a1 0 5 := h1_0
    refine z_if_eq (pc := 4) 49 C dX9_addPaper_4 (by decide) (fun h => absurd h (by decide)) (fun _ => ?_)
    refine z_iload_n (pc := 7) C dX9_addPaper_7 rfl ?_
    refine z_callSb (pc := 8) C zk_X9_46 (m_X9_isLand _ _ _) rfl rfl (Nat.le_of_ble_eq_true rfl) dX9_addPaper_8 (fun h8_2 => ?_) (fun h8_2 => ?_)
    · skip
      have b4x : zB a2 0 5 := h8_2
      refine z_if_eq (pc := 11) 49 C dX9_addPaper_11 (by decide) (fun h => absurd h (by decide)) (fun _ => ?_)
      refine z_iload_n (pc := 14) C dX9_addPaper_14 rfl ?_
      refine z_iload_n (pc := 15) C dX9_addPaper_15 rfl ?_
      refine z_icmp_eq (pc := 16) 49 C dX9_addPaper_16 (by decide) (fun h16_4 => ?_) (fun h16_4 => ?_)
      · skip
        exact J0  f hI hF ct1_0_7 (by omega)
      · skip
        refine z_iload_n (pc := 19) C dX9_addPaper_19 rfl ?_
        refine z_if_lt (pc := 20) 49 C dX9_addPaper_20 (by decide) (fun h20_5 => ?_) (fun h20_5 => ?_)
        · skip
          have b7x : zB a3 (-2147483648) (-1) := by have q1 := b3; have q2 := (zB.of (x := 0) 0 (by decide)); simp only [z32lt, z32le, z32eq, Int32.reduceToInt, Int32.toInt_zero] at h20_5; constructor <;> omega
          exact J0  f hI hF ct1_0_7 (by omega)
        · skip
          have b8x : zB a3 0 2147483647 := by have q1 := b3; have q2 := (zB.of (x := 0) 0 (by decide)); simp only [z32lt, z32le, z32eq, Int32.reduceToInt, Int32.toInt_zero] at h20_5; constructor <;> omega
          refine z_iload_n (pc := 23) C dX9_addPaper_23 rfl ?_
          refine z_bipush (pc := 24) (v := 31) C dX9_addPaper_24 (by decide) ?_
          refine z_icmp_gt (pc := 26) 49 C dX9_addPaper_26 (by decide) (fun h26_8 => ?_) (fun h26_8 => ?_)
          · skip
            have b10x : zB a3 32 2147483647 := by have q1 := b8x; have q2 := (zB.of (x := 31) 31 (by decide)); simp only [z32lt, z32le, z32eq, Int32.reduceToInt, Int32.toInt_zero] at h26_8; constructor <;> omega
            exact J0  f hI hF ct1_0_7 (by omega)
          · skip
            have b11x : zB a3 0 31 := by have q1 := b8x; have q2 := (zB.of (x := 31) 31 (by decide)); simp only [z32lt, z32le, z32eq, Int32.reduceToInt, Int32.toInt_zero] at h26_8; constructor <;> omega
            refine z_iload (pc := 29) C dX9_addPaper_29 rfl ?_
            refine z_callSb (pc := 31) C zk_X9_68 (m_X9_isYear _ _ _) rfl rfl (Nat.le_of_ble_eq_true rfl) dX9_addPaper_31 (fun h31_11 => ?_) (fun h31_11 => ?_)
            · skip
              have b13x : zB a4 0 99 := h31_11
              refine z_if_eq (pc := 34) 49 C dX9_addPaper_34 (by decide) (fun h => absurd h (by decide)) (fun _ => ?_)
              refine z_iload (pc := 37) C dX9_addPaper_37 rfl ?_
              refine z_if_lt (pc := 39) 49 C dX9_addPaper_39 (by decide) (fun h39_13 => ?_) (fun h39_13 => ?_)
              · skip
                have b15x : zB a5 (-2147483648) (-1) := by have q1 := b5; have q2 := (zB.of (x := 0) 0 (by decide)); simp only [z32lt, z32le, z32eq, Int32.reduceToInt, Int32.toInt_zero] at h39_13; constructor <;> omega
                exact J0  f hI hF ct1_0_7 (by omega)
              · skip
                have b16x : zB a5 0 2147483647 := by have q1 := b5; have q2 := (zB.of (x := 0) 0 (by decide)); simp only [z32lt, z32le, z32eq, Int32.reduceToInt, Int32.toInt_zero] at h39_13; constructor <;> omega
                refine z_iload (pc := 42) C dX9_addPaper_42 rfl ?_
                refine z_bipush (pc := 44) (v := 7) C dX9_addPaper_44 (by decide) ?_
                refine z_icmp_le (pc := 46) 51 C dX9_addPaper_46 (by decide) (fun h46_16 => ?_) (fun h46_16 => ?_)
                · skip
                  have b18x : zB a5 0 7 := by have q1 := b16x; have q2 := (zB.of (x := 7) 7 (by decide)); simp only [z32lt, z32le, z32eq, Int32.reduceToInt, Int32.toInt_zero] at h46_16; constructor <;> omega
                  refine z_aload_n (pc := 51) C dX9_addPaper_51 rfl ?_
                  refine z_getR (pc := 52) C zf_X9_10 rfl rfl (by decide) dX9_addPaper_52 ?_
                  refine z_getI (pc := 55) C zf_X9_119 rfl rfl (by decide) dX9_addPaper_55 ?_
                  refine w_gp (fun v => v.toInt = (f 1 0 7).toInt) rfl (fun v19 e19 => ?_)
                  have b19x : zB v19 0 12 := by have q9 : zB (f 1 0 7) 0 12 := ct1_0_7; constructor <;> omega
                  refine z_bipush (pc := 58) (v := 12) C dX9_addPaper_58 (by decide) ?_
                  refine z_icmp_lt (pc := 60) 66 C dX9_addPaper_60 (by decide) (fun h60_19 => ?_) (fun h60_19 => ?_)
                  · skip
                    have b21x : zB v19 0 11 := by have q1 := b19x; have q2 := (zB.of (x := 12) 12 (by decide)); simp only [z32lt, z32le, z32eq, Int32.reduceToInt, Int32.toInt_zero] at h60_19; constructor <;> omega
                    have c22x : zB (f 1 0 7) 0 11 := by constructor <;> omega
                    refine z_aload_n (pc := 66) C dX9_addPaper_66 rfl ?_
                    refine z_getR (pc := 67) C zf_X9_10 rfl rfl (by decide) dX9_addPaper_67 ?_
                    refine z_getR (pc := 70) C zf_X9_90 rfl rfl (by decide) dX9_addPaper_70 ?_
                    refine z_aload_n (pc := 73) C dX9_addPaper_73 rfl ?_
                    refine z_getR (pc := 74) C zf_X9_10 rfl rfl (by decide) dX9_addPaper_74 ?_
                    refine z_getI (pc := 77) C zf_X9_119 rfl rfl (by decide) dX9_addPaper_77 ?_
                    refine w_gp (fun v => v.toInt = (f 1 0 7).toInt) rfl (fun v23 e23 => ?_)
                    have b23x : zB v23 0 11 := by have q9 : zB (f 1 0 7) 0 11 := c22x; constructor <;> omega
                    refine z_aald (pc := 80) C rfl ⟨rfl, by decide⟩ (by decide) (zIx b23x (by decide) (by decide)) dX9_addPaper_80 ?_
                    refine w_gr (by have hq := zN b23x (by decide); show 12 * 0 + v23.toNatClampNeg < 36; omega) (fun m24 h24x => ?_)
                    refine z_astore (pc := 81) C dX9_addPaper_81 (by rw [hn]; decide) rfl ?_
                    refine z_aload (pc := 83) C dX9_addPaper_83 rfl ?_
                    refine z_iload_n (pc := 85) C dX9_addPaper_85 rfl ?_
                    refine z_iload_n (pc := 86) C dX9_addPaper_86 rfl ?_
                    refine z_callV (pc := 87) C zk_X9_342 (w_X4_lead _ _ m24 h24x a1 b2x a2 b4x hI) rfl rfl h24x rfl rfl (Nat.le_of_ble_eq_true rfl) dX9_addPaper_87 (fun r25 g25 q25 => ?_)
                    obtain ⟨rfl, hI25, hF25q⟩ := q25
                    have hF25 := zFr.tr hF hF25q (by decide)
                    simp only [Option.toList, List.cons_append, List.nil_append]
                    have ek25_1_0_7 : (g25 1 0 7).toInt = (f 1 0 7).toInt := by rw [hF25q 1 0 7 rfl]
                    have c25_1_0_7x : zB (g25 1 0 7) 0 11 := by have q9 := c22x; constructor <;> omega
                    refine z_aload (pc := 90) C dX9_addPaper_90 rfl ?_
                    refine z_iload_n (pc := 92) C dX9_addPaper_92 rfl ?_
                    refine z_iload (pc := 93) C dX9_addPaper_93 rfl ?_
                    refine z_iload (pc := 95) C dX9_addPaper_95 rfl ?_
                    refine z_callV (pc := 97) C zk_X9_345 (w_X4_rule _ _ m24 h24x a3 b11x a4 b13x a5 b18x hI25) rfl rfl h24x rfl rfl (Nat.le_of_ble_eq_true rfl) dX9_addPaper_97 (fun r26 g26 q26 => ?_)
                    obtain ⟨rfl, hI26, hF26q⟩ := q26
                    have hF26 := zFr.tr hF25 hF26q (by decide)
                    simp only [Option.toList, List.cons_append, List.nil_append]
                    have ek26_1_0_7 : (g26 1 0 7).toInt = (g25 1 0 7).toInt := by rw [hF26q 1 0 7 rfl]
                    have c26_1_0_7x : zB (g26 1 0 7) 0 11 := by have q9 := c25_1_0_7x; constructor <;> omega
                    refine z_aload_n (pc := 100) C dX9_addPaper_100 rfl ?_
                    refine z_getR (pc := 101) C zf_X9_10 rfl rfl (by decide) dX9_addPaper_101 ?_
                    refine z_callV (pc := 104) C zk_X9_132 (w_X8_takePaper _ _ c26_1_0_7x hI26) rfl rfl (by decide) rfl rfl (Nat.le_of_ble_eq_true rfl) dX9_addPaper_104 (fun r27 g27 q27 => ?_)
                    obtain ⟨⟨v27, rfl, b27x⟩, hI27, hF27q, hp27_0⟩ := q27
                    have hp27_0 := hp27_0 _ rfl
                    have hF27 := zFr.tr hF26 hF27q (by decide)
                    simp only [Option.toList, List.cons_append, List.nil_append]
                    have cr27_1_0_7 : zB (g27 1 0 7) 0 12 := hI27 1 0 7
                    exact z_iret (pc := 107) C hr dX9_addPaper_107 ⟨⟨_, rfl, (zB.wk (a' := (-3)) (b' := 11) b27x (by decide) (by decide))⟩, hI27, hF27⟩
                  · skip
                    have b28x : zB v19 12 12 := by have q1 := b19x; have q2 := (zB.of (x := 12) 12 (by decide)); simp only [z32lt, z32le, z32eq, Int32.reduceToInt, Int32.toInt_zero] at h60_19; constructor <;> omega
                    have c29x : zB (f 1 0 7) 12 12 := by constructor <;> omega
                    refine z_bipush (pc := 63) (v := -3) C dX9_addPaper_63 (by decide) ?_
                    exact z_iret (pc := 65) C hr dX9_addPaper_65 ⟨⟨_, rfl, (zB.wk (a' := (-3)) (b' := 11) (zB.of (x := (-3)) (-3) (by decide)) (by decide) (by decide))⟩, hI, hF⟩
                · skip
                  have b30x : zB a5 8 2147483647 := by have q1 := b16x; have q2 := (zB.of (x := 7) 7 (by decide)); simp only [z32lt, z32le, z32eq, Int32.reduceToInt, Int32.toInt_zero] at h46_16; constructor <;> omega
                  exact J0  f hI hF ct1_0_7 (by omega)
            · skip
              refine z_if_eq (pc := 34) 49 C dX9_addPaper_34 (by decide) (fun _ => ?_) (fun h => absurd (by decide) h)
              exact J0  f hI hF ct1_0_7 (by omega)
    · skip
      refine z_if_eq (pc := 11) 49 C dX9_addPaper_11 (by decide) (fun _ => ?_) (fun h => absurd (by decide) h)
      exact J0  f hI hF ct1_0_7 (by omega)
  · skip
    refine z_if_eq (pc := 4) 49 C dX9_addPaper_4 (by decide) (fun _ => ?_) (fun h => absurd (by decide) h)
    exact J0  f hI hF ct1_0_7 (by omega)

set_option maxRecDepth 100000 in
set_option maxHeartbeats 4000000 in
theorem w_X9_years (d : Nat) (f : zM) (a1 : Int32) (b1 : zB a1 (-2147483648) 2147483647) (a2 : Int32) (b2 : zB a2 (-2147483648) 2147483647) (a3 : Int32) (b3 : zB a3 (-2147483648) 2147483647) (a4 : Int32) (b4 : zB a4 (-2147483648) 2147483647) (a5 : Int32) (b5 : zB a5 (-2147483648) 2147483647) (a6 : Int32) (b6 : zB a6 (-2147483648) 2147483647) (hI : zInv f) : ZM (d + 2) yX9_years cX9_years 8 (some .int) [zr 0 0, zi a1, zi a2, zi a3, zi a4, zi a5, zi a6] f (fun r g => (∃ v, r = some (zi v) ∧ zB v (-3) 11) ∧ zInv g ∧ zFr [(1, some 7), (11, some 0), (11, some 1), (11, some 2), (11, some 3), (11, some 4), (11, some 5), (11, some 6), (11, some 7)] f g) := by
  refine ZM.intro (by decide +kernel) (Nat.le_of_ble_eq_true rfl) ?_
  intro X C hr hn
  have hF : zFr [(1, some 7), (11, some 0), (11, some 1), (11, some 2), (11, some 3), (11, some 4), (11, some 5), (11, some 6), (11, some 7)] f f := zFr.rf _ _
  have J : ∀ t : Nat, (∀ g : zM, zInv g → zFr [(1, some 7), (11, some 0), (11, some 1), (11, some 2), (11, some 3), (11, some 4), (11, some 5), (11, some 6), (11, some 7)] f g → (1 : Int) < t → Z X 11 [some (zr 0 0), some (zi a1), some (zi a2), some (zi a3), some (zi a4), some (zi a5), some (zi a6), none] [] g) ∧ (zB a3 1 40 → ∀ a48_7 : Int32, zB a48_7 (-3) 11 → ∀ g : zM, zInv g → zFr [(1, some 7), (11, some 0), (11, some 1), (11, some 2), (11, some 3), (11, some 4), (11, some 5), (11, some 6), (11, some 7)] f g → (0 : Int) < t → Z X 48 [some (zr 0 0), some (zi a1), some (zi a2), some (zi a3), some (zi a4), some (zi a5), some (zi a6), some (zi a48_7)] [] g) := by
    intro t
    induction t with
    | zero =>
      refine ⟨?_, ?_⟩ <;> (intros; exfalso; omega)
    | succ t ih =>
      obtain ⟨ih0, ih1⟩ := ih
      refine ⟨?_, ?_⟩
      · skip
        intro g11_ hI11_ hF11_ hM11_
        refine z_iconst (pc := 11) (v := -1) C dX9_years_11 (by decide) ?_
        exact z_iret (pc := 12) C hr dX9_years_12 ⟨⟨_, rfl, (zB.wk (a' := (-3)) (b' := 11) (zB.of (x := (-1)) (-1) (by decide)) (by decide) (by decide))⟩, hI11_, hF11_⟩
      · skip
        intro b48_3 a48_7 b48_7 g48_ hI48_ hF48_ hM48_
        refine z_iload (pc := 48) C dX9_years_48 rfl ?_
        exact z_iret (pc := 50) C hr dX9_years_50 ⟨⟨_, rfl, b48_7⟩, hI48_, hF48_⟩
  obtain ⟨J0, J1⟩ := J 13
  show Z X 0 [some (zr 0 0), some (zi a1), some (zi a2), some (zi a3), some (zi a4), some (zi a5), some (zi a6), none] [] f
  refine z_iload_n (pc := 0) C dX9_years_0 rfl ?_
  refine z_iconst (pc := 1) (v := 1) C dX9_years_1 (by decide) ?_
  refine z_icmp_lt (pc := 2) 11 C dX9_years_2 (by decide) (fun h2_0 => ?_) (fun h2_0 => ?_)
  · skip
    have b2x : zB a3 (-2147483648) 0 := by have q1 := b3; have q2 := (zB.of (x := 1) 1 (by decide)); simp only [z32lt, z32le, z32eq, Int32.reduceToInt, Int32.toInt_zero] at h2_0; constructor <;> omega
    exact J0  f hI hF  (by omega)
  · skip
    have b3x : zB a3 1 2147483647 := by have q1 := b3; have q2 := (zB.of (x := 1) 1 (by decide)); simp only [z32lt, z32le, z32eq, Int32.reduceToInt, Int32.toInt_zero] at h2_0; constructor <;> omega
    refine z_iload_n (pc := 5) C dX9_years_5 rfl ?_
    refine z_bipush (pc := 6) (v := 40) C dX9_years_6 (by decide) ?_
    refine z_icmp_le (pc := 8) 13 C dX9_years_8 (by decide) (fun h8_3 => ?_) (fun h8_3 => ?_)
    · skip
      have b5x : zB a3 1 40 := by have q1 := b3x; have q2 := (zB.of (x := 40) 40 (by decide)); simp only [z32lt, z32le, z32eq, Int32.reduceToInt, Int32.toInt_zero] at h8_3; constructor <;> omega
      refine z_aload_n (pc := 13) C dX9_years_13 rfl ?_
      refine z_iload_n (pc := 14) C dX9_years_14 rfl ?_
      refine z_iload_n (pc := 15) C dX9_years_15 rfl ?_
      refine z_iload (pc := 16) C dX9_years_16 rfl ?_
      refine z_iload (pc := 18) C dX9_years_18 rfl ?_
      refine z_iload (pc := 20) C dX9_years_20 rfl ?_
      refine z_callV (pc := 22) C zk_X9_86 (w_X9_addPaper _ _ a1 b1 a2 b2 a4 b4 a5 b5 a6 b6 hI) rfl rfl (by decide) rfl rfl (Nat.le_of_ble_eq_true rfl) dX9_years_22 (fun r6 g6 q6 => ?_)
      obtain ⟨⟨v6, rfl, b6x⟩, hI6, hF6q⟩ := q6
      have hF6 := zFr.tr hF hF6q (by decide)
      simp only [Option.toList, List.cons_append, List.nil_append]
      refine z_istore (pc := 25) C dX9_years_25 (by rw [hn]; decide) rfl ?_
      refine z_iload (pc := 27) C dX9_years_27 rfl ?_
      refine z_if_lt (pc := 29) 48 C dX9_years_29 (by decide) (fun h29_6 => ?_) (fun h29_6 => ?_)
      · skip
        have b8x : zB v6 (-3) (-1) := by have q1 := b6x; have q2 := (zB.of (x := 0) 0 (by decide)); simp only [z32lt, z32le, z32eq, Int32.reduceToInt, Int32.toInt_zero] at h29_6; constructor <;> omega
        exact J1 b5x v6 (zB.wk (a' := (-3)) (b' := 11) b8x (by decide) (by decide)) g6 hI6 hF6  (by omega)
      · skip
        have b9x : zB v6 0 11 := by have q1 := b6x; have q2 := (zB.of (x := 0) 0 (by decide)); simp only [z32lt, z32le, z32eq, Int32.reduceToInt, Int32.toInt_zero] at h29_6; constructor <;> omega
        refine z_aload_n (pc := 32) C dX9_years_32 rfl ?_
        refine z_getR (pc := 33) C zf_X9_10 rfl rfl (by decide) dX9_years_33 ?_
        refine z_getR (pc := 36) C zf_X9_90 rfl rfl (by decide) dX9_years_36 ?_
        refine z_iload (pc := 39) C dX9_years_39 rfl ?_
        refine z_aald (pc := 41) C rfl ⟨rfl, by decide⟩ (by decide) (zIx b9x (by decide) (by decide)) dX9_years_41 ?_
        refine w_gr (by have hq := zN b9x (by decide); show 12 * 0 + v6.toNatClampNeg < 36; omega) (fun m10 h10x => ?_)
        refine z_iconst (pc := 42) (v := 0) C dX9_years_42 (by decide) ?_
        refine z_iload_n (pc := 43) C dX9_years_43 rfl ?_
        refine z_iconst (pc := 44) (v := 0) C dX9_years_44 (by decide) ?_
        refine z_callV (pc := 45) C zk_X9_94 (w_X4_become _ _ m10 h10x 0 (zB.wk (a' := 0) (b' := 2) (zB.of (x := 0) 0 (by decide)) (by decide) (by decide)) a3 (zB.wk (a' := 0) (b' := 40) b5x (by decide) (by decide)) 0 (zB.wk (a' := (-2147483648)) (b' := 2147483647) (zB.of (x := 0) 0 (by decide)) (by decide) (by decide)) hI6) rfl rfl h10x rfl rfl (Nat.le_of_ble_eq_true rfl) dX9_years_45 (fun r11 g11 q11 => ?_)
        obtain ⟨rfl, hI11, hF11q⟩ := q11
        have hF11 := zFr.tr hF6 hF11q (by decide)
        simp only [Option.toList, List.cons_append, List.nil_append]
        exact J1 b5x v6 (zB.wk (a' := (-3)) (b' := 11) b9x (by decide) (by decide)) g11 hI11 hF11  (by omega)
    · skip
      have b12x : zB a3 41 2147483647 := by have q1 := b3x; have q2 := (zB.of (x := 40) 40 (by decide)); simp only [z32lt, z32le, z32eq, Int32.reduceToInt, Int32.toInt_zero] at h8_3; constructor <;> omega
      exact J0  f hI hF  (by omega)

set_option maxRecDepth 100000 in
set_option maxHeartbeats 4000000 in
theorem w_X9_named (d : Nat) (f : zM) (a1 : Int32) (b1 : zB a1 (-2147483648) 2147483647) (a2 : Int32) (b2 : zB a2 (-2147483648) 2147483647) (a3 : Int32) (b3 : zB a3 (-2147483648) 2147483647) (a4 : Int32) (b4 : zB a4 (-2147483648) 2147483647) (a5 : Int32) (b5 : zB a5 (-2147483648) 2147483647) (a6 : Int32) (b6 : zB a6 (-2147483648) 2147483647) (hI : zInv f) : ZM (d + 2) yX9_named cX9_named 8 (some .int) [zr 0 0, zi a1, zi a2, zi a3, zi a4, zi a5, zi a6] f (fun r g => (∃ v, r = some (zi v) ∧ zB v (-3) 11) ∧ zInv g ∧ zFr [(1, some 7), (11, some 0), (11, some 1), (11, some 2), (11, some 3), (11, some 4), (11, some 5), (11, some 6), (11, some 7)] f g) := by
  refine ZM.intro (by decide +kernel) (Nat.le_of_ble_eq_true rfl) ?_
  intro X C hr hn
  have hF : zFr [(1, some 7), (11, some 0), (11, some 1), (11, some 2), (11, some 3), (11, some 4), (11, some 5), (11, some 6), (11, some 7)] f f := zFr.rf _ _
  have J : ∀ t : Nat, (∀ g : zM, zInv g → zFr [(1, some 7), (11, some 0), (11, some 1), (11, some 2), (11, some 3), (11, some 4), (11, some 5), (11, some 6), (11, some 7)] f g → (1 : Int) < t → Z X 26 [some (zr 0 0), some (zi a1), some (zi a2), some (zi a3), some (zi a4), some (zi a5), some (zi a6), none] [] g) ∧ (zB a2 0 5 → ∀ a63_7 : Int32, zB a63_7 (-3) 11 → ∀ g : zM, zInv g → zFr [(1, some 7), (11, some 0), (11, some 1), (11, some 2), (11, some 3), (11, some 4), (11, some 5), (11, some 6), (11, some 7)] f g → (0 : Int) < t → Z X 63 [some (zr 0 0), some (zi a1), some (zi a2), some (zi a3), some (zi a4), some (zi a5), some (zi a6), some (zi a63_7)] [] g) := by
    intro t
    induction t with
    | zero =>
      refine ⟨?_, ?_⟩ <;> (intros; exfalso; omega)
    | succ t ih =>
      obtain ⟨ih0, ih1⟩ := ih
      refine ⟨?_, ?_⟩
      · skip
        intro g26_ hI26_ hF26_ hM26_
        refine z_iconst (pc := 26) (v := -1) C dX9_named_26 (by decide) ?_
        exact z_iret (pc := 27) C hr dX9_named_27 ⟨⟨_, rfl, (zB.wk (a' := (-3)) (b' := 11) (zB.of (x := (-1)) (-1) (by decide)) (by decide) (by decide))⟩, hI26_, hF26_⟩
      · skip
        intro b63_2 a63_7 b63_7 g63_ hI63_ hF63_ hM63_
        refine z_iload (pc := 63) C dX9_named_63 rfl ?_
        exact z_iret (pc := 65) C hr dX9_named_65 ⟨⟨_, rfl, b63_7⟩, hI63_, hF63_⟩
  obtain ⟨J0, J1⟩ := J 13
  show Z X 0 [some (zr 0 0), some (zi a1), some (zi a2), some (zi a3), some (zi a4), some (zi a5), some (zi a6), none] [] f
  refine z_iload_n (pc := 0) C dX9_named_0 rfl ?_
  refine z_callSb (pc := 1) C zk_X9_46 (m_X9_isLand _ _ _) rfl rfl (Nat.le_of_ble_eq_true rfl) dX9_named_1 (fun h1_0 => ?_) (fun h1_0 => ?_)
  · skip
    have b2x : zB a2 0 5 := h1_0
    refine z_if_eq (pc := 4) 26 C dX9_named_4 (by decide) (fun h => absurd h (by decide)) (fun _ => ?_)
    refine z_iload_n (pc := 7) C dX9_named_7 rfl ?_
    refine z_if_eq (pc := 8) 26 C dX9_named_8 (by decide) (fun h8_2 => ?_) (fun h8_2 => ?_)
    · skip
      have b4x : zB a3 0 0 := by have q1 := b3; have q2 := (zB.of (x := 0) 0 (by decide)); simp only [z32lt, z32le, z32eq, Int32.reduceToInt, Int32.toInt_zero] at h8_2; constructor <;> omega
      exact J0  f hI hF  (by omega)
    · skip
      refine z_iload_n (pc := 11) C dX9_named_11 rfl ?_
      refine z_aload_n (pc := 12) C dX9_named_12 rfl ?_
      refine z_getR (pc := 13) C zf_X9_10 rfl rfl (by decide) dX9_named_13 ?_
      refine z_iload_n (pc := 16) C dX9_named_16 rfl ?_
      refine z_callV (pc := 17) C zk_X9_100 (w_X8_crimesOf _ _ a2 b2x hI) rfl rfl (by decide) rfl rfl (Nat.le_of_ble_eq_true rfl) dX9_named_17 (fun r5 g5 q5 => ?_)
      obtain ⟨⟨v5, rfl, b5x⟩, hI5, hF5q⟩ := q5
      obtain rfl := zFr_nil hF5q
      simp only [Option.toList, List.cons_append, List.nil_append]
      refine z_iconst (pc := 20) (v := -1) C dX9_named_20 (by decide) ?_
      refine z_ixor (pc := 21) C dX9_named_21 ?_
      refine w_gb (-2147483648) 2147483647 (zB_any _) (fun v6 b6x => ?_)
      refine z_iand (pc := 22) C dX9_named_22 ?_
      refine w_gb (-2147483648) 2147483647 (zB_any _) (fun v7 b7x => ?_)
      refine z_if_eq (pc := 23) 28 C dX9_named_23 (by decide) (fun h23_7 => ?_) (fun h23_7 => ?_)
      · skip
        have b9x : zB v7 0 0 := by have q1 := b7x; have q2 := (zB.of (x := 0) 0 (by decide)); simp only [z32lt, z32le, z32eq, Int32.reduceToInt, Int32.toInt_zero] at h23_7; constructor <;> omega
        refine z_aload_n (pc := 28) C dX9_named_28 rfl ?_
        refine z_iload_n (pc := 29) C dX9_named_29 rfl ?_
        refine z_iload_n (pc := 30) C dX9_named_30 rfl ?_
        refine z_iload (pc := 31) C dX9_named_31 rfl ?_
        refine z_iload (pc := 33) C dX9_named_33 rfl ?_
        refine z_iload (pc := 35) C dX9_named_35 rfl ?_
        refine z_callV (pc := 37) C zk_X9_86 (w_X9_addPaper _ _ a1 b1 a2 (zB.wk (a' := (-2147483648)) (b' := 2147483647) b2x (by decide) (by decide)) a4 b4 a5 b5 a6 b6 hI) rfl rfl (by decide) rfl rfl (Nat.le_of_ble_eq_true rfl) dX9_named_37 (fun r10 g10 q10 => ?_)
        obtain ⟨⟨v10, rfl, b10x⟩, hI10, hF10q⟩ := q10
        have hF10 := zFr.tr hF hF10q (by decide)
        simp only [Option.toList, List.cons_append, List.nil_append]
        refine z_istore (pc := 40) C dX9_named_40 (by rw [hn]; decide) rfl ?_
        refine z_iload (pc := 42) C dX9_named_42 rfl ?_
        refine z_if_lt (pc := 44) 63 C dX9_named_44 (by decide) (fun h44_10 => ?_) (fun h44_10 => ?_)
        · skip
          have b12x : zB v10 (-3) (-1) := by have q1 := b10x; have q2 := (zB.of (x := 0) 0 (by decide)); simp only [z32lt, z32le, z32eq, Int32.reduceToInt, Int32.toInt_zero] at h44_10; constructor <;> omega
          exact J1 b2x v10 (zB.wk (a' := (-3)) (b' := 11) b12x (by decide) (by decide)) g10 hI10 hF10  (by omega)
        · skip
          have b13x : zB v10 0 11 := by have q1 := b10x; have q2 := (zB.of (x := 0) 0 (by decide)); simp only [z32lt, z32le, z32eq, Int32.reduceToInt, Int32.toInt_zero] at h44_10; constructor <;> omega
          refine z_aload_n (pc := 47) C dX9_named_47 rfl ?_
          refine z_getR (pc := 48) C zf_X9_10 rfl rfl (by decide) dX9_named_48 ?_
          refine z_getR (pc := 51) C zf_X9_90 rfl rfl (by decide) dX9_named_51 ?_
          refine z_iload (pc := 54) C dX9_named_54 rfl ?_
          refine z_aald (pc := 56) C rfl ⟨rfl, by decide⟩ (by decide) (zIx b13x (by decide) (by decide)) dX9_named_56 ?_
          refine w_gr (by have hq := zN b13x (by decide); show 12 * 0 + v10.toNatClampNeg < 36; omega) (fun m14 h14x => ?_)
          refine z_iconst (pc := 57) (v := 1) C dX9_named_57 (by decide) ?_
          refine z_iconst (pc := 58) (v := 1) C dX9_named_58 (by decide) ?_
          refine z_iload_n (pc := 59) C dX9_named_59 rfl ?_
          refine z_callV (pc := 60) C zk_X9_94 (w_X4_become _ _ m14 h14x 1 (zB.wk (a' := 0) (b' := 2) (zB.of (x := 1) 1 (by decide)) (by decide) (by decide)) 1 (zB.wk (a' := 0) (b' := 40) (zB.of (x := 1) 1 (by decide)) (by decide) (by decide)) a3 b3 hI10) rfl rfl h14x rfl rfl (Nat.le_of_ble_eq_true rfl) dX9_named_60 (fun r15 g15 q15 => ?_)
          obtain ⟨rfl, hI15, hF15q⟩ := q15
          have hF15 := zFr.tr hF10 hF15q (by decide)
          simp only [Option.toList, List.cons_append, List.nil_append]
          exact J1 b2x v10 (zB.wk (a' := (-3)) (b' := 11) b13x (by decide) (by decide)) g15 hI15 hF15  (by omega)
      · skip
        exact J0  f hI hF  (by omega)
  · skip
    refine z_if_eq (pc := 4) 26 C dX9_named_4 (by decide) (fun _ => ?_) (fun h => absurd (by decide) h)
    exact J0  f hI hF  (by omega)

set_option maxRecDepth 100000 in
set_option maxHeartbeats 4000000 in
theorem w_X9_custom (d : Nat) (f : zM) (a1 : Int32) (b1 : zB a1 (-2147483648) 2147483647) (a2 : Int32) (b2 : zB a2 (-2147483648) 2147483647) (a3 : Int32) (b3 : zB a3 (-2147483648) 2147483647) (a4 : Int32) (b4 : zB a4 (-2147483648) 2147483647) (a5 : Int32) (b5 : zB a5 (-2147483648) 2147483647) (hI : zInv f) : ZM (d + 2) yX9_custom cX9_custom 7 (some .int) [zr 0 0, zi a1, zi a2, zi a3, zi a4, zi a5] f (fun r g => (∃ v, r = some (zi v) ∧ zB v (-3) 11) ∧ zInv g ∧ zFr [(1, some 7), (11, some 0), (11, some 1), (11, some 2), (11, some 3), (11, some 4), (11, some 5), (11, some 6), (11, some 7)] f g) := by
  refine ZM.intro (by decide +kernel) (Nat.le_of_ble_eq_true rfl) ?_
  intro X C hr hn
  have hF : zFr [(1, some 7), (11, some 0), (11, some 1), (11, some 2), (11, some 3), (11, some 4), (11, some 5), (11, some 6), (11, some 7)] f f := zFr.rf _ _
  have J : ∀ t : Nat, (∀ a34_6 : Int32, zB a34_6 (-3) 11 → ∀ g : zM, zInv g → zFr [(1, some 7), (11, some 0), (11, some 1), (11, some 2), (11, some 3), (11, some 4), (11, some 5), (11, some 6), (11, some 7)] f g → (0 : Int) < t → Z X 34 [some (zr 0 0), some (zi a1), some (zi a2), some (zi a3), some (zi a4), some (zi a5), some (zi a34_6)] [] g) := by
    intro t
    induction t with
    | zero =>
      intros; exfalso; omega
    | succ t ih =>
      have ih0 := ih
      intro a34_6 b34_6 g34_ hI34_ hF34_ hM34_
      refine z_iload (pc := 34) C dX9_custom_34 rfl ?_
      exact z_iret (pc := 36) C hr dX9_custom_36 ⟨⟨_, rfl, b34_6⟩, hI34_, hF34_⟩
  have J0 := J 12
  show Z X 0 [some (zr 0 0), some (zi a1), some (zi a2), some (zi a3), some (zi a4), some (zi a5), none] [] f
  refine z_aload_n (pc := 0) C dX9_custom_0 rfl ?_
  refine z_iload_n (pc := 1) C dX9_custom_1 rfl ?_
  refine z_iload_n (pc := 2) C dX9_custom_2 rfl ?_
  refine z_iload_n (pc := 3) C dX9_custom_3 rfl ?_
  refine z_iload (pc := 4) C dX9_custom_4 rfl ?_
  refine z_iload (pc := 6) C dX9_custom_6 rfl ?_
  refine z_callV (pc := 8) C zk_X9_86 (w_X9_addPaper _ _ a1 b1 a2 b2 a3 b3 a4 b4 a5 b5 hI) rfl rfl (by decide) rfl rfl (Nat.le_of_ble_eq_true rfl) dX9_custom_8 (fun r1 g1 q1 => ?_)
  obtain ⟨⟨v1, rfl, b1x⟩, hI1, hF1q⟩ := q1
  have hF1 := zFr.tr hF hF1q (by decide)
  simp only [Option.toList, List.cons_append, List.nil_append]
  refine z_istore (pc := 11) C dX9_custom_11 (by rw [hn]; decide) rfl ?_
  refine z_iload (pc := 13) C dX9_custom_13 rfl ?_
  refine z_if_lt (pc := 15) 34 C dX9_custom_15 (by decide) (fun h15_1 => ?_) (fun h15_1 => ?_)
  · skip
    have b3x : zB v1 (-3) (-1) := by have q1 := b1x; have q2 := (zB.of (x := 0) 0 (by decide)); simp only [z32lt, z32le, z32eq, Int32.reduceToInt, Int32.toInt_zero] at h15_1; constructor <;> omega
    exact J0 v1 (zB.wk (a' := (-3)) (b' := 11) b3x (by decide) (by decide)) g1 hI1 hF1  (by omega)
  · skip
    have b4x : zB v1 0 11 := by have q1 := b1x; have q2 := (zB.of (x := 0) 0 (by decide)); simp only [z32lt, z32le, z32eq, Int32.reduceToInt, Int32.toInt_zero] at h15_1; constructor <;> omega
    refine z_aload_n (pc := 18) C dX9_custom_18 rfl ?_
    refine z_getR (pc := 19) C zf_X9_10 rfl rfl (by decide) dX9_custom_19 ?_
    refine z_getR (pc := 22) C zf_X9_90 rfl rfl (by decide) dX9_custom_22 ?_
    refine z_iload (pc := 25) C dX9_custom_25 rfl ?_
    refine z_aald (pc := 27) C rfl ⟨rfl, by decide⟩ (by decide) (zIx b4x (by decide) (by decide)) dX9_custom_27 ?_
    refine w_gr (by have hq := zN b4x (by decide); show 12 * 0 + v1.toNatClampNeg < 36; omega) (fun m5 h5x => ?_)
    refine z_iconst (pc := 28) (v := 2) C dX9_custom_28 (by decide) ?_
    refine z_iconst (pc := 29) (v := 1) C dX9_custom_29 (by decide) ?_
    refine z_iconst (pc := 30) (v := 0) C dX9_custom_30 (by decide) ?_
    refine z_callV (pc := 31) C zk_X9_94 (w_X4_become _ _ m5 h5x 2 (zB.wk (a' := 0) (b' := 2) (zB.of (x := 2) 2 (by decide)) (by decide) (by decide)) 1 (zB.wk (a' := 0) (b' := 40) (zB.of (x := 1) 1 (by decide)) (by decide) (by decide)) 0 (zB.wk (a' := (-2147483648)) (b' := 2147483647) (zB.of (x := 0) 0 (by decide)) (by decide) (by decide)) hI1) rfl rfl h5x rfl rfl (Nat.le_of_ble_eq_true rfl) dX9_custom_31 (fun r6 g6 q6 => ?_)
    obtain ⟨rfl, hI6, hF6q⟩ := q6
    have hF6 := zFr.tr hF1 hF6q (by decide)
    simp only [Option.toList, List.cons_append, List.nil_append]
    exact J0 v1 (zB.wk (a' := (-3)) (b' := 11) b4x (by decide) (by decide)) g6 hI6 hF6  (by omega)

set_option maxRecDepth 100000 in
set_option maxHeartbeats 4000000 in
theorem w_X9_crimeOf (d : Nat) (f : zM) (a1 : Int32) (b1 : zB a1 (-2147483648) 2147483647) (a2 : Int32) (b2 : zB a2 (-2147483648) 2147483647) (hI : zInv f) : ZM d yX9_crimeOf cX9_crimeOf 4 (some .int) [zr 0 0, zi a1, zi a2] f (fun r g => (∃ v, r = some (zi v) ∧ zB v (-1) 63) ∧ zInv g ∧ zFr [] f g) := by
  refine ZM.intro (by decide +kernel) (Nat.le_of_ble_eq_true rfl) ?_
  intro X C hr hn
  have hF : zFr [] f f := zFr.rf _ _
  have J : ∀ t : Nat, (∀ g : zM, zInv g → zFr [] f g → (1 : Int) < t → Z X 15 [some (zr 0 0), some (zi a1), some (zi a2), none] [] g) ∧ (zB a1 0 23 → ∀ m105_3 : Nat, m105_3 < zcnt 7 → ∀ a105_s0 : Int32, zB a105_s0 0 1 → ∀ g : zM, zInv g → zFr [] f g → (0 : Int) < t → Z X 105 [some (zr 0 0), some (zi a1), some (zi a2), some (zr 7 m105_3)] [zi a105_s0] g) := by
    intro t
    induction t with
    | zero =>
      refine ⟨?_, ?_⟩ <;> (intros; exfalso; omega)
    | succ t ih =>
      obtain ⟨ih0, ih1⟩ := ih
      refine ⟨?_, ?_⟩
      · skip
        intro g15_ hI15_ hF15_ hM15_
        refine z_iconst (pc := 15) (v := -1) C dX9_crimeOf_15 (by decide) ?_
        exact z_iret (pc := 16) C hr dX9_crimeOf_16 ⟨⟨_, rfl, (zB.wk (a' := (-1)) (b' := 63) (zB.of (x := (-1)) (-1) (by decide)) (by decide) (by decide))⟩, hI15_, hF15_⟩
      · skip
        intro b105_1 m105_3 h105_3 a105_s0 b105_s0 g105_ hI105_ hF105_ hM105_
        exact z_iret (pc := 105) C hr dX9_crimeOf_105 ⟨⟨_, rfl, (zB.wk (a' := (-1)) (b' := 63) b105_s0 (by decide) (by decide))⟩, hI105_, hF105_⟩
  obtain ⟨J0, J1⟩ := J 13
  show Z X 0 [some (zr 0 0), some (zi a1), some (zi a2), none] [] f
  refine z_iload_n (pc := 0) C dX9_crimeOf_0 rfl ?_
  refine z_if_lt (pc := 1) 15 C dX9_crimeOf_1 (by decide) (fun h1_0 => ?_) (fun h1_0 => ?_)
  · skip
    have b2x : zB a1 (-2147483648) (-1) := by have q1 := b1; have q2 := (zB.of (x := 0) 0 (by decide)); simp only [z32lt, z32le, z32eq, Int32.reduceToInt, Int32.toInt_zero] at h1_0; constructor <;> omega
    exact J0  f hI hF  (by omega)
  · skip
    have b3x : zB a1 0 2147483647 := by have q1 := b1; have q2 := (zB.of (x := 0) 0 (by decide)); simp only [z32lt, z32le, z32eq, Int32.reduceToInt, Int32.toInt_zero] at h1_0; constructor <;> omega
    refine z_iload_n (pc := 4) C dX9_crimeOf_4 rfl ?_
    refine z_aload_n (pc := 5) C dX9_crimeOf_5 rfl ?_
    refine z_getR (pc := 6) C zf_X9_10 rfl rfl (by decide) dX9_crimeOf_6 ?_
    refine z_getI (pc := 9) C zf_X9_50 rfl rfl (by decide) dX9_crimeOf_9 ?_
    refine w_gb 0 24 (hI 1 _ 5) (fun v4 b4x => ?_)
    refine z_icmp_lt (pc := 12) 17 C dX9_crimeOf_12 (by decide) (fun h12_4 => ?_) (fun h12_4 => ?_)
    · skip
      have b6x : zB a1 0 23 := by have q1 := b3x; have q2 := b4x; simp only [z32lt, z32le, z32eq, Int32.reduceToInt, Int32.toInt_zero] at h12_4; constructor <;> omega
      have b7x : zB v4 1 24 := by have q1 := b3x; have q2 := b4x; simp only [z32lt, z32le, z32eq, Int32.reduceToInt, Int32.toInt_zero] at h12_4; constructor <;> omega
      refine z_aload_n (pc := 17) C dX9_crimeOf_17 rfl ?_
      refine z_getR (pc := 18) C zf_X9_10 rfl rfl (by decide) dX9_crimeOf_18 ?_
      refine z_getR (pc := 21) C zf_X9_54 rfl rfl (by decide) dX9_crimeOf_21 ?_
      refine z_iload_n (pc := 24) C dX9_crimeOf_24 rfl ?_
      refine z_aald (pc := 25) C rfl ⟨rfl, by decide⟩ (by decide) (zIx b6x (by decide) (by decide)) dX9_crimeOf_25 ?_
      refine w_gr (by have hq := zN b6x (by decide); show 24 * 0 + a1.toNatClampNeg < 60; omega) (fun m8 h8x => ?_)
      refine z_astore_n (pc := 26) C dX9_crimeOf_26 (by rw [hn]; decide) rfl ?_
      refine z_iload_n (pc := 27) C dX9_crimeOf_27 rfl ?_
      by_cases hsw0 : a2 = 0
      · skip
        refine z_tabE (pc := 28) hsw0 68 C dX9_crimeOf_28 (by decide) (by decide) rfl (by decide) ?_
        refine z_aload_n (pc := 68) C dX9_crimeOf_68 rfl ?_
        refine z_getI (pc := 69) C zf_X9_135 rfl rfl h8x dX9_crimeOf_69 ?_
        refine w_gb 0 5 (hI 7 _ 0) (fun v9 b9x => ?_)
        exact z_iret (pc := 72) C hr dX9_crimeOf_72 ⟨⟨_, rfl, (zB.wk (a' := (-1)) (b' := 63) b9x (by decide) (by decide))⟩, hI, hF⟩
      · skip
        by_cases hsw1 : a2 = 1
        · skip
          refine z_tabE (pc := 28) hsw1 73 C dX9_crimeOf_28 (by decide) (by decide) rfl (by decide) ?_
          refine z_aload_n (pc := 73) C dX9_crimeOf_73 rfl ?_
          refine z_getI (pc := 74) C zf_X9_138 rfl rfl h8x dX9_crimeOf_74 ?_
          refine w_gb 0 63 (hI 7 _ 1) (fun v10 b10x => ?_)
          exact z_iret (pc := 77) C hr dX9_crimeOf_77 ⟨⟨_, rfl, (zB.wk (a' := (-1)) (b' := 63) b10x (by decide) (by decide))⟩, hI, hF⟩
        · skip
          by_cases hsw2 : a2 = 2
          · skip
            refine z_tabE (pc := 28) hsw2 78 C dX9_crimeOf_28 (by decide) (by decide) rfl (by decide) ?_
            refine z_aload_n (pc := 78) C dX9_crimeOf_78 rfl ?_
            refine z_getI (pc := 79) C zf_X9_141 rfl rfl h8x dX9_crimeOf_79 ?_
            refine w_gb 0 63 (hI 7 _ 2) (fun v11 b11x => ?_)
            exact z_iret (pc := 82) C hr dX9_crimeOf_82 ⟨⟨_, rfl, (zB.wk (a' := (-1)) (b' := 63) b11x (by decide) (by decide))⟩, hI, hF⟩
          · skip
            by_cases hsw3 : a2 = 3
            · skip
              refine z_tabE (pc := 28) hsw3 83 C dX9_crimeOf_28 (by decide) (by decide) rfl (by decide) ?_
              refine z_aload_n (pc := 83) C dX9_crimeOf_83 rfl ?_
              refine z_getI (pc := 84) C zf_X9_144 rfl rfl h8x dX9_crimeOf_84 ?_
              refine w_gb 0 40 (hI 7 _ 3) (fun v12 b12x => ?_)
              exact z_iret (pc := 87) C hr dX9_crimeOf_87 ⟨⟨_, rfl, (zB.wk (a' := (-1)) (b' := 63) b12x (by decide) (by decide))⟩, hI, hF⟩
            · skip
              by_cases hsw4 : a2 = 4
              · skip
                refine z_tabE (pc := 28) hsw4 88 C dX9_crimeOf_28 (by decide) (by decide) rfl (by decide) ?_
                refine z_aload_n (pc := 88) C dX9_crimeOf_88 rfl ?_
                refine z_getI (pc := 89) C zf_X9_147 rfl rfl h8x dX9_crimeOf_89 ?_
                refine w_gb 0 40 (hI 7 _ 4) (fun v13 b13x => ?_)
                exact z_iret (pc := 92) C hr dX9_crimeOf_92 ⟨⟨_, rfl, (zB.wk (a' := (-1)) (b' := 63) b13x (by decide) (by decide))⟩, hI, hF⟩
              · skip
                by_cases hsw5 : a2 = 5
                · skip
                  refine z_tabE (pc := 28) hsw5 93 C dX9_crimeOf_28 (by decide) (by decide) rfl (by decide) ?_
                  refine z_aload_n (pc := 93) C dX9_crimeOf_93 rfl ?_
                  refine z_getI (pc := 94) C zf_X9_150 rfl rfl h8x dX9_crimeOf_94 ?_
                  refine w_gb 0 1 (hI 7 _ 5) (fun v14 b14x => ?_)
                  refine z_if_eq (pc := 97) 104 C dX9_crimeOf_97 (by decide) (fun h97_14 => ?_) (fun h97_14 => ?_)
                  · skip
                    have b16x : zB v14 0 0 := by have q1 := b14x; have q2 := (zB.of (x := 0) 0 (by decide)); simp only [z32lt, z32le, z32eq, Int32.reduceToInt, Int32.toInt_zero] at h97_14; constructor <;> omega
                    refine z_iconst (pc := 104) (v := 0) C dX9_crimeOf_104 (by decide) ?_
                    exact J1 b6x m8 h8x 0 (zB.wk (a' := 0) (b' := 1) (zB.of (x := 0) 0 (by decide)) (by decide) (by decide)) f hI hF  (by have qc0 : (0 : Int32).toInt = 0 := (by decide); omega)
                  · skip
                    have b17x : zB v14 1 1 := by have q1 := b14x; have q2 := (zB.of (x := 0) 0 (by decide)); simp only [z32lt, z32le, z32eq, Int32.reduceToInt, Int32.toInt_zero] at h97_14; constructor <;> omega
                    refine z_iconst (pc := 100) (v := 1) C dX9_crimeOf_100 (by decide) ?_
                    refine z_goto (pc := 101) 105 C dX9_crimeOf_101 (by decide) ?_
                    exact J1 b6x m8 h8x 1 (zB.wk (a' := 0) (b' := 1) (zB.of (x := 1) 1 (by decide)) (by decide) (by decide)) f hI hF  (by have qc0 : (1 : Int32).toInt = 1 := (by decide); omega)
                · skip
                  refine z_tabOut (pc := 28) 106 C dX9_crimeOf_28 (by simp only [z32eq, Int32.reduceToInt, Int32.toInt_zero, Int32.toInt_one] at *; omega) (by decide) ?_
                  refine z_iconst (pc := 106) (v := -1) C dX9_crimeOf_106 (by decide) ?_
                  exact z_iret (pc := 107) C hr dX9_crimeOf_107 ⟨⟨_, rfl, (zB.wk (a' := (-1)) (b' := 63) (zB.of (x := (-1)) (-1) (by decide)) (by decide) (by decide))⟩, hI, hF⟩
    · skip
      exact J0  f hI hF  (by omega)

set_option maxRecDepth 100000 in
set_option maxHeartbeats 4000000 in
theorem w_X9_paper (d : Nat) (f : zM) (a1 : Int32) (b1 : zB a1 (-2147483648) 2147483647) (a2 : Int32) (b2 : zB a2 (-2147483648) 2147483647) (hI : zInv f) : ZM (d + 1) yX9_paper cX9_paper 4 (some .int) [zr 0 0, zi a1, zi a2] f (fun r g => (∃ v, r = some (zi v) ∧ zB v (-2147483648) 2147483647) ∧ zInv g ∧ zFr [] f g) := by
  refine ZM.intro (by decide +kernel) (Nat.le_of_ble_eq_true rfl) ?_
  intro X C hr hn
  have hF : zFr [] f f := zFr.rf _ _
  have J : ∀ t : Nat, (zB a1 0 11 → ∀ m100_3 : Nat, m100_3 < zcnt 11 → ∀ a100_s0 : Int32, zB a100_s0 (-12) 40 → ∀ g : zM, zInv g → zFr [] f g → (1 : Int) < t → Z X 100 [some (zr 0 0), some (zi a1), some (zi a2), some (zr 11 m100_3)] [zi a100_s0] g) ∧ (zB a1 0 11 → ∀ m118_3 : Nat, m118_3 < zcnt 11 → ∀ a118_s0 : Int32, zB a118_s0 (-2147483648) 2147483647 → ∀ g : zM, zInv g → zFr [] f g → (0 : Int) < t → Z X 118 [some (zr 0 0), some (zi a1), some (zi a2), some (zr 11 m118_3)] [zi a118_s0] g) := by
    intro t
    induction t with
    | zero =>
      refine ⟨?_, ?_⟩ <;> (intros; exfalso; omega)
    | succ t ih =>
      obtain ⟨ih0, ih1⟩ := ih
      refine ⟨?_, ?_⟩
      · skip
        intro b100_1 m100_3 h100_3 a100_s0 b100_s0 g100_ hI100_ hF100_ hM100_
        exact z_iret (pc := 100) C hr dX9_paper_100 ⟨⟨_, rfl, (zB.wk (a' := (-2147483648)) (b' := 2147483647) b100_s0 (by decide) (by decide))⟩, hI100_, hF100_⟩
      · skip
        intro b118_1 m118_3 h118_3 a118_s0 b118_s0 g118_ hI118_ hF118_ hM118_
        exact z_iret (pc := 118) C hr dX9_paper_118 ⟨⟨_, rfl, b118_s0⟩, hI118_, hF118_⟩
  obtain ⟨J0, J1⟩ := J 13
  show Z X 0 [some (zr 0 0), some (zi a1), some (zi a2), none] [] f
  refine z_aload_n (pc := 0) C dX9_paper_0 rfl ?_
  refine z_iload_n (pc := 1) C dX9_paper_1 rfl ?_
  refine z_callVb (pc := 2) C zk_X9_153 (m_X9_isPaper _ _ _) rfl rfl (by decide) rfl rfl (Nat.le_of_ble_eq_true rfl) dX9_paper_2 (fun h2_0 => ?_) (fun h2_0 => ?_)
  · skip
    have b2x : zB a1 0 11 := (zltc h2_0 (hI 1 0 7).2)
    refine z_if_ne (pc := 5) 10 C dX9_paper_5 (by decide) (fun _ => ?_) (fun h => absurd h (by decide))
    refine z_aload_n (pc := 10) C dX9_paper_10 rfl ?_
    refine z_getR (pc := 11) C zf_X9_10 rfl rfl (by decide) dX9_paper_11 ?_
    refine z_getR (pc := 14) C zf_X9_90 rfl rfl (by decide) dX9_paper_14 ?_
    refine z_iload_n (pc := 17) C dX9_paper_17 rfl ?_
    refine z_aald (pc := 18) C rfl ⟨rfl, by decide⟩ (by decide) (zIx b2x (by decide) (by decide)) dX9_paper_18 ?_
    refine w_gr (by have hq := zN b2x (by decide); show 12 * 0 + a1.toNatClampNeg < 36; omega) (fun m3 h3x => ?_)
    refine z_astore_n (pc := 19) C dX9_paper_19 (by rw [hn]; decide) rfl ?_
    refine z_iload_n (pc := 20) C dX9_paper_20 rfl ?_
    by_cases hsw0 : a2 = 0
    · skip
      refine z_tabE (pc := 21) hsw0 68 C dX9_paper_21 (by decide) (by decide) rfl (by decide) ?_
      refine z_aload_n (pc := 68) C dX9_paper_68 rfl ?_
      refine z_getI (pc := 69) C zf_X9_156 rfl rfl h3x dX9_paper_69 ?_
      refine w_gb 0 2 (hI 11 _ 0) (fun v4 b4x => ?_)
      exact z_iret (pc := 72) C hr dX9_paper_72 ⟨⟨_, rfl, (zB.wk (a' := (-2147483648)) (b' := 2147483647) b4x (by decide) (by decide))⟩, hI, hF⟩
    · skip
      by_cases hsw1 : a2 = 1
      · skip
        refine z_tabE (pc := 21) hsw1 73 C dX9_paper_21 (by decide) (by decide) rfl (by decide) ?_
        refine z_aload_n (pc := 73) C dX9_paper_73 rfl ?_
        refine z_getI (pc := 74) C zf_X9_159 rfl rfl h3x dX9_paper_74 ?_
        refine w_gb 0 5 (hI 11 _ 1) (fun v5 b5x => ?_)
        exact z_iret (pc := 77) C hr dX9_paper_77 ⟨⟨_, rfl, (zB.wk (a' := (-2147483648)) (b' := 2147483647) b5x (by decide) (by decide))⟩, hI, hF⟩
      · skip
        by_cases hsw2 : a2 = 2
        · skip
          refine z_tabE (pc := 21) hsw2 78 C dX9_paper_21 (by decide) (by decide) rfl (by decide) ?_
          refine z_aload_n (pc := 78) C dX9_paper_78 rfl ?_
          refine z_getI (pc := 79) C zf_X9_162 rfl rfl h3x dX9_paper_79 ?_
          refine w_gb 0 5 (hI 11 _ 2) (fun v6 b6x => ?_)
          exact z_iret (pc := 82) C hr dX9_paper_82 ⟨⟨_, rfl, (zB.wk (a' := (-2147483648)) (b' := 2147483647) b6x (by decide) (by decide))⟩, hI, hF⟩
        · skip
          by_cases hsw3 : a2 = 3
          · skip
            refine z_tabE (pc := 21) hsw3 83 C dX9_paper_21 (by decide) (by decide) rfl (by decide) ?_
            refine z_aload_n (pc := 83) C dX9_paper_83 rfl ?_
            refine z_getI (pc := 84) C zf_X9_156 rfl rfl h3x dX9_paper_84 ?_
            refine w_gb 0 2 (hI 11 _ 0) (fun v7 b7x => ?_)
            refine z_iconst (pc := 87) (v := 2) C dX9_paper_87 (by decide) ?_
            refine z_icmp_ne (pc := 88) 96 C dX9_paper_88 (by decide) (fun h88_7 => ?_) (fun h88_7 => ?_)
            · skip
              have b9x : zB v7 0 1 := by have q1 := b7x; have q2 := (zB.of (x := 2) 2 (by decide)); simp only [z32lt, z32le, z32eq, Int32.reduceToInt, Int32.toInt_zero] at h88_7; constructor <;> omega
              refine z_aload_n (pc := 96) C dX9_paper_96 rfl ?_
              refine z_getI (pc := 97) C zf_X9_165 rfl rfl h3x dX9_paper_97 ?_
              refine w_gb 0 40 (hI 11 _ 3) (fun v10 b10x => ?_)
              exact J0 b2x m3 h3x v10 (zB.wk (a' := (-12)) (b' := 40) b10x (by decide) (by decide)) f hI hF  (by omega)
            · skip
              have b11x : zB v7 2 2 := by have q1 := b7x; have q2 := (zB.of (x := 2) 2 (by decide)); simp only [z32lt, z32le, z32eq, Int32.reduceToInt, Int32.toInt_zero] at h88_7; constructor <;> omega
              refine z_bipush (pc := 91) (v := -12) C dX9_paper_91 (by decide) ?_
              refine z_goto (pc := 93) 100 C dX9_paper_93 (by decide) ?_
              exact J0 b2x m3 h3x (-12) (zB.wk (a' := (-12)) (b' := 40) (zB.of (x := (-12)) (-12) (by decide)) (by decide) (by decide)) f hI hF  (by have qc0 : ((-12) : Int32).toInt = (-12) := (by decide); omega)
          · skip
            by_cases hsw4 : a2 = 4
            · skip
              refine z_tabE (pc := 21) hsw4 101 C dX9_paper_21 (by decide) (by decide) rfl (by decide) ?_
              refine z_aload_n (pc := 101) C dX9_paper_101 rfl ?_
              refine z_getI (pc := 102) C zf_X9_156 rfl rfl h3x dX9_paper_102 ?_
              refine w_gb 0 2 (hI 11 _ 0) (fun v12 b12x => ?_)
              refine z_iconst (pc := 105) (v := 1) C dX9_paper_105 (by decide) ?_
              refine z_icmp_ne (pc := 106) 116 C dX9_paper_106 (by decide) (fun h106_12 => ?_) (fun h106_12 => ?_)
              · skip
                refine z_bipush (pc := 116) (v := -12) C dX9_paper_116 (by decide) ?_
                exact J1 b2x m3 h3x (-12) (zB.wk (a' := (-2147483648)) (b' := 2147483647) (zB.of (x := (-12)) (-12) (by decide)) (by decide) (by decide)) f hI hF  (by have qc0 : ((-12) : Int32).toInt = (-12) := (by decide); omega)
              · skip
                have b14x : zB v12 1 1 := by have q1 := b12x; have q2 := (zB.of (x := 1) 1 (by decide)); simp only [z32lt, z32le, z32eq, Int32.reduceToInt, Int32.toInt_zero] at h106_12; constructor <;> omega
                refine z_aload_n (pc := 109) C dX9_paper_109 rfl ?_
                refine z_getI (pc := 110) C zf_X9_168 rfl rfl h3x dX9_paper_110 ?_
                refine w_gb (-2147483648) 2147483647 (hI 11 _ 4) (fun v15 b15x => ?_)
                refine z_goto (pc := 113) 118 C dX9_paper_113 (by decide) ?_
                exact J1 b2x m3 h3x v15 b15x f hI hF  (by omega)
            · skip
              by_cases hsw5 : a2 = 5
              · skip
                refine z_tabE (pc := 21) hsw5 119 C dX9_paper_21 (by decide) (by decide) rfl (by decide) ?_
                refine z_aload_n (pc := 119) C dX9_paper_119 rfl ?_
                refine z_getI (pc := 120) C zf_X9_170 rfl rfl h3x dX9_paper_120 ?_
                refine w_gb 0 31 (hI 11 _ 5) (fun v16 b16x => ?_)
                exact z_iret (pc := 123) C hr dX9_paper_123 ⟨⟨_, rfl, (zB.wk (a' := (-2147483648)) (b' := 2147483647) b16x (by decide) (by decide))⟩, hI, hF⟩
              · skip
                by_cases hsw6 : a2 = 6
                · skip
                  refine z_tabE (pc := 21) hsw6 124 C dX9_paper_21 (by decide) (by decide) rfl (by decide) ?_
                  refine z_aload_n (pc := 124) C dX9_paper_124 rfl ?_
                  refine z_getI (pc := 125) C zf_X9_173 rfl rfl h3x dX9_paper_125 ?_
                  refine w_gb 0 99 (hI 11 _ 6) (fun v17 b17x => ?_)
                  exact z_iret (pc := 128) C hr dX9_paper_128 ⟨⟨_, rfl, (zB.wk (a' := (-2147483648)) (b' := 2147483647) b17x (by decide) (by decide))⟩, hI, hF⟩
                · skip
                  by_cases hsw7 : a2 = 7
                  · skip
                    refine z_tabE (pc := 21) hsw7 129 C dX9_paper_21 (by decide) (by decide) rfl (by decide) ?_
                    refine z_aload_n (pc := 129) C dX9_paper_129 rfl ?_
                    refine z_getI (pc := 130) C zf_X9_176 rfl rfl h3x dX9_paper_130 ?_
                    refine w_gb 0 7 (hI 11 _ 7) (fun v18 b18x => ?_)
                    exact z_iret (pc := 133) C hr dX9_paper_133 ⟨⟨_, rfl, (zB.wk (a' := (-2147483648)) (b' := 2147483647) b18x (by decide) (by decide))⟩, hI, hF⟩
                  · skip
                    refine z_tabOut (pc := 21) 134 C dX9_paper_21 (by simp only [z32eq, Int32.reduceToInt, Int32.toInt_zero, Int32.toInt_one] at *; omega) (by decide) ?_
                    refine z_iconst (pc := 134) (v := -1) C dX9_paper_134 (by decide) ?_
                    exact z_iret (pc := 135) C hr dX9_paper_135 ⟨⟨_, rfl, (zB.wk (a' := (-2147483648)) (b' := 2147483647) (zB.of (x := (-1)) (-1) (by decide)) (by decide) (by decide))⟩, hI, hF⟩
  · skip
    refine z_if_ne (pc := 5) 10 C dX9_paper_5 (by decide) (fun h => absurd (by decide) h) (fun _ => ?_)
    refine z_iconst (pc := 8) (v := -1) C dX9_paper_8 (by decide) ?_
    exact z_iret (pc := 9) C hr dX9_paper_9 ⟨⟨_, rfl, (zB.wk (a' := (-2147483648)) (b' := 2147483647) (zB.of (x := (-1)) (-1) (by decide)) (by decide) (by decide))⟩, hI, hF⟩

set_option maxRecDepth 100000 in
set_option maxHeartbeats 4000000 in
theorem w_X9_bars (d : Nat) (f : zM) (a1 : Int32) (b1 : zB a1 (-2147483648) 2147483647) (a2 : Int32) (b2 : zB a2 (-2147483648) 2147483647) (hI : zInv f) : ZM (d + 1) yX9_bars cX9_bars 4 (some .int) [zr 0 0, zi a1, zi a2] f (fun r g => (∃ v, r = some (zi v) ∧ zB v (-1) 31) ∧ zInv g ∧ zFr [(11, some 5)] f g) := by
  refine ZM.intro (by decide +kernel) (Nat.le_of_ble_eq_true rfl) ?_
  intro X C hr hn
  have hF : zFr [(11, some 5)] f f := zFr.rf _ _
  have J : ∀ t : Nat, (∀ g : zM, zInv g → zFr [(11, some 5)] f g → (0 : Int) < t → Z X 18 [some (zr 0 0), some (zi a1), some (zi a2), none] [] g) := by
    intro t
    induction t with
    | zero =>
      intros; exfalso; omega
    | succ t ih =>
      have ih0 := ih
      intro g18_ hI18_ hF18_ hM18_
      refine z_iconst (pc := 18) (v := -1) C dX9_bars_18 (by decide) ?_
      exact z_iret (pc := 19) C hr dX9_bars_19 ⟨⟨_, rfl, (zB.wk (a' := (-1)) (b' := 31) (zB.of (x := (-1)) (-1) (by decide)) (by decide) (by decide))⟩, hI18_, hF18_⟩
  have J0 := J 12
  show Z X 0 [some (zr 0 0), some (zi a1), some (zi a2), none] [] f
  refine z_aload_n (pc := 0) C dX9_bars_0 rfl ?_
  refine z_iload_n (pc := 1) C dX9_bars_1 rfl ?_
  refine z_callVb (pc := 2) C zk_X9_153 (m_X9_isPaper _ _ _) rfl rfl (by decide) rfl rfl (Nat.le_of_ble_eq_true rfl) dX9_bars_2 (fun h2_0 => ?_) (fun h2_0 => ?_)
  · skip
    have b2x : zB a1 0 11 := (zltc h2_0 (hI 1 0 7).2)
    refine z_if_eq (pc := 5) 18 C dX9_bars_5 (by decide) (fun h => absurd h (by decide)) (fun _ => ?_)
    refine z_iload_n (pc := 8) C dX9_bars_8 rfl ?_
    refine z_if_lt (pc := 9) 18 C dX9_bars_9 (by decide) (fun h9_2 => ?_) (fun h9_2 => ?_)
    · skip
      have b4x : zB a2 (-2147483648) (-1) := by have q1 := b2; have q2 := (zB.of (x := 0) 0 (by decide)); simp only [z32lt, z32le, z32eq, Int32.reduceToInt, Int32.toInt_zero] at h9_2; constructor <;> omega
      exact J0  f hI hF  (by omega)
    · skip
      have b5x : zB a2 0 2147483647 := by have q1 := b2; have q2 := (zB.of (x := 0) 0 (by decide)); simp only [z32lt, z32le, z32eq, Int32.reduceToInt, Int32.toInt_zero] at h9_2; constructor <;> omega
      refine z_iload_n (pc := 12) C dX9_bars_12 rfl ?_
      refine z_bipush (pc := 13) (v := 31) C dX9_bars_13 (by decide) ?_
      refine z_icmp_le (pc := 15) 20 C dX9_bars_15 (by decide) (fun h15_5 => ?_) (fun h15_5 => ?_)
      · skip
        have b7x : zB a2 0 31 := by have q1 := b5x; have q2 := (zB.of (x := 31) 31 (by decide)); simp only [z32lt, z32le, z32eq, Int32.reduceToInt, Int32.toInt_zero] at h15_5; constructor <;> omega
        refine z_aload_n (pc := 20) C dX9_bars_20 rfl ?_
        refine z_getR (pc := 21) C zf_X9_10 rfl rfl (by decide) dX9_bars_21 ?_
        refine z_getR (pc := 24) C zf_X9_90 rfl rfl (by decide) dX9_bars_24 ?_
        refine z_iload_n (pc := 27) C dX9_bars_27 rfl ?_
        refine z_aald (pc := 28) C rfl ⟨rfl, by decide⟩ (by decide) (zIx b2x (by decide) (by decide)) dX9_bars_28 ?_
        refine w_gr (by have hq := zN b2x (by decide); show 12 * 0 + a1.toNatClampNeg < 36; omega) (fun m8 h8x => ?_)
        refine z_getI (pc := 29) C zf_X9_170 rfl rfl h8x dX9_bars_29 ?_
        refine w_gb 0 31 (hI 11 _ 5) (fun v9 b9x => ?_)
        refine z_istore_n (pc := 32) C dX9_bars_32 (by rw [hn]; decide) rfl ?_
        refine z_aload_n (pc := 33) C dX9_bars_33 rfl ?_
        refine z_getR (pc := 34) C zf_X9_10 rfl rfl (by decide) dX9_bars_34 ?_
        refine z_getR (pc := 37) C zf_X9_90 rfl rfl (by decide) dX9_bars_37 ?_
        refine z_iload_n (pc := 40) C dX9_bars_40 rfl ?_
        refine z_aald (pc := 41) C rfl ⟨rfl, by decide⟩ (by decide) (zIx b2x (by decide) (by decide)) dX9_bars_41 ?_
        refine w_gr (by have hq := zN b2x (by decide); show 12 * 0 + a1.toNatClampNeg < 36; omega) (fun m10 h10x => ?_)
        refine z_iload_n (pc := 42) C dX9_bars_42 rfl ?_
        refine z_putI (pc := 43) C zf_X9_170 zp_4_5 rfl rfl h10x dX9_bars_43 ?_
        refine w_mem hI hF b7x rfl (fun g11 hI11 hF11 => ?_)
        refine z_iload_n (pc := 46) C dX9_bars_46 rfl ?_
        exact z_iret (pc := 47) C hr dX9_bars_47 ⟨⟨_, rfl, (zB.wk (a' := (-1)) (b' := 31) b9x (by decide) (by decide))⟩, hI11, hF11⟩
      · skip
        have b12x : zB a2 32 2147483647 := by have q1 := b5x; have q2 := (zB.of (x := 31) 31 (by decide)); simp only [z32lt, z32le, z32eq, Int32.reduceToInt, Int32.toInt_zero] at h15_5; constructor <;> omega
        exact J0  f hI hF  (by omega)
  · skip
    refine z_if_eq (pc := 5) 18 C dX9_bars_5 (by decide) (fun _ => ?_) (fun h => absurd (by decide) h)
    exact J0  f hI hF  (by omega)

set_option maxRecDepth 100000 in
set_option maxHeartbeats 4000000 in
theorem w_X9_matches (d : Nat) (f : zM) (a1 : Int32) (b1 : zB a1 (-2147483648) 2147483647) (a2 : Int32) (b2 : zB a2 (-2147483648) 2147483647) (a3 : Int32) (b3 : zB a3 (-2147483648) 2147483647) (hI : zInv f) : ZM (d + 1) yX9_matches cX9_matches 5 (some .int) [zr 0 0, zi a1, zi a2, zi a3] f (fun r g => (∃ v, r = some (zi v) ∧ zB v (-1) 16777215) ∧ zInv g ∧ zFr [] f g) := by
  refine ZM.intro (by decide +kernel) (Nat.le_of_ble_eq_true rfl) ?_
  intro X C hr hn
  have hF : zFr [] f f := zFr.rf _ _
  have J : ∀ t : Nat, (∀ g : zM, zInv g → zFr [] f g → (1 : Int) < t → Z X 24 [some (zr 0 0), some (zi a1), some (zi a2), some (zi a3), none] [] g) ∧ (zB a1 0 7 → zB a2 0 5 → zB a3 0 1 → ∀ m62_4 : Nat, m62_4 < zcnt 8 → ∀ a62_s0 : Int32, zB a62_s0 0 16777215 → ∀ a62_s1 : Int32, zB a62_s1 0 16777215 → ∀ g : zM, zInv g → zFr [] f g → (0 : Int) < t → Z X 62 [some (zr 0 0), some (zi a1), some (zi a2), some (zi a3), some (zr 8 m62_4)] [zi a62_s1, zi a62_s0] g) := by
    intro t
    induction t with
    | zero =>
      refine ⟨?_, ?_⟩ <;> (intros; exfalso; omega)
    | succ t ih =>
      obtain ⟨ih0, ih1⟩ := ih
      refine ⟨?_, ?_⟩
      · skip
        intro g24_ hI24_ hF24_ hM24_
        refine z_iconst (pc := 24) (v := -1) C dX9_matches_24 (by decide) ?_
        exact z_iret (pc := 25) C hr dX9_matches_25 ⟨⟨_, rfl, (zB.wk (a' := (-1)) (b' := 16777215) (zB.of (x := (-1)) (-1) (by decide)) (by decide) (by decide))⟩, hI24_, hF24_⟩
      · skip
        intro b62_1 b62_2 b62_3 m62_4 h62_4 a62_s0 b62_s0 a62_s1 b62_s1 g62_ hI62_ hF62_ hM62_
        refine z_iand (pc := 62) C dX9_matches_62 ?_
        refine w_gp (fun v => zB v 0 16777215 ∧ v.toInt ≤ a62_s1.toInt) (zand_r b62_s0 b62_s1 (by decide)) (fun v1 e1 => ?_)
        have b1x := e1.1
        have r1 := e1.2
        exact z_iret (pc := 63) C hr dX9_matches_63 ⟨⟨_, rfl, (zB.wk (a' := (-1)) (b' := 16777215) b1x (by decide) (by decide))⟩, hI62_, hF62_⟩
  obtain ⟨J0, J1⟩ := J 13
  show Z X 0 [some (zr 0 0), some (zi a1), some (zi a2), some (zi a3), none] [] f
  refine z_aload_n (pc := 0) C dX9_matches_0 rfl ?_
  refine z_iload_n (pc := 1) C dX9_matches_1 rfl ?_
  refine z_callVb (pc := 2) C zk_X9_179 (m_X9_isDeed _ _ _) rfl rfl (by decide) rfl rfl (Nat.le_of_ble_eq_true rfl) dX9_matches_2 (fun h2_1 => ?_) (fun h2_1 => ?_)
  · skip
    have b3x : zB a1 0 7 := (zltc h2_1 (hI 1 0 6).2)
    refine z_if_eq (pc := 5) 24 C dX9_matches_5 (by decide) (fun h => absurd h (by decide)) (fun _ => ?_)
    refine z_iload_n (pc := 8) C dX9_matches_8 rfl ?_
    refine z_callSb (pc := 9) C zk_X9_46 (m_X9_isLand _ _ _) rfl rfl (Nat.le_of_ble_eq_true rfl) dX9_matches_9 (fun h9_3 => ?_) (fun h9_3 => ?_)
    · skip
      have b5x : zB a2 0 5 := h9_3
      refine z_if_eq (pc := 12) 24 C dX9_matches_12 (by decide) (fun h => absurd h (by decide)) (fun _ => ?_)
      refine z_iload_n (pc := 15) C dX9_matches_15 rfl ?_
      refine z_if_lt (pc := 16) 24 C dX9_matches_16 (by decide) (fun h16_5 => ?_) (fun h16_5 => ?_)
      · skip
        have b7x : zB a3 (-2147483648) (-1) := by have q1 := b3; have q2 := (zB.of (x := 0) 0 (by decide)); simp only [z32lt, z32le, z32eq, Int32.reduceToInt, Int32.toInt_zero] at h16_5; constructor <;> omega
        exact J0  f hI hF  (by omega)
      · skip
        have b8x : zB a3 0 2147483647 := by have q1 := b3; have q2 := (zB.of (x := 0) 0 (by decide)); simp only [z32lt, z32le, z32eq, Int32.reduceToInt, Int32.toInt_zero] at h16_5; constructor <;> omega
        refine z_iload_n (pc := 19) C dX9_matches_19 rfl ?_
        refine z_iconst (pc := 20) (v := 1) C dX9_matches_20 (by decide) ?_
        refine z_icmp_le (pc := 21) 26 C dX9_matches_21 (by decide) (fun h21_8 => ?_) (fun h21_8 => ?_)
        · skip
          have b10x : zB a3 0 1 := by have q1 := b8x; have q2 := (zB.of (x := 1) 1 (by decide)); simp only [z32lt, z32le, z32eq, Int32.reduceToInt, Int32.toInt_zero] at h21_8; constructor <;> omega
          refine z_aload_n (pc := 26) C dX9_matches_26 rfl ?_
          refine z_getR (pc := 27) C zf_X9_10 rfl rfl (by decide) dX9_matches_27 ?_
          refine z_getR (pc := 30) C zf_X9_74 rfl rfl (by decide) dX9_matches_30 ?_
          refine z_iload_n (pc := 33) C dX9_matches_33 rfl ?_
          refine z_aald (pc := 34) C rfl ⟨rfl, by decide⟩ (by decide) (zIx b3x (by decide) (by decide)) dX9_matches_34 ?_
          refine w_gr (by have hq := zN b3x (by decide); show 8 * 0 + a1.toNatClampNeg < 16; omega) (fun m11 h11x => ?_)
          refine z_astore (pc := 35) C dX9_matches_35 (by rw [hn]; decide) rfl ?_
          refine z_aload_n (pc := 37) C dX9_matches_37 rfl ?_
          refine z_getR (pc := 38) C zf_X9_10 rfl rfl (by decide) dX9_matches_38 ?_
          refine z_iload_n (pc := 41) C dX9_matches_41 rfl ?_
          refine z_callV (pc := 42) C zk_X9_100 (w_X8_crimesOf _ _ a2 b5x hI) rfl rfl (by decide) rfl rfl (Nat.le_of_ble_eq_true rfl) dX9_matches_42 (fun r12 g12 q12 => ?_)
          obtain ⟨⟨v12, rfl, b12x⟩, hI12, hF12q⟩ := q12
          obtain rfl := zFr_nil hF12q
          simp only [Option.toList, List.cons_append, List.nil_append]
          refine z_iload_n (pc := 45) C dX9_matches_45 rfl ?_
          refine z_if_ne (pc := 46) 57 C dX9_matches_46 (by decide) (fun h46_12 => ?_) (fun h46_12 => ?_)
          · skip
            have b14x : zB a3 1 1 := by have q1 := b10x; have q2 := (zB.of (x := 0) 0 (by decide)); simp only [z32lt, z32le, z32eq, Int32.reduceToInt, Int32.toInt_zero] at h46_12; constructor <;> omega
            refine z_aload (pc := 57) C dX9_matches_57 rfl ?_
            refine z_getI (pc := 59) C zf_X9_185 rfl rfl h11x dX9_matches_59 ?_
            refine w_gb 0 16777215 (hI 8 _ 6) (fun v15 b15x => ?_)
            exact J1 b3x b5x (zB.wk (a' := 0) (b' := 1) b14x (by decide) (by decide)) m11 h11x v12 b12x v15 b15x f hI hF  (by omega)
          · skip
            have b16x : zB a3 0 0 := by have q1 := b10x; have q2 := (zB.of (x := 0) 0 (by decide)); simp only [z32lt, z32le, z32eq, Int32.reduceToInt, Int32.toInt_zero] at h46_12; constructor <;> omega
            refine z_aload (pc := 49) C dX9_matches_49 rfl ?_
            refine z_getI (pc := 51) C zf_X9_182 rfl rfl h11x dX9_matches_51 ?_
            refine w_gb 0 16777215 (hI 8 _ 5) (fun v17 b17x => ?_)
            refine z_goto (pc := 54) 62 C dX9_matches_54 (by decide) ?_
            exact J1 b3x b5x (zB.wk (a' := 0) (b' := 1) b16x (by decide) (by decide)) m11 h11x v12 b12x v17 b17x f hI hF  (by omega)
        · skip
          have b18x : zB a3 2 2147483647 := by have q1 := b8x; have q2 := (zB.of (x := 1) 1 (by decide)); simp only [z32lt, z32le, z32eq, Int32.reduceToInt, Int32.toInt_zero] at h21_8; constructor <;> omega
          exact J0  f hI hF  (by omega)
    · skip
      refine z_if_eq (pc := 12) 24 C dX9_matches_12 (by decide) (fun _ => ?_) (fun h => absurd (by decide) h)
      exact J0  f hI hF  (by omega)
  · skip
    refine z_if_eq (pc := 5) 24 C dX9_matches_5 (by decide) (fun _ => ?_) (fun h => absurd (by decide) h)
    exact J0  f hI hF  (by omega)

set_option maxRecDepth 100000 in
set_option maxHeartbeats 4000000 in
theorem w_X9_yearsOf (d : Nat) (f : zM) (a1 : Int32) (b1 : zB a1 (-2147483648) 2147483647) (a2 : Int32) (b2 : zB a2 (-2147483648) 2147483647) (a3 : Int32) (b3 : zB a3 (-2147483648) 2147483647) (hI : zInv f) : ZM (d + 1) yX9_yearsOf cX9_yearsOf 5 (some .int) [zr 0 0, zi a1, zi a2, zi a3] f (fun r g => (∃ v, r = some (zi v) ∧ zB v (-1) 40) ∧ zInv g ∧ zFr [] f g) := by
  refine ZM.intro (by decide +kernel) (Nat.le_of_ble_eq_true rfl) ?_
  intro X C hr hn
  have hF : zFr [] f f := zFr.rf _ _
  have J : ∀ t : Nat, (∀ g : zM, zInv g → zFr [] f g → (1 : Int) < t → Z X 24 [some (zr 0 0), some (zi a1), some (zi a2), some (zi a3), none] [] g) ∧ (zB a1 0 7 → zB a2 0 5 → zB a3 0 1 → ∀ m58_4 : Nat, m58_4 < zcnt 8 → ∀ a58_s0 : Int32, zB a58_s0 0 40 → ∀ g : zM, zInv g → zFr [] f g → (0 : Int) < t → Z X 58 [some (zr 0 0), some (zi a1), some (zi a2), some (zi a3), some (zr 8 m58_4)] [zi a58_s0] g) := by
    intro t
    induction t with
    | zero =>
      refine ⟨?_, ?_⟩ <;> (intros; exfalso; omega)
    | succ t ih =>
      obtain ⟨ih0, ih1⟩ := ih
      refine ⟨?_, ?_⟩
      · skip
        intro g24_ hI24_ hF24_ hM24_
        refine z_iconst (pc := 24) (v := -1) C dX9_yearsOf_24 (by decide) ?_
        exact z_iret (pc := 25) C hr dX9_yearsOf_25 ⟨⟨_, rfl, (zB.wk (a' := (-1)) (b' := 40) (zB.of (x := (-1)) (-1) (by decide)) (by decide) (by decide))⟩, hI24_, hF24_⟩
      · skip
        intro b58_1 b58_2 b58_3 m58_4 h58_4 a58_s0 b58_s0 g58_ hI58_ hF58_ hM58_
        exact z_iret (pc := 58) C hr dX9_yearsOf_58 ⟨⟨_, rfl, (zB.wk (a' := (-1)) (b' := 40) b58_s0 (by decide) (by decide))⟩, hI58_, hF58_⟩
  obtain ⟨J0, J1⟩ := J 13
  show Z X 0 [some (zr 0 0), some (zi a1), some (zi a2), some (zi a3), none] [] f
  refine z_aload_n (pc := 0) C dX9_yearsOf_0 rfl ?_
  refine z_iload_n (pc := 1) C dX9_yearsOf_1 rfl ?_
  refine z_callVb (pc := 2) C zk_X9_179 (m_X9_isDeed _ _ _) rfl rfl (by decide) rfl rfl (Nat.le_of_ble_eq_true rfl) dX9_yearsOf_2 (fun h2_0 => ?_) (fun h2_0 => ?_)
  · skip
    have b2x : zB a1 0 7 := (zltc h2_0 (hI 1 0 6).2)
    refine z_if_eq (pc := 5) 24 C dX9_yearsOf_5 (by decide) (fun h => absurd h (by decide)) (fun _ => ?_)
    refine z_iload_n (pc := 8) C dX9_yearsOf_8 rfl ?_
    refine z_callSb (pc := 9) C zk_X9_46 (m_X9_isLand _ _ _) rfl rfl (Nat.le_of_ble_eq_true rfl) dX9_yearsOf_9 (fun h9_2 => ?_) (fun h9_2 => ?_)
    · skip
      have b4x : zB a2 0 5 := h9_2
      refine z_if_eq (pc := 12) 24 C dX9_yearsOf_12 (by decide) (fun h => absurd h (by decide)) (fun _ => ?_)
      refine z_iload_n (pc := 15) C dX9_yearsOf_15 rfl ?_
      refine z_if_lt (pc := 16) 24 C dX9_yearsOf_16 (by decide) (fun h16_4 => ?_) (fun h16_4 => ?_)
      · skip
        have b6x : zB a3 (-2147483648) (-1) := by have q1 := b3; have q2 := (zB.of (x := 0) 0 (by decide)); simp only [z32lt, z32le, z32eq, Int32.reduceToInt, Int32.toInt_zero] at h16_4; constructor <;> omega
        exact J0  f hI hF  (by omega)
      · skip
        have b7x : zB a3 0 2147483647 := by have q1 := b3; have q2 := (zB.of (x := 0) 0 (by decide)); simp only [z32lt, z32le, z32eq, Int32.reduceToInt, Int32.toInt_zero] at h16_4; constructor <;> omega
        refine z_iload_n (pc := 19) C dX9_yearsOf_19 rfl ?_
        refine z_iconst (pc := 20) (v := 1) C dX9_yearsOf_20 (by decide) ?_
        refine z_icmp_le (pc := 21) 26 C dX9_yearsOf_21 (by decide) (fun h21_7 => ?_) (fun h21_7 => ?_)
        · skip
          have b9x : zB a3 0 1 := by have q1 := b7x; have q2 := (zB.of (x := 1) 1 (by decide)); simp only [z32lt, z32le, z32eq, Int32.reduceToInt, Int32.toInt_zero] at h21_7; constructor <;> omega
          refine z_aload_n (pc := 26) C dX9_yearsOf_26 rfl ?_
          refine z_getR (pc := 27) C zf_X9_10 rfl rfl (by decide) dX9_yearsOf_27 ?_
          refine z_getR (pc := 30) C zf_X9_74 rfl rfl (by decide) dX9_yearsOf_30 ?_
          refine z_iload_n (pc := 33) C dX9_yearsOf_33 rfl ?_
          refine z_aald (pc := 34) C rfl ⟨rfl, by decide⟩ (by decide) (zIx b2x (by decide) (by decide)) dX9_yearsOf_34 ?_
          refine w_gr (by have hq := zN b2x (by decide); show 8 * 0 + a1.toNatClampNeg < 16; omega) (fun m10 h10x => ?_)
          refine z_astore (pc := 35) C dX9_yearsOf_35 (by rw [hn]; decide) rfl ?_
          refine z_iload_n (pc := 37) C dX9_yearsOf_37 rfl ?_
          refine z_if_ne (pc := 38) 51 C dX9_yearsOf_38 (by decide) (fun h38_10 => ?_) (fun h38_10 => ?_)
          · skip
            have b12x : zB a3 1 1 := by have q1 := b9x; have q2 := (zB.of (x := 0) 0 (by decide)); simp only [z32lt, z32le, z32eq, Int32.reduceToInt, Int32.toInt_zero] at h38_10; constructor <;> omega
            refine z_aload (pc := 51) C dX9_yearsOf_51 rfl ?_
            refine z_getR (pc := 53) C zf_X9_192 rfl rfl h10x dX9_yearsOf_53 ?_
            refine z_iload_n (pc := 56) C dX9_yearsOf_56 rfl ?_
            refine z_iald (pc := 57) C rfl h10x (zIx b4x (by decide) (by decide)) dX9_yearsOf_57 ?_
            refine w_gb 0 40 (hI 10 _ _) (fun v13 b13x => ?_)
            exact J1 b2x b4x (zB.wk (a' := 0) (b' := 1) b12x (by decide) (by decide)) m10 h10x v13 b13x f hI hF  (by omega)
          · skip
            have b14x : zB a3 0 0 := by have q1 := b9x; have q2 := (zB.of (x := 0) 0 (by decide)); simp only [z32lt, z32le, z32eq, Int32.reduceToInt, Int32.toInt_zero] at h38_10; constructor <;> omega
            refine z_aload (pc := 41) C dX9_yearsOf_41 rfl ?_
            refine z_getR (pc := 43) C zf_X9_188 rfl rfl h10x dX9_yearsOf_43 ?_
            refine z_iload_n (pc := 46) C dX9_yearsOf_46 rfl ?_
            refine z_iald (pc := 47) C rfl h10x (zIx b4x (by decide) (by decide)) dX9_yearsOf_47 ?_
            refine w_gb 0 40 (hI 9 _ _) (fun v15 b15x => ?_)
            refine z_goto (pc := 48) 58 C dX9_yearsOf_48 (by decide) ?_
            exact J1 b2x b4x (zB.wk (a' := 0) (b' := 1) b14x (by decide) (by decide)) m10 h10x v15 b15x f hI hF  (by omega)
        · skip
          have b16x : zB a3 2 2147483647 := by have q1 := b7x; have q2 := (zB.of (x := 1) 1 (by decide)); simp only [z32lt, z32le, z32eq, Int32.reduceToInt, Int32.toInt_zero] at h21_7; constructor <;> omega
          exact J0  f hI hF  (by omega)
    · skip
      refine z_if_eq (pc := 12) 24 C dX9_yearsOf_12 (by decide) (fun _ => ?_) (fun h => absurd (by decide) h)
      exact J0  f hI hF  (by omega)
  · skip
    refine z_if_eq (pc := 5) 24 C dX9_yearsOf_5 (by decide) (fun _ => ?_) (fun h => absurd (by decide) h)
    exact J0  f hI hF  (by omega)

set_option maxRecDepth 100000 in
set_option maxHeartbeats 4000000 in
theorem w_X9_shows (d : Nat) (f : zM) (a1 : Int32) (b1 : zB a1 (-2147483648) 2147483647) (a2 : Int32) (b2 : zB a2 (-2147483648) 2147483647) (a3 : Int32) (b3 : zB a3 (-2147483648) 2147483647) (a4 : Int32) (b4 : zB a4 (-2147483648) 2147483647) (hI : zInv f) : ZM (d + 3) yX9_shows cX9_shows 8 (some .int) [zr 0 0, zi a1, zi a2, zi a3, zi a4] f (fun r g => (∃ v, r = some (zi v) ∧ zB v (-13) 63) ∧ zInv g ∧ zFr [(8, some 1), (8, some 5), (8, some 6), (8, some 7), (9, none), (10, none)] f g) := by
  refine ZM.intro (by decide +kernel) (Nat.le_of_ble_eq_true rfl) ?_
  intro X C hr hn
  have hF : zFr [(8, some 1), (8, some 5), (8, some 6), (8, some 7), (9, none), (10, none)] f f := zFr.rf _ _
  have J : ∀ t : Nat, (∀ g : zM, zInv g → zFr [(8, some 1), (8, some 5), (8, some 6), (8, some 7), (9, none), (10, none)] f g → (1 : Int) < t → Z X 22 [some (zr 0 0), some (zi a1), some (zi a2), some (zi a3), some (zi a4), none, none, none] [] g) ∧ (zB a1 0 7 → zB a2 0 3 → zB a3 0 2 → ∀ m66_5 : Nat, m66_5 < zcnt 23 → ∀ a66_6 : Int32, zB a66_6 0 0 → ∀ g : zM, zInv g → zFr [(8, some 1), (8, some 5), (8, some 6), (8, some 7), (9, none), (10, none)] f g → (0 : Int) < t → Z X 66 [some (zr 0 0), some (zi a1), some (zi a2), some (zi a3), some (zi a4), some (zr 23 m66_5), some (zi a66_6), none] [] g) := by
    intro t
    induction t with
    | zero =>
      refine ⟨?_, ?_⟩ <;> (intros; exfalso; omega)
    | succ t ih =>
      obtain ⟨ih0, ih1⟩ := ih
      refine ⟨?_, ?_⟩
      · skip
        intro g22_ hI22_ hF22_ hM22_
        refine z_iconst (pc := 22) (v := -1) C dX9_shows_22 (by decide) ?_
        exact z_iret (pc := 23) C hr dX9_shows_23 ⟨⟨_, rfl, (zB.wk (a' := (-13)) (b' := 63) (zB.of (x := (-1)) (-1) (by decide)) (by decide) (by decide))⟩, hI22_, hF22_⟩
      · skip
        intro b66_1 b66_2 b66_3 m66_5 h66_5 a66_6 b66_6 g66_ hI66_ hF66_ hM66_
        refine z_bipush (pc := 66) (v := -13) C dX9_shows_66 (by decide) ?_
        exact z_iret (pc := 68) C hr dX9_shows_68 ⟨⟨_, rfl, (zB.wk (a' := (-13)) (b' := 63) (zB.of (x := (-13)) (-13) (by decide)) (by decide) (by decide))⟩, hI66_, hF66_⟩
  obtain ⟨J0, J1⟩ := J 13
  show Z X 0 [some (zr 0 0), some (zi a1), some (zi a2), some (zi a3), some (zi a4), none, none, none] [] f
  refine z_aload_n (pc := 0) C dX9_shows_0 rfl ?_
  refine z_iload_n (pc := 1) C dX9_shows_1 rfl ?_
  refine z_callVb (pc := 2) C zk_X9_179 (m_X9_isDeed _ _ _) rfl rfl (by decide) rfl rfl (Nat.le_of_ble_eq_true rfl) dX9_shows_2 (fun h2_0 => ?_) (fun h2_0 => ?_)
  · skip
    have b2x : zB a1 0 7 := (zltc h2_0 (hI 1 0 6).2)
    refine z_if_eq (pc := 5) 22 C dX9_shows_5 (by decide) (fun h => absurd h (by decide)) (fun _ => ?_)
    refine z_iload_n (pc := 8) C dX9_shows_8 rfl ?_
    refine z_callSb (pc := 9) C zk_X9_195 (m_X9_isSheet _ _ _) rfl rfl (Nat.le_of_ble_eq_true rfl) dX9_shows_9 (fun h9_2 => ?_) (fun h9_2 => ?_)
    · skip
      have b4x : zB a2 0 3 := h9_2
      refine z_if_eq (pc := 12) 22 C dX9_shows_12 (by decide) (fun h => absurd h (by decide)) (fun _ => ?_)
      refine z_iload_n (pc := 15) C dX9_shows_15 rfl ?_
      refine z_callSb (pc := 16) C zk_X9_198 (m_X9_isLane _ _ _) rfl rfl (Nat.le_of_ble_eq_true rfl) dX9_shows_16 (fun h16_4 => ?_) (fun h16_4 => ?_)
      · skip
        have b6x : zB a3 0 2 := h16_4
        refine z_if_ne (pc := 19) 24 C dX9_shows_19 (by decide) (fun _ => ?_) (fun h => absurd h (by decide))
        refine z_aload_n (pc := 24) C dX9_shows_24 rfl ?_
        refine z_getR (pc := 25) C zf_X9_37 rfl rfl (by decide) dX9_shows_25 ?_
        refine z_iload_n (pc := 28) C dX9_shows_28 rfl ?_
        refine z_aald (pc := 29) C rfl ⟨rfl, by decide⟩ (by decide) (zIx b4x (by decide) (by decide)) dX9_shows_29 ?_
        refine w_gr (by have hq := zN b4x (by decide); show a2.toNatClampNeg < 4; omega) (fun m7 h7x => ?_)
        refine z_astore (pc := 30) C dX9_shows_30 (by rw [hn]; decide) rfl ?_
        refine z_aload (pc := 32) C dX9_shows_32 rfl ?_
        refine z_iload_n (pc := 34) C dX9_shows_34 rfl ?_
        refine z_callV (pc := 35) C zk_X9_201 (w_X6_refuse _ _ m7 h7x a3 (zB.wk (a' := (-2147483648)) (b' := 2147483647) b6x (by decide) (by decide)) hI) rfl rfl h7x rfl rfl (Nat.le_of_ble_eq_true rfl) dX9_shows_35 (fun r8 g8 q8 => ?_)
        obtain ⟨⟨v8, rfl, b8x⟩, hI8, hF8q⟩ := q8
        obtain rfl := zFr_nil hF8q
        simp only [Option.toList, List.cons_append, List.nil_append]
        refine z_istore (pc := 38) C dX9_shows_38 (by rw [hn]; decide) rfl ?_
        refine z_iload (pc := 40) C dX9_shows_40 rfl ?_
        refine z_if_eq (pc := 42) 48 C dX9_shows_42 (by decide) (fun h42_8 => ?_) (fun h42_8 => ?_)
        · skip
          have b10x : zB v8 0 0 := by have q1 := b8x; have q2 := (zB.of (x := 0) 0 (by decide)); simp only [z32lt, z32le, z32eq, Int32.reduceToInt, Int32.toInt_zero] at h42_8; constructor <;> omega
          refine z_iload (pc := 48) C dX9_shows_48 rfl ?_
          refine z_if_lt (pc := 50) 66 C dX9_shows_50 (by decide) (fun h50_10 => ?_) (fun h50_10 => ?_)
          · skip
            have b12x : zB a4 (-2147483648) (-1) := by have q1 := b4; have q2 := (zB.of (x := 0) 0 (by decide)); simp only [z32lt, z32le, z32eq, Int32.reduceToInt, Int32.toInt_zero] at h50_10; constructor <;> omega
            exact J1 b2x b4x b6x m7 h7x v8 b10x f hI hF  (by omega)
          · skip
            have b13x : zB a4 0 2147483647 := by have q1 := b4; have q2 := (zB.of (x := 0) 0 (by decide)); simp only [z32lt, z32le, z32eq, Int32.reduceToInt, Int32.toInt_zero] at h50_10; constructor <;> omega
            refine z_iload (pc := 53) C dX9_shows_53 rfl ?_
            refine z_aload (pc := 55) C dX9_shows_55 rfl ?_
            refine z_getI (pc := 57) C zf_X9_204 rfl rfl h7x dX9_shows_57 ?_
            refine w_gb 0 16 (hI 23 _ 2) (fun v14 b14x => ?_)
            refine z_bipush (pc := 60) (v := 6) C dX9_shows_60 (by decide) ?_
            refine z_isub (pc := 62) C dX9_shows_62 ?_
            refine w_gp (fun v => v.toInt = v14.toInt - 6) (zsub_eb b14x (zB.of (x := 6) 6 (by decide)) (by decide) (by decide)) (fun v15 e15 => ?_)
            have b15x : zB v15 (-6) 10 := by have q1 := b14x; have q2 := (zB.of (x := 6) 6 (by decide)); constructor <;> omega
            refine z_icmp_le (pc := 63) 69 C dX9_shows_63 (by decide) (fun h63_15 => ?_) (fun h63_15 => ?_)
            · skip
              have b17x : zB a4 0 10 := by have q1 := b13x; have q2 := b15x; simp only [z32lt, z32le, z32eq, Int32.reduceToInt, Int32.toInt_zero] at h63_15; constructor <;> omega
              have b18x : zB v15 0 10 := by have q1 := b13x; have q2 := b15x; simp only [z32lt, z32le, z32eq, Int32.reduceToInt, Int32.toInt_zero] at h63_15; constructor <;> omega
              have b19x : zB v14 6 16 := by constructor <;> omega
              refine z_aload_n (pc := 69) C dX9_shows_69 rfl ?_
              refine z_getR (pc := 70) C zf_X9_10 rfl rfl (by decide) dX9_shows_70 ?_
              refine z_getR (pc := 73) C zf_X9_74 rfl rfl (by decide) dX9_shows_73 ?_
              refine z_iload_n (pc := 76) C dX9_shows_76 rfl ?_
              refine z_aald (pc := 77) C rfl ⟨rfl, by decide⟩ (by decide) (zIx b2x (by decide) (by decide)) dX9_shows_77 ?_
              refine w_gr (by have hq := zN b2x (by decide); show 8 * 0 + a1.toNatClampNeg < 16; omega) (fun m20 h20x => ?_)
              refine z_getI (pc := 78) C zf_X9_207 rfl rfl h20x dX9_shows_78 ?_
              refine w_gb 0 63 (hI 8 _ 1) (fun v21 b21x => ?_)
              refine z_istore (pc := 81) C dX9_shows_81 (by rw [hn]; decide) rfl ?_
              refine z_aload_n (pc := 83) C dX9_shows_83 rfl ?_
              refine z_getR (pc := 84) C zf_X9_10 rfl rfl (by decide) dX9_shows_84 ?_
              refine z_getR (pc := 87) C zf_X9_74 rfl rfl (by decide) dX9_shows_87 ?_
              refine z_iload_n (pc := 90) C dX9_shows_90 rfl ?_
              refine z_aald (pc := 91) C rfl ⟨rfl, by decide⟩ (by decide) (zIx b2x (by decide) (by decide)) dX9_shows_91 ?_
              refine w_gr (by have hq := zN b2x (by decide); show 8 * 0 + a1.toNatClampNeg < 16; omega) (fun m22 h22x => ?_)
              refine z_aload (pc := 92) C dX9_shows_92 rfl ?_
              refine z_iload (pc := 94) C dX9_shows_94 rfl ?_
              refine z_callV (pc := 96) C zk_X9_210 (w_X6_marksFrom _ _ m7 h7x a4 b17x hI) rfl rfl h7x rfl rfl (Nat.le_of_ble_eq_true rfl) dX9_shows_96 (fun r23 g23 q23 => ?_)
              obtain ⟨⟨v23, rfl, b23x⟩, hI23, hF23q⟩ := q23
              obtain rfl := zFr_nil hF23q
              simp only [Option.toList, List.cons_append, List.nil_append]
              refine z_putI (pc := 99) C zf_X9_207 zp_1_1 rfl rfl h22x dX9_shows_99 ?_
              refine w_mem hI hF b23x rfl (fun g24 hI24 hF24 => ?_)
              refine z_aload_n (pc := 102) C dX9_shows_102 rfl ?_
              refine z_getR (pc := 103) C zf_X9_10 rfl rfl (by decide) dX9_shows_103 ?_
              refine z_iload_n (pc := 106) C dX9_shows_106 rfl ?_
              refine z_callV (pc := 107) C zk_X9_213 (w_X8_learnAgain _ _ a1 b2x hI24) rfl rfl (by decide) rfl rfl (Nat.le_of_ble_eq_true rfl) dX9_shows_107 (fun r25 g25 q25 => ?_)
              obtain ⟨rfl, hI25, hF25q⟩ := q25
              have hF25 := zFr.tr hF24 hF25q (by decide)
              simp only [Option.toList, List.cons_append, List.nil_append]
              refine z_iload (pc := 110) C dX9_shows_110 rfl ?_
              exact z_iret (pc := 112) C hr dX9_shows_112 ⟨⟨_, rfl, (zB.wk (a' := (-13)) (b' := 63) b21x (by decide) (by decide))⟩, hI25, hF25⟩
            · skip
              exact J1 b2x b4x b6x m7 h7x v8 b10x f hI hF  (by omega)
        · skip
          have b26x : zB v8 (-12) (-1) := by have q1 := b8x; have q2 := (zB.of (x := 0) 0 (by decide)); simp only [z32lt, z32le, z32eq, Int32.reduceToInt, Int32.toInt_zero] at h42_8; constructor <;> omega
          refine z_iload (pc := 45) C dX9_shows_45 rfl ?_
          exact z_iret (pc := 47) C hr dX9_shows_47 ⟨⟨_, rfl, (zB.wk (a' := (-13)) (b' := 63) b26x (by decide) (by decide))⟩, hI, hF⟩
      · skip
        refine z_if_ne (pc := 19) 24 C dX9_shows_19 (by decide) (fun h => absurd (by decide) h) (fun _ => ?_)
        exact J0  f hI hF  (by omega)
    · skip
      refine z_if_eq (pc := 12) 22 C dX9_shows_12 (by decide) (fun _ => ?_) (fun h => absurd (by decide) h)
      exact J0  f hI hF  (by omega)
  · skip
    refine z_if_eq (pc := 5) 22 C dX9_shows_5 (by decide) (fun _ => ?_) (fun h => absurd (by decide) h)
    exact J0  f hI hF  (by omega)

set_option maxRecDepth 100000 in
set_option maxHeartbeats 4000000 in
theorem w_X9_count (d : Nat) (f : zM) (a1 : Int32) (b1 : zB a1 (-2147483648) 2147483647) (hI : zInv f) : ZM d yX9_count cX9_count 2 (some .int) [zr 0 0, zi a1] f (fun r g => (∃ v, r = some (zi v) ∧ zB v (-2147483648) 2147483647) ∧ zInv g ∧ zFr [] f g) := by
  refine ZM.intro (by decide +kernel) (Nat.le_of_ble_eq_true rfl) ?_
  intro X C hr hn
  have hF : zFr [] f f := zFr.rf _ _
  show Z X 0 [some (zr 0 0), some (zi a1)] [] f
  refine z_iload_n (pc := 0) C dX9_count_0 rfl ?_
  by_cases hsw0 : a1 = 0
  · skip
    refine z_tabE (pc := 1) hsw0 36 C dX9_count_1 (by decide) (by decide) rfl (by decide) ?_
    refine z_aload_n (pc := 36) C dX9_count_36 rfl ?_
    refine z_getR (pc := 37) C zf_X9_10 rfl rfl (by decide) dX9_count_37 ?_
    refine z_getI (pc := 40) C zf_X9_50 rfl rfl (by decide) dX9_count_40 ?_
    refine w_gb 0 24 (hI 1 _ 5) (fun v1 b1x => ?_)
    exact z_iret (pc := 43) C hr dX9_count_43 ⟨⟨_, rfl, (zB.wk (a' := (-2147483648)) (b' := 2147483647) b1x (by decide) (by decide))⟩, hI, hF⟩
  · skip
    by_cases hsw1 : a1 = 1
    · skip
      refine z_tabE (pc := 1) hsw1 44 C dX9_count_1 (by decide) (by decide) rfl (by decide) ?_
      refine z_aload_n (pc := 44) C dX9_count_44 rfl ?_
      refine z_getR (pc := 45) C zf_X9_10 rfl rfl (by decide) dX9_count_45 ?_
      refine z_getI (pc := 48) C zf_X9_71 rfl rfl (by decide) dX9_count_48 ?_
      refine w_gb 0 8 (hI 1 _ 6) (fun v2 b2x => ?_)
      exact z_iret (pc := 51) C hr dX9_count_51 ⟨⟨_, rfl, (zB.wk (a' := (-2147483648)) (b' := 2147483647) b2x (by decide) (by decide))⟩, hI, hF⟩
    · skip
      by_cases hsw2 : a1 = 2
      · skip
        refine z_tabE (pc := 1) hsw2 52 C dX9_count_1 (by decide) (by decide) rfl (by decide) ?_
        refine z_aload_n (pc := 52) C dX9_count_52 rfl ?_
        refine z_getR (pc := 53) C zf_X9_10 rfl rfl (by decide) dX9_count_53 ?_
        refine z_getI (pc := 56) C zf_X9_119 rfl rfl (by decide) dX9_count_56 ?_
        refine w_gb 0 12 (hI 1 _ 7) (fun v3 b3x => ?_)
        exact z_iret (pc := 59) C hr dX9_count_59 ⟨⟨_, rfl, (zB.wk (a' := (-2147483648)) (b' := 2147483647) b3x (by decide) (by decide))⟩, hI, hF⟩
      · skip
        by_cases hsw3 : a1 = 3
        · skip
          refine z_tabE (pc := 1) hsw3 60 C dX9_count_1 (by decide) (by decide) rfl (by decide) ?_
          refine z_aload_n (pc := 60) C dX9_count_60 rfl ?_
          refine z_getR (pc := 61) C zf_X9_10 rfl rfl (by decide) dX9_count_61 ?_
          refine z_getI (pc := 64) C zf_X9_217 rfl rfl (by decide) dX9_count_64 ?_
          refine w_gb 0 8 (hI 1 _ 8) (fun v4 b4x => ?_)
          exact z_iret (pc := 67) C hr dX9_count_67 ⟨⟨_, rfl, (zB.wk (a' := (-2147483648)) (b' := 2147483647) b4x (by decide) (by decide))⟩, hI, hF⟩
        · skip
          by_cases hsw4 : a1 = 4
          · skip
            refine z_tabE (pc := 1) hsw4 68 C dX9_count_1 (by decide) (by decide) rfl (by decide) ?_
            refine z_aload_n (pc := 68) C dX9_count_68 rfl ?_
            refine z_getR (pc := 69) C zf_X9_10 rfl rfl (by decide) dX9_count_69 ?_
            refine z_getR (pc := 72) C zf_X9_220 rfl rfl (by decide) dX9_count_72 ?_
            refine z_getI (pc := 75) C zf_X9_224 rfl rfl (by decide) dX9_count_75 ?_
            refine w_gb (-2147483648) 2147483647 (hI 6 _ 3) (fun v5 b5x => ?_)
            exact z_iret (pc := 78) C hr dX9_count_78 ⟨⟨_, rfl, b5x⟩, hI, hF⟩
          · skip
            refine z_tabOut (pc := 1) 79 C dX9_count_1 (by simp only [z32eq, Int32.reduceToInt, Int32.toInt_zero, Int32.toInt_one] at *; omega) (by decide) ?_
            refine z_iconst (pc := 79) (v := -1) C dX9_count_79 (by decide) ?_
            exact z_iret (pc := 80) C hr dX9_count_80 ⟨⟨_, rfl, (zB.wk (a' := (-2147483648)) (b' := 2147483647) (zB.of (x := (-1)) (-1) (by decide)) (by decide) (by decide))⟩, hI, hF⟩

set_option maxRecDepth 100000 in
set_option maxHeartbeats 4000000 in
theorem w_X9_man (d : Nat) (f : zM) (a1 : Int32) (b1 : zB a1 (-2147483648) 2147483647) (a2 : Int32) (b2 : zB a2 (-2147483648) 2147483647) (hI : zInv f) : ZM (d + 1) yX9_man cX9_man 4 (some .int) [zr 0 0, zi a1, zi a2] f (fun r g => (∃ v, r = some (zi v) ∧ zB v (-1) 99) ∧ zInv g ∧ zFr [(6, some 0), (6, some 1), (6, some 2), (6, some 4), (6, some 5), (6, some 6)] f g) := by
  refine ZM.intro (by decide +kernel) (Nat.le_of_ble_eq_true rfl) ?_
  intro X C hr hn
  have hF : zFr [(6, some 0), (6, some 1), (6, some 2), (6, some 4), (6, some 5), (6, some 6)] f f := zFr.rf _ _
  have J : ∀ t : Nat, (∀ g : zM, zInv g → zFr [(6, some 0), (6, some 1), (6, some 2), (6, some 4), (6, some 5), (6, some 6)] f g → (3 : Int) < t → Z X 36 [some (zr 0 0), some (zi a1), some (zi a2), none] [] g) ∧ (∀ g : zM, zInv g → zFr [(6, some 0), (6, some 1), (6, some 2), (6, some 4), (6, some 5), (6, some 6)] f g → (2 : Int) < t → Z X 73 [some (zr 0 0), some (zi a1), some (zi a2), none] [] g) ∧ (∀ g : zM, zInv g → zFr [(6, some 0), (6, some 1), (6, some 2), (6, some 4), (6, some 5), (6, some 6)] f g → (1 : Int) < t → Z X 110 [some (zr 0 0), some (zi a1), some (zi a2), none] [] g) ∧ (∀ a112_3 : Int32, zB a112_3 (-1) 99 → ∀ g : zM, zInv g → zFr [(6, some 0), (6, some 1), (6, some 2), (6, some 4), (6, some 5), (6, some 6)] f g → (0 : Int) < t → Z X 112 [some (zr 0 0), some (zi a1), some (zi a2), some (zi a112_3)] [] g) := by
    intro t
    induction t with
    | zero =>
      refine ⟨?_, ?_, ?_, ?_⟩ <;> (intros; exfalso; omega)
    | succ t ih =>
      obtain ⟨ih0, ih1, ih2, ih3⟩ := ih
      refine ⟨?_, ?_, ?_, ?_⟩
      · skip
        intro g36_ hI36_ hF36_ hM36_
        refine z_iload_n (pc := 36) C dX9_man_36 rfl ?_
        refine z_iconst (pc := 37) (v := 1) C dX9_man_37 (by decide) ?_
        refine z_icmp_ne (pc := 38) 73 C dX9_man_38 (by decide) (fun h38_0 => ?_) (fun h38_0 => ?_)
        · skip
          exact ih1  g36_ hI36_ hF36_  (by omega)
        · skip
          have b2x : zB a1 1 1 := by have q1 := b1; have q2 := (zB.of (x := 1) 1 (by decide)); simp only [z32lt, z32le, z32eq, Int32.reduceToInt, Int32.toInt_zero] at h38_0; constructor <;> omega
          refine z_iload_n (pc := 41) C dX9_man_41 rfl ?_
          refine z_callSb (pc := 42) C zk_X9_46 (m_X9_isLand _ _ _) rfl rfl (Nat.le_of_ble_eq_true rfl) dX9_man_42 (fun h42_2 => ?_) (fun h42_2 => ?_)
          · skip
            have b4x : zB a2 0 5 := h42_2
            refine z_if_eq (pc := 45) 73 C dX9_man_45 (by decide) (fun h => absurd h (by decide)) (fun _ => ?_)
            refine z_aload_n (pc := 48) C dX9_man_48 rfl ?_
            refine z_getR (pc := 49) C zf_X9_10 rfl rfl (by decide) dX9_man_49 ?_
            refine z_getR (pc := 52) C zf_X9_220 rfl rfl (by decide) dX9_man_52 ?_
            refine z_getI (pc := 55) C zf_X9_232 rfl rfl (by decide) dX9_man_55 ?_
            refine w_gb 0 5 (hI36_ 6 _ 1) (fun v5 b5x => ?_)
            refine z_istore_n (pc := 58) C dX9_man_58 (by rw [hn]; decide) rfl ?_
            refine z_aload_n (pc := 59) C dX9_man_59 rfl ?_
            refine z_getR (pc := 60) C zf_X9_10 rfl rfl (by decide) dX9_man_60 ?_
            refine z_getR (pc := 63) C zf_X9_220 rfl rfl (by decide) dX9_man_63 ?_
            refine z_iload_n (pc := 66) C dX9_man_66 rfl ?_
            refine z_callV (pc := 67) C zk_X9_235 (w_X3_sit _ _ 0 (by decide) a2 b4x hI36_) rfl rfl (by decide) rfl rfl (Nat.le_of_ble_eq_true rfl) dX9_man_67 (fun r6 g6 q6 => ?_)
            obtain ⟨rfl, hI6, hF6q⟩ := q6
            have hF6 := zFr.tr hF36_ hF6q (by decide)
            simp only [Option.toList, List.cons_append, List.nil_append]
            refine z_goto (pc := 70) 112 C dX9_man_70 (by decide) ?_
            exact ih3 v5 (zB.wk (a' := (-1)) (b' := 99) b5x (by decide) (by decide)) g6 hI6 hF6  (by omega)
          · skip
            refine z_if_eq (pc := 45) 73 C dX9_man_45 (by decide) (fun _ => ?_) (fun h => absurd (by decide) h)
            exact ih1  g36_ hI36_ hF36_  (by omega)
      · skip
        intro g73_ hI73_ hF73_ hM73_
        refine z_iload_n (pc := 73) C dX9_man_73 rfl ?_
        refine z_iconst (pc := 74) (v := 2) C dX9_man_74 (by decide) ?_
        refine z_icmp_ne (pc := 75) 110 C dX9_man_75 (by decide) (fun h75_6 => ?_) (fun h75_6 => ?_)
        · skip
          exact ih2  g73_ hI73_ hF73_  (by omega)
        · skip
          have b8x : zB a1 2 2 := by have q1 := b1; have q2 := (zB.of (x := 2) 2 (by decide)); simp only [z32lt, z32le, z32eq, Int32.reduceToInt, Int32.toInt_zero] at h75_6; constructor <;> omega
          refine z_iload_n (pc := 78) C dX9_man_78 rfl ?_
          refine z_callSb (pc := 79) C zk_X9_68 (m_X9_isYear _ _ _) rfl rfl (Nat.le_of_ble_eq_true rfl) dX9_man_79 (fun h79_8 => ?_) (fun h79_8 => ?_)
          · skip
            have b10x : zB a2 0 99 := h79_8
            refine z_if_eq (pc := 82) 110 C dX9_man_82 (by decide) (fun h => absurd h (by decide)) (fun _ => ?_)
            refine z_aload_n (pc := 85) C dX9_man_85 rfl ?_
            refine z_getR (pc := 86) C zf_X9_10 rfl rfl (by decide) dX9_man_86 ?_
            refine z_getR (pc := 89) C zf_X9_220 rfl rfl (by decide) dX9_man_89 ?_
            refine z_getI (pc := 92) C zf_X9_238 rfl rfl (by decide) dX9_man_92 ?_
            refine w_gb 0 99 (hI73_ 6 _ 2) (fun v11 b11x => ?_)
            refine z_istore_n (pc := 95) C dX9_man_95 (by rw [hn]; decide) rfl ?_
            refine z_aload_n (pc := 96) C dX9_man_96 rfl ?_
            refine z_getR (pc := 97) C zf_X9_10 rfl rfl (by decide) dX9_man_97 ?_
            refine z_getR (pc := 100) C zf_X9_220 rfl rfl (by decide) dX9_man_100 ?_
            refine z_iload_n (pc := 103) C dX9_man_103 rfl ?_
            refine z_putI (pc := 104) C zf_X9_238 zp_3_2 rfl rfl (by decide) dX9_man_104 ?_
            refine w_mem hI73_ hF73_ b10x rfl (fun g12 hI12 hF12 => ?_)
            refine z_goto (pc := 107) 112 C dX9_man_107 (by decide) ?_
            exact ih3 v11 (zB.wk (a' := (-1)) (b' := 99) b11x (by decide) (by decide)) g12 hI12 hF12  (by omega)
          · skip
            refine z_if_eq (pc := 82) 110 C dX9_man_82 (by decide) (fun _ => ?_) (fun h => absurd (by decide) h)
            exact ih2  g73_ hI73_ hF73_  (by omega)
      · skip
        intro g110_ hI110_ hF110_ hM110_
        refine z_iconst (pc := 110) (v := -1) C dX9_man_110 (by decide) ?_
        refine z_istore_n (pc := 111) C dX9_man_111 (by rw [hn]; decide) rfl ?_
        exact ih3 (-1) (zB.wk (a' := (-1)) (b' := 99) (zB.of (x := (-1)) (-1) (by decide)) (by decide) (by decide)) g110_ hI110_ hF110_  (by have qc0 : ((-1) : Int32).toInt = (-1) := (by decide); omega)
      · skip
        intro a112_3 b112_3 g112_ hI112_ hF112_ hM112_
        refine z_iload_n (pc := 112) C dX9_man_112 rfl ?_
        exact z_iret (pc := 113) C hr dX9_man_113 ⟨⟨_, rfl, b112_3⟩, hI112_, hF112_⟩
  obtain ⟨J0, J1, J2, J3⟩ := J 15
  show Z X 0 [some (zr 0 0), some (zi a1), some (zi a2), none] [] f
  refine z_iload_n (pc := 0) C dX9_man_0 rfl ?_
  refine z_if_ne (pc := 1) 36 C dX9_man_1 (by decide) (fun h1_12 => ?_) (fun h1_12 => ?_)
  · skip
    exact J0  f hI hF  (by omega)
  · skip
    have b14x : zB a1 0 0 := by have q1 := b1; have q2 := (zB.of (x := 0) 0 (by decide)); simp only [z32lt, z32le, z32eq, Int32.reduceToInt, Int32.toInt_zero] at h1_12; constructor <;> omega
    refine z_iload_n (pc := 4) C dX9_man_4 rfl ?_
    refine z_callSb (pc := 5) C zk_X9_46 (m_X9_isLand _ _ _) rfl rfl (Nat.le_of_ble_eq_true rfl) dX9_man_5 (fun h5_14 => ?_) (fun h5_14 => ?_)
    · skip
      have b16x : zB a2 0 5 := h5_14
      refine z_if_eq (pc := 8) 36 C dX9_man_8 (by decide) (fun h => absurd h (by decide)) (fun _ => ?_)
      refine z_aload_n (pc := 11) C dX9_man_11 rfl ?_
      refine z_getR (pc := 12) C zf_X9_10 rfl rfl (by decide) dX9_man_12 ?_
      refine z_getR (pc := 15) C zf_X9_220 rfl rfl (by decide) dX9_man_15 ?_
      refine z_getI (pc := 18) C zf_X9_229 rfl rfl (by decide) dX9_man_18 ?_
      refine w_gb 0 5 (hI 6 _ 0) (fun v17 b17x => ?_)
      refine z_istore_n (pc := 21) C dX9_man_21 (by rw [hn]; decide) rfl ?_
      refine z_aload_n (pc := 22) C dX9_man_22 rfl ?_
      refine z_getR (pc := 23) C zf_X9_10 rfl rfl (by decide) dX9_man_23 ?_
      refine z_getR (pc := 26) C zf_X9_220 rfl rfl (by decide) dX9_man_26 ?_
      refine z_iload_n (pc := 29) C dX9_man_29 rfl ?_
      refine z_putI (pc := 30) C zf_X9_229 zp_3_0 rfl rfl (by decide) dX9_man_30 ?_
      refine w_mem hI hF b16x rfl (fun g18 hI18 hF18 => ?_)
      refine z_goto (pc := 33) 112 C dX9_man_33 (by decide) ?_
      exact J3 v17 (zB.wk (a' := (-1)) (b' := 99) b17x (by decide) (by decide)) g18 hI18 hF18  (by omega)
    · skip
      refine z_if_eq (pc := 8) 36 C dX9_man_8 (by decide) (fun _ => ?_) (fun h => absurd (by decide) h)
      exact J0  f hI hF  (by omega)

set_option maxRecDepth 100000 in
set_option maxHeartbeats 4000000 in
theorem w_X9_judged (d : Nat) (f : zM) (a1 : Int32) (b1 : zB a1 (-2147483648) 2147483647) (a2 : Int32) (b2 : zB a2 0 1) (hI : zInv f) : ZM (d + 1) yX9_judged cX9_judged 4 (some .int) [zr 0 0, zi a1, zi a2] f (fun r g => (∃ v, r = some (zi v) ∧ zB v (-1) 1) ∧ zInv g ∧ zFr [(8, some 4)] f g) := by
  refine ZM.intro (by decide +kernel) (Nat.le_of_ble_eq_true rfl) ?_
  intro X C hr hn
  have hF : zFr [(8, some 4)] f f := zFr.rf _ _
  have J : ∀ t : Nat, (zB a1 0 7 → ∀ a30_s0 : Int32, zB a30_s0 0 1 → ∀ g : zM, zInv g → zFr [(8, some 4)] f g → (0 : Int) < t → Z X 30 [some (zr 0 0), some (zi a1), some (zi a2), none] [zi a30_s0] g) := by
    intro t
    induction t with
    | zero =>
      intros; exfalso; omega
    | succ t ih =>
      have ih0 := ih
      intro b30_1 a30_s0 b30_s0 g30_ hI30_ hF30_ hM30_
      refine z_istore_n (pc := 30) C dX9_judged_30 (by rw [hn]; decide) rfl ?_
      refine z_aload_n (pc := 31) C dX9_judged_31 rfl ?_
      refine z_getR (pc := 32) C zf_X9_10 rfl rfl (by decide) dX9_judged_32 ?_
      refine z_getR (pc := 35) C zf_X9_74 rfl rfl (by decide) dX9_judged_35 ?_
      refine z_iload_n (pc := 38) C dX9_judged_38 rfl ?_
      refine z_aald (pc := 39) C rfl ⟨rfl, by decide⟩ (by decide) (zIx b30_1 (by decide) (by decide)) dX9_judged_39 ?_
      refine w_gr (by have hq := zN b30_1 (by decide); show 8 * 0 + a1.toNatClampNeg < 16; omega) (fun m1 h1x => ?_)
      refine z_iload_n (pc := 40) C dX9_judged_40 rfl ?_
      refine z_putZ (pc := 41) C zf_X9_241 zp_1_4 (z01 b2) rfl rfl h1x dX9_judged_41 ?_
      refine w_mem hI30_ hF30_ b2 rfl (fun g2 hI2 hF2 => ?_)
      refine z_iload_n (pc := 44) C dX9_judged_44 rfl ?_
      exact z_iret (pc := 45) C hr dX9_judged_45 ⟨⟨_, rfl, (zB.wk (a' := (-1)) (b' := 1) b30_s0 (by decide) (by decide))⟩, hI2, hF2⟩
  have J0 := J 12
  show Z X 0 [some (zr 0 0), some (zi a1), some (zi a2), none] [] f
  refine z_aload_n (pc := 0) C dX9_judged_0 rfl ?_
  refine z_iload_n (pc := 1) C dX9_judged_1 rfl ?_
  refine z_callVb (pc := 2) C zk_X9_179 (m_X9_isDeed _ _ _) rfl rfl (by decide) rfl rfl (Nat.le_of_ble_eq_true rfl) dX9_judged_2 (fun h2_2 => ?_) (fun h2_2 => ?_)
  · skip
    have b4x : zB a1 0 7 := (zltc h2_2 (hI 1 0 6).2)
    refine z_if_ne (pc := 5) 10 C dX9_judged_5 (by decide) (fun _ => ?_) (fun h => absurd h (by decide))
    refine z_aload_n (pc := 10) C dX9_judged_10 rfl ?_
    refine z_getR (pc := 11) C zf_X9_10 rfl rfl (by decide) dX9_judged_11 ?_
    refine z_getR (pc := 14) C zf_X9_74 rfl rfl (by decide) dX9_judged_14 ?_
    refine z_iload_n (pc := 17) C dX9_judged_17 rfl ?_
    refine z_aald (pc := 18) C rfl ⟨rfl, by decide⟩ (by decide) (zIx b4x (by decide) (by decide)) dX9_judged_18 ?_
    refine w_gr (by have hq := zN b4x (by decide); show 8 * 0 + a1.toNatClampNeg < 16; omega) (fun m5 h5x => ?_)
    refine z_getI (pc := 19) C zf_X9_241 rfl rfl h5x dX9_judged_19 ?_
    refine w_gb 0 1 (hI 8 _ 4) (fun v6 b6x => ?_)
    refine z_if_eq (pc := 22) 29 C dX9_judged_22 (by decide) (fun h22_6 => ?_) (fun h22_6 => ?_)
    · skip
      have b8x : zB v6 0 0 := by have q1 := b6x; have q2 := (zB.of (x := 0) 0 (by decide)); simp only [z32lt, z32le, z32eq, Int32.reduceToInt, Int32.toInt_zero] at h22_6; constructor <;> omega
      refine z_iconst (pc := 29) (v := 0) C dX9_judged_29 (by decide) ?_
      exact J0 b4x 0 (zB.wk (a' := 0) (b' := 1) (zB.of (x := 0) 0 (by decide)) (by decide) (by decide)) f hI hF  (by have qc0 : (0 : Int32).toInt = 0 := (by decide); omega)
    · skip
      have b9x : zB v6 1 1 := by have q1 := b6x; have q2 := (zB.of (x := 0) 0 (by decide)); simp only [z32lt, z32le, z32eq, Int32.reduceToInt, Int32.toInt_zero] at h22_6; constructor <;> omega
      refine z_iconst (pc := 25) (v := 1) C dX9_judged_25 (by decide) ?_
      refine z_goto (pc := 26) 30 C dX9_judged_26 (by decide) ?_
      exact J0 b4x 1 (zB.wk (a' := 0) (b' := 1) (zB.of (x := 1) 1 (by decide)) (by decide) (by decide)) f hI hF  (by have qc0 : (1 : Int32).toInt = 1 := (by decide); omega)
  · skip
    refine z_if_ne (pc := 5) 10 C dX9_judged_5 (by decide) (fun h => absurd (by decide) h) (fun _ => ?_)
    refine z_iconst (pc := 8) (v := -1) C dX9_judged_8 (by decide) ?_
    exact z_iret (pc := 9) C hr dX9_judged_9 ⟨⟨_, rfl, (zB.wk (a' := (-1)) (b' := 1) (zB.of (x := (-1)) (-1) (by decide)) (by decide) (by decide))⟩, hI, hF⟩

set_option maxRecDepth 100000 in
set_option maxHeartbeats 4000000 in
theorem w_X9_bound (d : Nat) (f : zM) (a1 : Int32) (b1 : zB a1 (-2147483648) 2147483647) (hI : zInv f) : ZM (d + 1) yX9_bound cX9_bound 2 (some .int) [zr 0 0, zi a1] f (fun r g => (∃ v, r = some (zi v) ∧ zB v (-4) 255) ∧ zInv g ∧ zFr [] f g) := by
  refine ZM.intro (by decide +kernel) (Nat.le_of_ble_eq_true rfl) ?_
  intro X C hr hn
  have hF : zFr [] f f := zFr.rf _ _
  have J : ∀ t : Nat, (∀ a50_s0 : Int32, zB a50_s0 0 1 → ∀ g : zM, zInv g → zFr [] f g → (0 : Int) < t → Z X 50 [some (zr 0 0), some (zi a1)] [zi a50_s0] g) := by
    intro t
    induction t with
    | zero =>
      intros; exfalso; omega
    | succ t ih =>
      have ih0 := ih
      intro a50_s0 b50_s0 g50_ hI50_ hF50_ hM50_
      exact z_iret (pc := 50) C hr dX9_bound_50 ⟨⟨_, rfl, (zB.wk (a' := (-4)) (b' := 255) b50_s0 (by decide) (by decide))⟩, hI50_, hF50_⟩
  have J0 := J 12
  show Z X 0 [some (zr 0 0), some (zi a1)] [] f
  refine z_iload_n (pc := 0) C dX9_bound_0 rfl ?_
  by_cases hsw0 : a1 = 0
  · skip
    refine z_tabE (pc := 1) hsw0 32 C dX9_bound_1 (by decide) (by decide) rfl (by decide) ?_
    refine z_aload_n (pc := 32) C dX9_bound_32 rfl ?_
    refine z_getR (pc := 33) C zf_X9_10 rfl rfl (by decide) dX9_bound_33 ?_
    refine z_getR (pc := 36) C zf_X9_220 rfl rfl (by decide) dX9_bound_36 ?_
    refine z_getI (pc := 39) C zf_X9_244 rfl rfl (by decide) dX9_bound_39 ?_
    refine w_gb 0 1 (hI 6 _ 4) (fun v1 b1x => ?_)
    refine z_if_eq (pc := 42) 49 C dX9_bound_42 (by decide) (fun h42_1 => ?_) (fun h42_1 => ?_)
    · skip
      have b3x : zB v1 0 0 := by have q1 := b1x; have q2 := (zB.of (x := 0) 0 (by decide)); simp only [z32lt, z32le, z32eq, Int32.reduceToInt, Int32.toInt_zero] at h42_1; constructor <;> omega
      refine z_iconst (pc := 49) (v := 0) C dX9_bound_49 (by decide) ?_
      exact J0 0 (zB.wk (a' := 0) (b' := 1) (zB.of (x := 0) 0 (by decide)) (by decide) (by decide)) f hI hF  (by have qc0 : (0 : Int32).toInt = 0 := (by decide); omega)
    · skip
      have b4x : zB v1 1 1 := by have q1 := b1x; have q2 := (zB.of (x := 0) 0 (by decide)); simp only [z32lt, z32le, z32eq, Int32.reduceToInt, Int32.toInt_zero] at h42_1; constructor <;> omega
      refine z_iconst (pc := 45) (v := 1) C dX9_bound_45 (by decide) ?_
      refine z_goto (pc := 46) 50 C dX9_bound_46 (by decide) ?_
      exact J0 1 (zB.wk (a' := 0) (b' := 1) (zB.of (x := 1) 1 (by decide)) (by decide) (by decide)) f hI hF  (by have qc0 : (1 : Int32).toInt = 1 := (by decide); omega)
  · skip
    by_cases hsw1 : a1 = 1
    · skip
      refine z_tabE (pc := 1) hsw1 51 C dX9_bound_1 (by decide) (by decide) rfl (by decide) ?_
      refine z_aload_n (pc := 51) C dX9_bound_51 rfl ?_
      refine z_getR (pc := 52) C zf_X9_10 rfl rfl (by decide) dX9_bound_52 ?_
      refine z_getR (pc := 55) C zf_X9_220 rfl rfl (by decide) dX9_bound_55 ?_
      refine z_getI (pc := 58) C zf_X9_247 rfl rfl (by decide) dX9_bound_58 ?_
      refine w_gb (-4) 5 (hI 6 _ 5) (fun v5 b5x => ?_)
      exact z_iret (pc := 61) C hr dX9_bound_61 ⟨⟨_, rfl, (zB.wk (a' := (-4)) (b' := 255) b5x (by decide) (by decide))⟩, hI, hF⟩
    · skip
      by_cases hsw2 : a1 = 2
      · skip
        refine z_tabE (pc := 1) hsw2 62 C dX9_bound_1 (by decide) (by decide) rfl (by decide) ?_
        refine z_aload_n (pc := 62) C dX9_bound_62 rfl ?_
        refine z_getR (pc := 63) C zf_X9_10 rfl rfl (by decide) dX9_bound_63 ?_
        refine z_getR (pc := 66) C zf_X9_220 rfl rfl (by decide) dX9_bound_66 ?_
        refine z_getI (pc := 69) C zf_X9_250 rfl rfl (by decide) dX9_bound_69 ?_
        refine w_gb 0 255 (hI 6 _ 6) (fun v6 b6x => ?_)
        refine z_aload_n (pc := 72) C dX9_bound_72 rfl ?_
        refine z_getR (pc := 73) C zf_X9_10 rfl rfl (by decide) dX9_bound_73 ?_
        refine z_callV (pc := 76) C zk_X9_252 (w_X8_allDeeds _ _  hI) rfl rfl (by decide) rfl rfl (Nat.le_of_ble_eq_true rfl) dX9_bound_76 (fun r7 g7 q7 => ?_)
        obtain ⟨⟨v7, rfl, b7x⟩, hI7, hF7q⟩ := q7
        obtain rfl := zFr_nil hF7q
        simp only [Option.toList, List.cons_append, List.nil_append]
        refine z_iand (pc := 79) C dX9_bound_79 ?_
        refine w_gb 0 255 (zand_bl b6x b7x (by decide)) (fun v8 b8x => ?_)
        exact z_iret (pc := 80) C hr dX9_bound_80 ⟨⟨_, rfl, (zB.wk (a' := (-4)) (b' := 255) b8x (by decide) (by decide))⟩, hI, hF⟩
      · skip
        by_cases hsw3 : a1 = 3
        · skip
          refine z_tabE (pc := 1) hsw3 81 C dX9_bound_1 (by decide) (by decide) rfl (by decide) ?_
          refine z_aload_n (pc := 81) C dX9_bound_81 rfl ?_
          refine z_getR (pc := 82) C zf_X9_10 rfl rfl (by decide) dX9_bound_82 ?_
          refine z_getR (pc := 85) C zf_X9_220 rfl rfl (by decide) dX9_bound_85 ?_
          refine z_getI (pc := 88) C zf_X9_232 rfl rfl (by decide) dX9_bound_88 ?_
          refine w_gb 0 5 (hI 6 _ 1) (fun v9 b9x => ?_)
          exact z_iret (pc := 91) C hr dX9_bound_91 ⟨⟨_, rfl, (zB.wk (a' := (-4)) (b' := 255) b9x (by decide) (by decide))⟩, hI, hF⟩
        · skip
          refine z_tabOut (pc := 1) 92 C dX9_bound_1 (by simp only [z32eq, Int32.reduceToInt, Int32.toInt_zero, Int32.toInt_one] at *; omega) (by decide) ?_
          refine z_iconst (pc := 92) (v := -1) C dX9_bound_92 (by decide) ?_
          exact z_iret (pc := 93) C hr dX9_bound_93 ⟨⟨_, rfl, (zB.wk (a' := (-4)) (b' := 255) (zB.of (x := (-1)) (-1) (by decide)) (by decide) (by decide))⟩, hI, hF⟩

set_option maxRecDepth 100000 in
set_option maxHeartbeats 4000000 in
theorem w_X9_covers (d : Nat) (f : zM) (a1 : Int32) (b1 : zB a1 (-2147483648) 2147483647) (hI : zInv f) : ZM (d + 2) yX9_covers cX9_covers 2 (some .int) [zr 0 0, zi a1] f (fun r g => (∃ v, r = some (zi v) ∧ zB v (-1) 255) ∧ zInv g ∧ zFr [] f g) := by
  refine ZM.intro (by decide +kernel) (Nat.le_of_ble_eq_true rfl) ?_
  intro X C hr hn
  have hF : zFr [] f f := zFr.rf _ _
  have J : ∀ t : Nat, (∀ a28_s0 : Int32, zB a28_s0 (-1) 255 → ∀ g : zM, zInv g → zFr [] f g → (0 : Int) < t → Z X 28 [some (zr 0 0), some (zi a1)] [zi a28_s0] g) := by
    intro t
    induction t with
    | zero =>
      intros; exfalso; omega
    | succ t ih =>
      have ih0 := ih
      intro a28_s0 b28_s0 g28_ hI28_ hF28_ hM28_
      exact z_iret (pc := 28) C hr dX9_covers_28 ⟨⟨_, rfl, b28_s0⟩, hI28_, hF28_⟩
  have J0 := J 12
  show Z X 0 [some (zr 0 0), some (zi a1)] [] f
  refine z_aload_n (pc := 0) C dX9_covers_0 rfl ?_
  refine z_iload_n (pc := 1) C dX9_covers_1 rfl ?_
  refine z_callVb (pc := 2) C zk_X9_153 (m_X9_isPaper _ _ _) rfl rfl (by decide) rfl rfl (Nat.le_of_ble_eq_true rfl) dX9_covers_2 (fun h2_0 => ?_) (fun h2_0 => ?_)
  · skip
    have b2x : zB a1 0 11 := (zltc h2_0 (hI 1 0 7).2)
    refine z_if_eq (pc := 5) 27 C dX9_covers_5 (by decide) (fun h => absurd h (by decide)) (fun _ => ?_)
    refine z_aload_n (pc := 8) C dX9_covers_8 rfl ?_
    refine z_getR (pc := 9) C zf_X9_10 rfl rfl (by decide) dX9_covers_9 ?_
    refine z_aload_n (pc := 12) C dX9_covers_12 rfl ?_
    refine z_getR (pc := 13) C zf_X9_10 rfl rfl (by decide) dX9_covers_13 ?_
    refine z_getR (pc := 16) C zf_X9_90 rfl rfl (by decide) dX9_covers_16 ?_
    refine z_iload_n (pc := 19) C dX9_covers_19 rfl ?_
    refine z_aald (pc := 20) C rfl ⟨rfl, by decide⟩ (by decide) (zIx b2x (by decide) (by decide)) dX9_covers_20 ?_
    refine w_gr (by have hq := zN b2x (by decide); show 12 * 0 + a1.toNatClampNeg < 36; omega) (fun m3 h3x => ?_)
    refine z_callV (pc := 21) C zk_X9_255 (w_X8_coveredBy _ _ m3 h3x hI) rfl rfl (by decide) rfl rfl (Nat.le_of_ble_eq_true rfl) dX9_covers_21 (fun r4 g4 q4 => ?_)
    obtain ⟨⟨v4, rfl, b4x⟩, hI4, hF4q⟩ := q4
    obtain rfl := zFr_nil hF4q
    simp only [Option.toList, List.cons_append, List.nil_append]
    refine z_goto (pc := 24) 28 C dX9_covers_24 (by decide) ?_
    exact J0 v4 (zB.wk (a' := (-1)) (b' := 255) b4x (by decide) (by decide)) f hI hF  (by omega)
  · skip
    refine z_if_eq (pc := 5) 27 C dX9_covers_5 (by decide) (fun _ => ?_) (fun h => absurd (by decide) h)
    refine z_iconst (pc := 27) (v := -1) C dX9_covers_27 (by decide) ?_
    exact J0 (-1) (zB.wk (a' := (-1)) (b' := 255) (zB.of (x := (-1)) (-1) (by decide)) (by decide) (by decide)) f hI hF  (by have qc0 : ((-1) : Int32).toInt = (-1) := (by decide); omega)

set_option maxRecDepth 100000 in
set_option maxHeartbeats 4000000 in
theorem w_X9_lets (d : Nat) (f : zM) (a1 : Int32) (b1 : zB a1 (-2147483648) 2147483647) (hI : zInv f) : ZM (d + 3) yX9_lets cX9_lets 3 (some .int) [zr 0 0, zi a1] f (fun r g => (∃ v, r = some (zi v) ∧ zB v (-2) 255) ∧ zInv g ∧ zFr [(11, some 8), (11, some 9)] f g ∧ (∀ v : Int32, r = some (zi v) → (0 ≤ v.toInt → 0 ≤ a1.toInt ∧ a1.toInt ≤ 11))) := by
  refine ZM.intro (by decide +kernel) (Nat.le_of_ble_eq_true rfl) ?_
  intro X C hr hn
  have hF : zFr [(11, some 8), (11, some 9)] f f := zFr.rf _ _
  show Z X 0 [some (zr 0 0), some (zi a1), none] [] f
  refine z_aload_n (pc := 0) C dX9_lets_0 rfl ?_
  refine z_iload_n (pc := 1) C dX9_lets_1 rfl ?_
  refine z_callVb (pc := 2) C zk_X9_153 (m_X9_isPaper _ _ _) rfl rfl (by decide) rfl rfl (Nat.le_of_ble_eq_true rfl) dX9_lets_2 (fun h2_0 => ?_) (fun h2_0 => ?_)
  · skip
    have b2x : zB a1 0 11 := (zltc h2_0 (hI 1 0 7).2)
    refine z_if_ne (pc := 5) 10 C dX9_lets_5 (by decide) (fun _ => ?_) (fun h => absurd h (by decide))
    refine z_aload_n (pc := 10) C dX9_lets_10 rfl ?_
    refine z_getR (pc := 11) C zf_X9_10 rfl rfl (by decide) dX9_lets_11 ?_
    refine z_getR (pc := 14) C zf_X9_90 rfl rfl (by decide) dX9_lets_14 ?_
    refine z_iload_n (pc := 17) C dX9_lets_17 rfl ?_
    refine z_aald (pc := 18) C rfl ⟨rfl, by decide⟩ (by decide) (zIx b2x (by decide) (by decide)) dX9_lets_18 ?_
    refine w_gr (by have hq := zN b2x (by decide); show 12 * 0 + a1.toNatClampNeg < 36; omega) (fun m3 h3x => ?_)
    refine z_astore_n (pc := 19) C dX9_lets_19 (by rw [hn]; decide) rfl ?_
    refine z_aload_n (pc := 20) C dX9_lets_20 rfl ?_
    refine z_getI (pc := 21) C zf_X9_159 rfl rfl h3x dX9_lets_21 ?_
    refine w_gb 0 5 (hI 11 _ 1) (fun v4 b4x => ?_)
    refine z_aload_n (pc := 24) C dX9_lets_24 rfl ?_
    refine z_getR (pc := 25) C zf_X9_10 rfl rfl (by decide) dX9_lets_25 ?_
    refine z_getR (pc := 28) C zf_X9_220 rfl rfl (by decide) dX9_lets_28 ?_
    refine z_getI (pc := 31) C zf_X9_232 rfl rfl (by decide) dX9_lets_31 ?_
    refine w_gb 0 5 (hI 6 _ 1) (fun v5 b5x => ?_)
    refine z_icmp_eq (pc := 34) 40 C dX9_lets_34 (by decide) (fun h34_5 => ?_) (fun h34_5 => ?_)
    · skip
      refine z_aload_n (pc := 40) C dX9_lets_40 rfl ?_
      refine z_getR (pc := 41) C zf_X9_10 rfl rfl (by decide) dX9_lets_41 ?_
      refine z_aload_n (pc := 44) C dX9_lets_44 rfl ?_
      refine z_callV (pc := 45) C zk_X9_259 (w_X8_weigh _ _ m3 h3x hI) rfl rfl (by decide) rfl rfl (Nat.le_of_ble_eq_true rfl) dX9_lets_45 (fun r7 g7 q7 => ?_)
      obtain ⟨rfl, hI7, hF7q⟩ := q7
      have hF7 := zFr.tr hF hF7q (by decide)
      simp only [Option.toList, List.cons_append, List.nil_append]
      refine z_aload_n (pc := 48) C dX9_lets_48 rfl ?_
      refine z_getR (pc := 49) C zf_X9_10 rfl rfl (by decide) dX9_lets_49 ?_
      refine z_getR (pc := 52) C zf_X9_220 rfl rfl (by decide) dX9_lets_52 ?_
      refine z_aload_n (pc := 55) C dX9_lets_55 rfl ?_
      refine z_callV (pc := 56) C zk_X9_262 (w_X3_goesBy _ _ 0 (by decide) m3 h3x hI7) rfl rfl (by decide) rfl rfl (Nat.le_of_ble_eq_true rfl) dX9_lets_56 (fun r8 g8 q8 => ?_)
      obtain ⟨⟨v8, rfl, b8x⟩, hI8, hF8q⟩ := q8
      obtain rfl := zFr_nil hF8q
      simp only [Option.toList, List.cons_append, List.nil_append]
      exact z_iret (pc := 59) C hr dX9_lets_59 ⟨⟨_, rfl, (zB.wk (a' := (-2)) (b' := 255) b8x (by decide) (by decide))⟩, hI7, hF7, (by intro v hv; cases hv; omega)⟩
    · skip
      refine z_bipush (pc := 37) (v := -2) C dX9_lets_37 (by decide) ?_
      exact z_iret (pc := 39) C hr dX9_lets_39 ⟨⟨_, rfl, (zB.wk (a' := (-2)) (b' := 255) (zB.of (x := (-2)) (-2) (by decide)) (by decide) (by decide))⟩, hI, hF, (by intro v hv; cases hv; have qc0 : ((-2) : Int32).toInt = (-2) := (by decide); omega)⟩
  · skip
    refine z_if_ne (pc := 5) 10 C dX9_lets_5 (by decide) (fun h => absurd (by decide) h) (fun _ => ?_)
    refine z_iconst (pc := 8) (v := -1) C dX9_lets_8 (by decide) ?_
    exact z_iret (pc := 9) C hr dX9_lets_9 ⟨⟨_, rfl, (zB.wk (a' := (-2)) (b' := 255) (zB.of (x := (-1)) (-1) (by decide)) (by decide) (by decide))⟩, hI, hF, (by intro v hv; cases hv; have qc0 : ((-1) : Int32).toInt = (-1) := (by decide); omega)⟩

set_option maxRecDepth 100000 in
set_option maxHeartbeats 4000000 in
theorem w_X9_barred (d : Nat) (f : zM) (a1 : Int32) (b1 : zB a1 (-2147483648) 2147483647) (a2 : Int32) (b2 : zB a2 (-2147483648) 2147483647) (hI : zInv f) : ZM (d + 2) yX9_barred cX9_barred 3 (some .int) [zr 0 0, zi a1, zi a2] f (fun r g => (∃ v, r = some (zi v) ∧ zB v (-1) 63) ∧ zInv g ∧ zFr [] f g) := by
  refine ZM.intro (by decide +kernel) (Nat.le_of_ble_eq_true rfl) ?_
  intro X C hr hn
  have hF : zFr [] f f := zFr.rf _ _
  have J : ∀ t : Nat, (∀ g : zM, zInv g → zFr [] f g → (1 : Int) < t → Z X 44 [some (zr 0 0), some (zi a1), some (zi a2)] [] g) ∧ (∀ a45_s0 : Int32, zB a45_s0 (-1) 63 → ∀ g : zM, zInv g → zFr [] f g → (0 : Int) < t → Z X 45 [some (zr 0 0), some (zi a1), some (zi a2)] [zi a45_s0] g) := by
    intro t
    induction t with
    | zero =>
      refine ⟨?_, ?_⟩ <;> (intros; exfalso; omega)
    | succ t ih =>
      obtain ⟨ih0, ih1⟩ := ih
      refine ⟨?_, ?_⟩
      · skip
        intro g44_ hI44_ hF44_ hM44_
        refine z_iconst (pc := 44) (v := -1) C dX9_barred_44 (by decide) ?_
        exact ih1 (-1) (zB.wk (a' := (-1)) (b' := 63) (zB.of (x := (-1)) (-1) (by decide)) (by decide) (by decide)) g44_ hI44_ hF44_  (by have qc0 : ((-1) : Int32).toInt = (-1) := (by decide); omega)
      · skip
        intro a45_s0 b45_s0 g45_ hI45_ hF45_ hM45_
        exact z_iret (pc := 45) C hr dX9_barred_45 ⟨⟨_, rfl, b45_s0⟩, hI45_, hF45_⟩
  obtain ⟨J0, J1⟩ := J 13
  show Z X 0 [some (zr 0 0), some (zi a1), some (zi a2)] [] f
  refine z_aload_n (pc := 0) C dX9_barred_0 rfl ?_
  refine z_iload_n (pc := 1) C dX9_barred_1 rfl ?_
  refine z_callVb (pc := 2) C zk_X9_153 (m_X9_isPaper _ _ _) rfl rfl (by decide) rfl rfl (Nat.le_of_ble_eq_true rfl) dX9_barred_2 (fun h2_0 => ?_) (fun h2_0 => ?_)
  · skip
    have b2x : zB a1 0 11 := (zltc h2_0 (hI 1 0 7).2)
    refine z_if_eq (pc := 5) 44 C dX9_barred_5 (by decide) (fun h => absurd h (by decide)) (fun _ => ?_)
    refine z_aload_n (pc := 8) C dX9_barred_8 rfl ?_
    refine z_iload_n (pc := 9) C dX9_barred_9 rfl ?_
    refine z_callVb (pc := 10) C zk_X9_179 (m_X9_isDeed _ _ _) rfl rfl (by decide) rfl rfl (Nat.le_of_ble_eq_true rfl) dX9_barred_10 (fun h10_2 => ?_) (fun h10_2 => ?_)
    · skip
      have b4x : zB a2 0 7 := (zltc h10_2 (hI 1 0 6).2)
      refine z_if_eq (pc := 13) 44 C dX9_barred_13 (by decide) (fun h => absurd h (by decide)) (fun _ => ?_)
      refine z_aload_n (pc := 16) C dX9_barred_16 rfl ?_
      refine z_getR (pc := 17) C zf_X9_10 rfl rfl (by decide) dX9_barred_17 ?_
      refine z_aload_n (pc := 20) C dX9_barred_20 rfl ?_
      refine z_getR (pc := 21) C zf_X9_10 rfl rfl (by decide) dX9_barred_21 ?_
      refine z_getR (pc := 24) C zf_X9_90 rfl rfl (by decide) dX9_barred_24 ?_
      refine z_iload_n (pc := 27) C dX9_barred_27 rfl ?_
      refine z_aald (pc := 28) C rfl ⟨rfl, by decide⟩ (by decide) (zIx b2x (by decide) (by decide)) dX9_barred_28 ?_
      refine w_gr (by have hq := zN b2x (by decide); show 12 * 0 + a1.toNatClampNeg < 36; omega) (fun m5 h5x => ?_)
      refine z_aload_n (pc := 29) C dX9_barred_29 rfl ?_
      refine z_getR (pc := 30) C zf_X9_10 rfl rfl (by decide) dX9_barred_30 ?_
      refine z_getR (pc := 33) C zf_X9_74 rfl rfl (by decide) dX9_barred_33 ?_
      refine z_iload_n (pc := 36) C dX9_barred_36 rfl ?_
      refine z_aald (pc := 37) C rfl ⟨rfl, by decide⟩ (by decide) (zIx b4x (by decide) (by decide)) dX9_barred_37 ?_
      refine w_gr (by have hq := zN b4x (by decide); show 8 * 0 + a2.toNatClampNeg < 16; omega) (fun m6 h6x => ?_)
      refine z_callV (pc := 38) C zk_X9_265 (w_X8_barsAgainst _ _ m5 h5x m6 h6x hI) rfl rfl (by decide) rfl rfl (Nat.le_of_ble_eq_true rfl) dX9_barred_38 (fun r7 g7 q7 => ?_)
      obtain ⟨⟨v7, rfl, b7x⟩, hI7, hF7q⟩ := q7
      obtain rfl := zFr_nil hF7q
      simp only [Option.toList, List.cons_append, List.nil_append]
      refine z_goto (pc := 41) 45 C dX9_barred_41 (by decide) ?_
      exact J1 v7 (zB.wk (a' := (-1)) (b' := 63) b7x (by decide) (by decide)) f hI hF  (by omega)
    · skip
      refine z_if_eq (pc := 13) 44 C dX9_barred_13 (by decide) (fun _ => ?_) (fun h => absurd (by decide) h)
      exact J0  f hI hF  (by omega)
  · skip
    refine z_if_eq (pc := 5) 44 C dX9_barred_5 (by decide) (fun _ => ?_) (fun h => absurd (by decide) h)
    exact J0  f hI hF  (by omega)

set_option maxRecDepth 100000 in
set_option maxHeartbeats 4000000 in
theorem w_X9_send (d : Nat) (f : zM) (a1 : Int32) (b1 : zB a1 (-2147483648) 2147483647) (hI : zInv f) : ZM (d + 4) yX9_send cX9_send 3 (some .int) [zr 0 0, zi a1] f (fun r g => (∃ v, r = some (zi v) ∧ zB v (-4) 255) ∧ zInv g ∧ zFr [(6, some 1), (6, some 3), (6, some 4), (6, some 5), (6, some 6), (11, some 8), (11, some 9)] f g) := by
  refine ZM.intro (by decide +kernel) (Nat.le_of_ble_eq_true rfl) ?_
  intro X C hr hn
  have hF : zFr [(6, some 1), (6, some 3), (6, some 4), (6, some 5), (6, some 6), (11, some 8), (11, some 9)] f f := zFr.rf _ _
  show Z X 0 [some (zr 0 0), some (zi a1), none] [] f
  refine z_aload_n (pc := 0) C dX9_send_0 rfl ?_
  refine z_iload_n (pc := 1) C dX9_send_1 rfl ?_
  refine z_callV (pc := 2) C zk_X9_269 (w_X9_lets _ _ a1 b1 hI) rfl rfl (by decide) rfl rfl (Nat.le_of_ble_eq_true rfl) dX9_send_2 (fun r1 g1 q1 => ?_)
  obtain ⟨⟨v1, rfl, b1x⟩, hI1, hF1q, hp1_0⟩ := q1
  have hp1_0 := hp1_0 _ rfl
  have hF1 := zFr.tr hF hF1q (by decide)
  simp only [Option.toList, List.cons_append, List.nil_append]
  refine z_istore_n (pc := 5) C dX9_send_5 (by rw [hn]; decide) rfl ?_
  refine z_iload_n (pc := 6) C dX9_send_6 rfl ?_
  refine z_if_ge (pc := 7) 12 C dX9_send_7 (by decide) (fun h7_1 => ?_) (fun h7_1 => ?_)
  · skip
    have b3x : zB v1 0 255 := by have q1 := b1x; have q2 := (zB.of (x := 0) 0 (by decide)); simp only [z32lt, z32le, z32eq, Int32.reduceToInt, Int32.toInt_zero] at h7_1; constructor <;> omega
    have b4x : zB a1 0 11 := by constructor <;> omega
    refine z_iload_n (pc := 12) C dX9_send_12 rfl ?_
    refine z_if_ne (pc := 13) 19 C dX9_send_13 (by decide) (fun h13_4 => ?_) (fun h13_4 => ?_)
    · skip
      have b6x : zB v1 1 255 := by have q1 := b3x; have q2 := (zB.of (x := 0) 0 (by decide)); simp only [z32lt, z32le, z32eq, Int32.reduceToInt, Int32.toInt_zero] at h13_4; constructor <;> omega
      have b7x : zB a1 0 11 := by constructor <;> omega
      refine z_aload_n (pc := 19) C dX9_send_19 rfl ?_
      refine z_getR (pc := 20) C zf_X9_10 rfl rfl (by decide) dX9_send_20 ?_
      refine z_getR (pc := 23) C zf_X9_220 rfl rfl (by decide) dX9_send_23 ?_
      refine z_aload_n (pc := 26) C dX9_send_26 rfl ?_
      refine z_getR (pc := 27) C zf_X9_10 rfl rfl (by decide) dX9_send_27 ?_
      refine z_getR (pc := 30) C zf_X9_90 rfl rfl (by decide) dX9_send_30 ?_
      refine z_iload_n (pc := 33) C dX9_send_33 rfl ?_
      refine z_aald (pc := 34) C rfl ⟨rfl, by decide⟩ (by decide) (zIx b7x (by decide) (by decide)) dX9_send_34 ?_
      refine w_gr (by have hq := zN b7x (by decide); show 12 * 0 + a1.toNatClampNeg < 36; omega) (fun m8 h8x => ?_)
      refine z_iload_n (pc := 35) C dX9_send_35 rfl ?_
      refine z_callV (pc := 36) C zk_X9_272 (w_X3_go _ _ 0 (by decide) m8 h8x v1 (zB.wk (a' := 0) (b' := 255) b6x (by decide) (by decide)) hI1) rfl rfl (by decide) rfl rfl (Nat.le_of_ble_eq_true rfl) dX9_send_36 (fun r9 g9 q9 => ?_)
      obtain ⟨rfl, hI9, hF9q⟩ := q9
      have hF9 := zFr.tr hF1 hF9q (by decide)
      simp only [Option.toList, List.cons_append, List.nil_append]
      refine z_aload_n (pc := 39) C dX9_send_39 rfl ?_
      refine z_getR (pc := 40) C zf_X9_10 rfl rfl (by decide) dX9_send_40 ?_
      refine z_getR (pc := 43) C zf_X9_220 rfl rfl (by decide) dX9_send_43 ?_
      refine z_dupr (pc := 46) C dX9_send_46 ?_
      refine z_getI (pc := 47) C zf_X9_224 rfl rfl (by decide) dX9_send_47 ?_
      refine w_gb (-2147483648) 2147483647 (hI9 6 _ 3) (fun v10 b10x => ?_)
      refine z_iconst (pc := 50) (v := 1) C dX9_send_50 (by decide) ?_
      refine z_iadd (pc := 51) C dX9_send_51 ?_
      refine w_gb (-2147483648) 2147483647 (zB_any _) (fun v11 b11x => ?_)
      refine z_putI (pc := 52) C zf_X9_224 zp_3_3 rfl rfl (by decide) dX9_send_52 ?_
      refine w_mem hI9 hF9 b11x rfl (fun g12 hI12 hF12 => ?_)
      refine z_iload_n (pc := 55) C dX9_send_55 rfl ?_
      exact z_iret (pc := 56) C hr dX9_send_56 ⟨⟨_, rfl, (zB.wk (a' := (-4)) (b' := 255) b6x (by decide) (by decide))⟩, hI12, hF12⟩
    · skip
      have b13x : zB v1 0 0 := by have q1 := b3x; have q2 := (zB.of (x := 0) 0 (by decide)); simp only [z32lt, z32le, z32eq, Int32.reduceToInt, Int32.toInt_zero] at h13_4; constructor <;> omega
      have b14x : zB a1 0 11 := by constructor <;> omega
      refine z_bipush (pc := 16) (v := -4) C dX9_send_16 (by decide) ?_
      exact z_iret (pc := 18) C hr dX9_send_18 ⟨⟨_, rfl, (zB.wk (a' := (-4)) (b' := 255) (zB.of (x := (-4)) (-4) (by decide)) (by decide) (by decide))⟩, hI1, hF1⟩
  · skip
    have b15x : zB v1 (-2) (-1) := by have q1 := b1x; have q2 := (zB.of (x := 0) 0 (by decide)); simp only [z32lt, z32le, z32eq, Int32.reduceToInt, Int32.toInt_zero] at h7_1; constructor <;> omega
    refine z_iload_n (pc := 10) C dX9_send_10 rfl ?_
    exact z_iret (pc := 11) C hr dX9_send_11 ⟨⟨_, rfl, (zB.wk (a' := (-4)) (b' := 255) b15x (by decide) (by decide))⟩, hI1, hF1⟩

set_option maxRecDepth 100000 in
set_option maxHeartbeats 4000000 in
theorem w_X9_tried (d : Nat) (f : zM)  (hI : zInv f) : ZM (d + 2) yX9_tried cX9_tried 1 (some .int) [zr 0 0] f (fun r g => (∃ v, r = some (zi v) ∧ zB v 0 255) ∧ zInv g ∧ zFr [] f g) := by
  refine ZM.intro (by decide +kernel) (Nat.le_of_ble_eq_true rfl) ?_
  intro X C hr hn
  have hF : zFr [] f f := zFr.rf _ _
  show Z X 0 [some (zr 0 0)] [] f
  refine z_aload_n (pc := 0) C dX9_tried_0 rfl ?_
  refine z_getR (pc := 1) C zf_X9_10 rfl rfl (by decide) dX9_tried_1 ?_
  refine z_aload_n (pc := 4) C dX9_tried_4 rfl ?_
  refine z_getR (pc := 5) C zf_X9_10 rfl rfl (by decide) dX9_tried_5 ?_
  refine z_getR (pc := 8) C zf_X9_220 rfl rfl (by decide) dX9_tried_8 ?_
  refine z_callV (pc := 11) C zk_X9_276 (w_X8_triedBy _ _ 0 (by decide) hI) rfl rfl (by decide) rfl rfl (Nat.le_of_ble_eq_true rfl) dX9_tried_11 (fun r1 g1 q1 => ?_)
  obtain ⟨⟨v1, rfl, b1x⟩, hI1, hF1q⟩ := q1
  obtain rfl := zFr_nil hF1q
  simp only [Option.toList, List.cons_append, List.nil_append]
  exact z_iret (pc := 14) C hr dX9_tried_14 ⟨⟨_, rfl, b1x⟩, hI, hF⟩

set_option maxRecDepth 100000 in
set_option maxHeartbeats 4000000 in
theorem w_X9_road (d : Nat) (f : zM) (a1 : Int32) (b1 : zB a1 (-2147483648) 2147483647) (a2 : Int32) (b2 : zB a2 (-2147483648) 2147483647) (a3 : Int32) (b3 : zB a3 (-2147483648) 2147483647) (hI : zInv f) : ZM (d + 4) yX9_road cX9_road 6 (some .int) [zr 0 0, zi a1, zi a2, zi a3] f (fun r g => (∃ v, r = some (zi v) ∧ zB v (-4) 3073) ∧ zInv g ∧ zFr [(6, some 1), (6, some 4), (6, some 5), (6, some 6), (11, some 8), (11, some 9), (13, some 6), (13, some 7), (14, none), (15, none), (16, none)] f g) := by
  refine ZM.intro (by decide +kernel) (Nat.le_of_ble_eq_true rfl) ?_
  intro X C hr hn
  have hF : zFr [(6, some 1), (6, some 4), (6, some 5), (6, some 6), (11, some 8), (11, some 9), (13, some 6), (13, some 7), (14, none), (15, none), (16, none)] f f := zFr.rf _ _
  have J : ∀ t : Nat, (∀ g : zM, zInv g → zFr [(6, some 1), (6, some 4), (6, some 5), (6, some 6), (11, some 8), (11, some 9), (13, some 6), (13, some 7), (14, none), (15, none), (16, none)] f g → (1 : Int) < t → Z X 20 [some (zr 0 0), some (zi a1), some (zi a2), some (zi a3), none, none] [] g) ∧ (zB a1 0 5 → zB a2 0 7 → zB a3 0 2147483647 → ∀ a93_4 : Int32, zB a93_4 0 3072 → ∀ a93_5 : Int32, zB a93_5 0 3073 → ∀ a93_s0 : Int32, zB a93_s0 (-4) 11 → ∀ g : zM, zInv g → zFr [(6, some 1), (6, some 4), (6, some 5), (6, some 6), (11, some 8), (11, some 9), (13, some 6), (13, some 7), (14, none), (15, none), (16, none)] f g → (0 : Int) < t → Z X 93 [some (zr 0 0), some (zi a1), some (zi a2), some (zi a3), some (zi a93_4), some (zi a93_5)] [zi a93_s0] g) := by
    intro t
    induction t with
    | zero =>
      refine ⟨?_, ?_⟩ <;> (intros; exfalso; omega)
    | succ t ih =>
      obtain ⟨ih0, ih1⟩ := ih
      refine ⟨?_, ?_⟩
      · skip
        intro g20_ hI20_ hF20_ hM20_
        refine z_iconst (pc := 20) (v := -1) C dX9_road_20 (by decide) ?_
        exact z_iret (pc := 21) C hr dX9_road_21 ⟨⟨_, rfl, (zB.wk (a' := (-4)) (b' := 3073) (zB.of (x := (-1)) (-1) (by decide)) (by decide) (by decide))⟩, hI20_, hF20_⟩
      · skip
        intro b93_1 b93_2 b93_3 a93_4 b93_4 a93_5 b93_5 a93_s0 b93_s0 g93_ hI93_ hF93_ hM93_
        exact z_iret (pc := 93) C hr dX9_road_93 ⟨⟨_, rfl, (zB.wk (a' := (-4)) (b' := 3073) b93_s0 (by decide) (by decide))⟩, hI93_, hF93_⟩
  obtain ⟨J0, J1⟩ := J 13
  show Z X 0 [some (zr 0 0), some (zi a1), some (zi a2), some (zi a3), none, none] [] f
  refine z_iload_n (pc := 0) C dX9_road_0 rfl ?_
  refine z_callSb (pc := 1) C zk_X9_46 (m_X9_isLand _ _ _) rfl rfl (Nat.le_of_ble_eq_true rfl) dX9_road_1 (fun h1_0 => ?_) (fun h1_0 => ?_)
  · skip
    have b2x : zB a1 0 5 := h1_0
    refine z_if_eq (pc := 4) 20 C dX9_road_4 (by decide) (fun h => absurd h (by decide)) (fun _ => ?_)
    refine z_aload_n (pc := 7) C dX9_road_7 rfl ?_
    refine z_iload_n (pc := 8) C dX9_road_8 rfl ?_
    refine z_callVb (pc := 9) C zk_X9_179 (m_X9_isDeed _ _ _) rfl rfl (by decide) rfl rfl (Nat.le_of_ble_eq_true rfl) dX9_road_9 (fun h9_2 => ?_) (fun h9_2 => ?_)
    · skip
      have b4x : zB a2 0 7 := (zltc h9_2 (hI 1 0 6).2)
      refine z_if_eq (pc := 12) 20 C dX9_road_12 (by decide) (fun h => absurd h (by decide)) (fun _ => ?_)
      refine z_iload_n (pc := 15) C dX9_road_15 rfl ?_
      refine z_iconst (pc := 16) (v := -1) C dX9_road_16 (by decide) ?_
      refine z_icmp_ge (pc := 17) 22 C dX9_road_17 (by decide) (fun h17_4 => ?_) (fun h17_4 => ?_)
      · skip
        have b6x : zB a3 (-1) 2147483647 := by have q1 := b3; have q2 := (zB.of (x := (-1)) (-1) (by decide)); simp only [z32lt, z32le, z32eq, Int32.reduceToInt, Int32.toInt_zero] at h17_4; constructor <;> omega
        refine z_aload_n (pc := 22) C dX9_road_22 rfl ?_
        refine z_getR (pc := 23) C zf_X9_10 rfl rfl (by decide) dX9_road_23 ?_
        refine z_callV (pc := 26) C zk_X9_280 (w_X8_weighAll _ _  hI) rfl rfl (by decide) rfl rfl (Nat.le_of_ble_eq_true rfl) dX9_road_26 (fun r7 g7 q7 => ?_)
        obtain ⟨rfl, hI7, hF7q⟩ := q7
        have hF7 := zFr.tr hF hF7q (by decide)
        simp only [Option.toList, List.cons_append, List.nil_append]
        refine z_aload_n (pc := 29) C dX9_road_29 rfl ?_
        refine z_getR (pc := 30) C zf_X9_24 rfl rfl (by decide) dX9_road_30 ?_
        refine z_iload_n (pc := 33) C dX9_road_33 rfl ?_
        refine z_iload_n (pc := 34) C dX9_road_34 rfl ?_
        refine z_callV (pc := 35) C zk_X9_283 (w_X5_find _ _ a1 b2x a2 b4x hI7) rfl rfl (by decide) rfl rfl (Nat.le_of_ble_eq_true rfl) dX9_road_35 (fun r8 g8 q8 => ?_)
        obtain ⟨⟨v8, rfl, b8x⟩, hI8, hF8q⟩ := q8
        have hF8 := zFr.tr hF7 hF8q (by decide)
        simp only [Option.toList, List.cons_append, List.nil_append]
        refine z_istore (pc := 38) C dX9_road_38 (by rw [hn]; decide) rfl ?_
        refine z_iload (pc := 40) C dX9_road_40 rfl ?_
        refine z_if_ge (pc := 42) 48 C dX9_road_42 (by decide) (fun h42_8 => ?_) (fun h42_8 => ?_)
        · skip
          have b10x : zB v8 0 3072 := by have q1 := b8x; have q2 := (zB.of (x := 0) 0 (by decide)); simp only [z32lt, z32le, z32eq, Int32.reduceToInt, Int32.toInt_zero] at h42_8; constructor <;> omega
          refine z_aload_n (pc := 48) C dX9_road_48 rfl ?_
          refine z_getR (pc := 49) C zf_X9_24 rfl rfl (by decide) dX9_road_49 ?_
          refine z_iload (pc := 52) C dX9_road_52 rfl ?_
          refine z_callV (pc := 54) C zk_X9_287 (w_X5_lengthTo _ _ v8 b10x hI8) rfl rfl (by decide) rfl rfl (Nat.le_of_ble_eq_true rfl) dX9_road_54 (fun r11 g11 q11 => ?_)
          obtain ⟨⟨v11, rfl, b11x⟩, hI11, hF11q⟩ := q11
          obtain rfl := zFr_nil hF11q
          simp only [Option.toList, List.cons_append, List.nil_append]
          refine z_istore (pc := 57) C dX9_road_57 (by rw [hn]; decide) rfl ?_
          refine z_iload_n (pc := 59) C dX9_road_59 rfl ?_
          refine z_iconst (pc := 60) (v := -1) C dX9_road_60 (by decide) ?_
          refine z_icmp_ne (pc := 61) 67 C dX9_road_61 (by decide) (fun h61_11 => ?_) (fun h61_11 => ?_)
          · skip
            have b13x : zB a3 0 2147483647 := by have q1 := b6x; have q2 := (zB.of (x := (-1)) (-1) (by decide)); simp only [z32lt, z32le, z32eq, Int32.reduceToInt, Int32.toInt_zero] at h61_11; constructor <;> omega
            refine z_iload_n (pc := 67) C dX9_road_67 rfl ?_
            refine z_iload (pc := 68) C dX9_road_68 rfl ?_
            refine z_icmp_ge (pc := 70) 91 C dX9_road_70 (by decide) (fun h70_13 => ?_) (fun h70_13 => ?_)
            · skip
              refine z_bipush (pc := 91) (v := -4) C dX9_road_91 (by decide) ?_
              exact J1 b2x b4x b13x v8 b10x v11 b11x (-4) (zB.wk (a' := (-4)) (b' := 11) (zB.of (x := (-4)) (-4) (by decide)) (by decide) (by decide)) g8 hI8 hF8  (by have qc0 : ((-4) : Int32).toInt = (-4) := (by decide); omega)
            · skip
              have b15x : zB a3 0 3072 := by have q1 := b13x; have q2 := b11x; simp only [z32lt, z32le, z32eq, Int32.reduceToInt, Int32.toInt_zero] at h70_13; constructor <;> omega
              have b16x : zB v11 1 3073 := by have q1 := b13x; have q2 := b11x; simp only [z32lt, z32le, z32eq, Int32.reduceToInt, Int32.toInt_zero] at h70_13; constructor <;> omega
              refine z_aload_n (pc := 73) C dX9_road_73 rfl ?_
              refine z_getR (pc := 74) C zf_X9_24 rfl rfl (by decide) dX9_road_74 ?_
              refine z_iload (pc := 77) C dX9_road_77 rfl ?_
              refine z_iload (pc := 79) C dX9_road_79 rfl ?_
              refine z_iconst (pc := 81) (v := 1) C dX9_road_81 (by decide) ?_
              refine z_isub (pc := 82) C dX9_road_82 ?_
              refine w_gp (fun v => v.toInt = v11.toInt - 1) (zsub_eb b16x (zB.of (x := 1) 1 (by decide)) (by decide) (by decide)) (fun v17 e17 => ?_)
              have b17x : zB v17 0 3072 := by have q1 := b16x; have q2 := (zB.of (x := 1) 1 (by decide)); constructor <;> omega
              refine z_iload_n (pc := 83) C dX9_road_83 rfl ?_
              refine z_isub (pc := 84) C dX9_road_84 ?_
              refine w_gp (fun v => v.toInt = v17.toInt - a3.toInt) (zsub_eb b17x b15x (by decide) (by decide)) (fun v18 e18 => ?_)
              have b18x : zB v18 (-3072) 3072 := by have q1 := b17x; have q2 := b15x; constructor <;> omega
              refine z_callV (pc := 85) C zk_X9_290 (w_X5_paperOn _ _ v8 b10x v18 (zB.wk (a' := (-4000)) (b' := 4000) b18x (by decide) (by decide)) hI8) rfl rfl (by decide) rfl rfl (Nat.le_of_ble_eq_true rfl) dX9_road_85 (fun r19 g19 q19 => ?_)
              obtain ⟨⟨v19, rfl, b19x⟩, hI19, hF19q⟩ := q19
              obtain rfl := zFr_nil hF19q
              simp only [Option.toList, List.cons_append, List.nil_append]
              refine z_goto (pc := 88) 93 C dX9_road_88 (by decide) ?_
              exact J1 b2x b4x (zB.wk (a' := 0) (b' := 2147483647) b15x (by decide) (by decide)) v8 b10x v11 (zB.wk (a' := 0) (b' := 3073) b16x (by decide) (by decide)) v19 (zB.wk (a' := (-4)) (b' := 11) b19x (by decide) (by decide)) g8 hI8 hF8  (by omega)
          · skip
            have b20x : zB a3 (-1) (-1) := by have q1 := b6x; have q2 := (zB.of (x := (-1)) (-1) (by decide)); simp only [z32lt, z32le, z32eq, Int32.reduceToInt, Int32.toInt_zero] at h61_11; constructor <;> omega
            refine z_iload (pc := 64) C dX9_road_64 rfl ?_
            exact z_iret (pc := 66) C hr dX9_road_66 ⟨⟨_, rfl, (zB.wk (a' := (-4)) (b' := 3073) b11x (by decide) (by decide))⟩, hI8, hF8⟩
        · skip
          have b21x : zB v8 (-4) (-1) := by have q1 := b8x; have q2 := (zB.of (x := 0) 0 (by decide)); simp only [z32lt, z32le, z32eq, Int32.reduceToInt, Int32.toInt_zero] at h42_8; constructor <;> omega
          refine z_bipush (pc := 45) (v := -4) C dX9_road_45 (by decide) ?_
          exact z_iret (pc := 47) C hr dX9_road_47 ⟨⟨_, rfl, (zB.wk (a' := (-4)) (b' := 3073) (zB.of (x := (-4)) (-4) (by decide)) (by decide) (by decide))⟩, hI8, hF8⟩
      · skip
        have b22x : zB a3 (-2147483648) (-2) := by have q1 := b3; have q2 := (zB.of (x := (-1)) (-1) (by decide)); simp only [z32lt, z32le, z32eq, Int32.reduceToInt, Int32.toInt_zero] at h17_4; constructor <;> omega
        exact J0  f hI hF  (by omega)
    · skip
      refine z_if_eq (pc := 12) 20 C dX9_road_12 (by decide) (fun _ => ?_) (fun h => absurd (by decide) h)
      exact J0  f hI hF  (by omega)
  · skip
    refine z_if_eq (pc := 4) 20 C dX9_road_4 (by decide) (fun _ => ?_) (fun h => absurd (by decide) h)
    exact J0  f hI hF  (by omega)

set_option maxRecDepth 100000 in
set_option maxHeartbeats 4000000 in
theorem w_X9_lands (d : Nat) (f : zM)  (hI : zInv f) : ZM (d + 4) yX9_lands cX9_lands 1 (some .int) [zr 0 0] f (fun r g => (∃ v, r = some (zi v) ∧ zB v 0 63) ∧ zInv g ∧ zFr [(6, some 1), (6, some 4), (6, some 5), (6, some 6), (11, some 8), (11, some 9), (13, some 6), (13, some 7), (14, none), (15, none), (16, none)] f g) := by
  refine ZM.intro (by decide +kernel) (Nat.le_of_ble_eq_true rfl) ?_
  intro X C hr hn
  have hF : zFr [(6, some 1), (6, some 4), (6, some 5), (6, some 6), (11, some 8), (11, some 9), (13, some 6), (13, some 7), (14, none), (15, none), (16, none)] f f := zFr.rf _ _
  show Z X 0 [some (zr 0 0)] [] f
  refine z_aload_n (pc := 0) C dX9_lands_0 rfl ?_
  refine z_getR (pc := 1) C zf_X9_10 rfl rfl (by decide) dX9_lands_1 ?_
  refine z_callV (pc := 4) C zk_X9_280 (w_X8_weighAll _ _  hI) rfl rfl (by decide) rfl rfl (Nat.le_of_ble_eq_true rfl) dX9_lands_4 (fun r1 g1 q1 => ?_)
  obtain ⟨rfl, hI1, hF1q⟩ := q1
  have hF1 := zFr.tr hF hF1q (by decide)
  simp only [Option.toList, List.cons_append, List.nil_append]
  refine z_aload_n (pc := 7) C dX9_lands_7 rfl ?_
  refine z_getR (pc := 8) C zf_X9_24 rfl rfl (by decide) dX9_lands_8 ?_
  refine z_callV (pc := 11) C zk_X9_293 (w_X5_reach _ _  hI1) rfl rfl (by decide) rfl rfl (Nat.le_of_ble_eq_true rfl) dX9_lands_11 (fun r2 g2 q2 => ?_)
  obtain ⟨⟨v2, rfl, b2x⟩, hI2, hF2q⟩ := q2
  have hF2 := zFr.tr hF1 hF2q (by decide)
  simp only [Option.toList, List.cons_append, List.nil_append]
  exact z_iret (pc := 14) C hr dX9_lands_14 ⟨⟨_, rfl, b2x⟩, hI2, hF2⟩

set_option maxRecDepth 100000 in
set_option maxHeartbeats 4000000 in
theorem w_X9_safe (d : Nat) (f : zM) (a1 : Int32) (b1 : zB a1 (-2147483648) 2147483647) (hI : zInv f) : ZM (d + 4) yX9_safe cX9_safe 2 (some .int) [zr 0 0, zi a1] f (fun r g => (∃ v, r = some (zi v) ∧ zB v (-1) 63) ∧ zInv g ∧ zFr [(6, some 1), (6, some 4), (6, some 5), (6, some 6), (11, some 8), (11, some 9)] f g) := by
  refine ZM.intro (by decide +kernel) (Nat.le_of_ble_eq_true rfl) ?_
  intro X C hr hn
  have hF : zFr [(6, some 1), (6, some 4), (6, some 5), (6, some 6), (11, some 8), (11, some 9)] f f := zFr.rf _ _
  have J : ∀ t : Nat, (∀ g : zM, zInv g → zFr [(6, some 1), (6, some 4), (6, some 5), (6, some 6), (11, some 8), (11, some 9)] f g → (1 : Int) < t → Z X 9 [some (zr 0 0), some (zi a1)] [] g) ∧ (zB a1 0 1 → ∀ a32_s1 : Int32, zB a32_s1 0 1 → ∀ g : zM, zInv g → zFr [(6, some 1), (6, some 4), (6, some 5), (6, some 6), (11, some 8), (11, some 9)] f g → (0 : Int) < t → Z X 32 [some (zr 0 0), some (zi a1)] [zi a32_s1, zr 13 0] g) := by
    intro t
    induction t with
    | zero =>
      refine ⟨?_, ?_⟩ <;> (intros; exfalso; omega)
    | succ t ih =>
      obtain ⟨ih0, ih1⟩ := ih
      refine ⟨?_, ?_⟩
      · skip
        intro g9_ hI9_ hF9_ hM9_
        refine z_iconst (pc := 9) (v := -1) C dX9_safe_9 (by decide) ?_
        exact z_iret (pc := 10) C hr dX9_safe_10 ⟨⟨_, rfl, (zB.wk (a' := (-1)) (b' := 63) (zB.of (x := (-1)) (-1) (by decide)) (by decide) (by decide))⟩, hI9_, hF9_⟩
      · skip
        intro b32_1 a32_s1 b32_s1 g32_ hI32_ hF32_ hM32_
        refine z_callV (pc := 32) C zk_X9_296 (w_X5_safeLands _ _ a32_s1 b32_s1 hI32_) rfl rfl (by decide) rfl rfl (Nat.le_of_ble_eq_true rfl) dX9_safe_32 (fun r1 g1 q1 => ?_)
        obtain ⟨⟨v1, rfl, b1x⟩, hI1, hF1q⟩ := q1
        have hF1 := zFr.tr hF32_ hF1q (by decide)
        simp only [Option.toList, List.cons_append, List.nil_append]
        exact z_iret (pc := 35) C hr dX9_safe_35 ⟨⟨_, rfl, (zB.wk (a' := (-1)) (b' := 63) b1x (by decide) (by decide))⟩, hI1, hF1⟩
  obtain ⟨J0, J1⟩ := J 13
  show Z X 0 [some (zr 0 0), some (zi a1)] [] f
  refine z_iload_n (pc := 0) C dX9_safe_0 rfl ?_
  refine z_if_lt (pc := 1) 9 C dX9_safe_1 (by decide) (fun h1_1 => ?_) (fun h1_1 => ?_)
  · skip
    have b3x : zB a1 (-2147483648) (-1) := by have q1 := b1; have q2 := (zB.of (x := 0) 0 (by decide)); simp only [z32lt, z32le, z32eq, Int32.reduceToInt, Int32.toInt_zero] at h1_1; constructor <;> omega
    exact J0  f hI hF  (by omega)
  · skip
    have b4x : zB a1 0 2147483647 := by have q1 := b1; have q2 := (zB.of (x := 0) 0 (by decide)); simp only [z32lt, z32le, z32eq, Int32.reduceToInt, Int32.toInt_zero] at h1_1; constructor <;> omega
    refine z_iload_n (pc := 4) C dX9_safe_4 rfl ?_
    refine z_iconst (pc := 5) (v := 1) C dX9_safe_5 (by decide) ?_
    refine z_icmp_le (pc := 6) 11 C dX9_safe_6 (by decide) (fun h6_4 => ?_) (fun h6_4 => ?_)
    · skip
      have b6x : zB a1 0 1 := by have q1 := b4x; have q2 := (zB.of (x := 1) 1 (by decide)); simp only [z32lt, z32le, z32eq, Int32.reduceToInt, Int32.toInt_zero] at h6_4; constructor <;> omega
      refine z_aload_n (pc := 11) C dX9_safe_11 rfl ?_
      refine z_getR (pc := 12) C zf_X9_10 rfl rfl (by decide) dX9_safe_12 ?_
      refine z_callV (pc := 15) C zk_X9_280 (w_X8_weighAll _ _  hI) rfl rfl (by decide) rfl rfl (Nat.le_of_ble_eq_true rfl) dX9_safe_15 (fun r7 g7 q7 => ?_)
      obtain ⟨rfl, hI7, hF7q⟩ := q7
      have hF7 := zFr.tr hF hF7q (by decide)
      simp only [Option.toList, List.cons_append, List.nil_append]
      refine z_aload_n (pc := 18) C dX9_safe_18 rfl ?_
      refine z_getR (pc := 19) C zf_X9_24 rfl rfl (by decide) dX9_safe_19 ?_
      refine z_iload_n (pc := 22) C dX9_safe_22 rfl ?_
      refine z_iconst (pc := 23) (v := 1) C dX9_safe_23 (by decide) ?_
      refine z_icmp_ne (pc := 24) 31 C dX9_safe_24 (by decide) (fun h24_7 => ?_) (fun h24_7 => ?_)
      · skip
        have b9x : zB a1 0 0 := by have q1 := b6x; have q2 := (zB.of (x := 1) 1 (by decide)); simp only [z32lt, z32le, z32eq, Int32.reduceToInt, Int32.toInt_zero] at h24_7; constructor <;> omega
        refine z_iconst (pc := 31) (v := 0) C dX9_safe_31 (by decide) ?_
        exact J1 (zB.wk (a' := 0) (b' := 1) b9x (by decide) (by decide)) 0 (zB.wk (a' := 0) (b' := 1) (zB.of (x := 0) 0 (by decide)) (by decide) (by decide)) g7 hI7 hF7  (by have qc0 : (0 : Int32).toInt = 0 := (by decide); omega)
      · skip
        have b10x : zB a1 1 1 := by have q1 := b6x; have q2 := (zB.of (x := 1) 1 (by decide)); simp only [z32lt, z32le, z32eq, Int32.reduceToInt, Int32.toInt_zero] at h24_7; constructor <;> omega
        refine z_iconst (pc := 27) (v := 1) C dX9_safe_27 (by decide) ?_
        refine z_goto (pc := 28) 32 C dX9_safe_28 (by decide) ?_
        exact J1 (zB.wk (a' := 0) (b' := 1) b10x (by decide) (by decide)) 1 (zB.wk (a' := 0) (b' := 1) (zB.of (x := 1) 1 (by decide)) (by decide) (by decide)) g7 hI7 hF7  (by have qc0 : (1 : Int32).toInt = 1 := (by decide); omega)
    · skip
      have b11x : zB a1 2 2147483647 := by have q1 := b4x; have q2 := (zB.of (x := 1) 1 (by decide)); simp only [z32lt, z32le, z32eq, Int32.reduceToInt, Int32.toInt_zero] at h6_4; constructor <;> omega
      exact J0  f hI hF  (by omega)

set_option maxRecDepth 100000 in
set_option maxHeartbeats 4000000 in
theorem w_X9_ahead (d : Nat) (f : zM) (a1 : Int32) (b1 : zB a1 (-2147483648) 2147483647) (hI : zInv f) : ZM (d + 4) yX9_ahead cX9_ahead 3 (some .int) [zr 0 0, zi a1] f (fun r g => (∃ v, r = some (zi v) ∧ zB v (-4) 7) ∧ zInv g ∧ zFr [(11, some 8), (11, some 9), (12, some 3), (12, some 4), (12, some 5)] f g) := by
  refine ZM.intro (by decide +kernel) (Nat.le_of_ble_eq_true rfl) ?_
  intro X C hr hn
  have hF : zFr [(11, some 8), (11, some 9), (12, some 3), (12, some 4), (12, some 5)] f f := zFr.rf _ _
  have J : ∀ t : Nat, (zB a1 0 2147483647 → ∀ a22_2 : Int32, zB a22_2 0 8 → ∀ g : zM, zInv g → zFr [(11, some 8), (11, some 9), (12, some 3), (12, some 4), (12, some 5)] f g → (1 + 4 * (8 - a22_2.toInt) : Int) < t → Z X 22 [some (zr 0 0), some (zi a1), some (zi a22_2)] [] g) ∧ (zB a1 0 2147483647 → ∀ a62_2 : Int32, zB a62_2 0 7 → ∀ g : zM, zInv g → zFr [(11, some 8), (11, some 9), (12, some 3), (12, some 4), (12, some 5)] f g → (0 + 4 * (8 - a62_2.toInt) : Int) < t → Z X 62 [some (zr 0 0), some (zi a1), some (zi a62_2)] [] g) := by
    intro t
    induction t with
    | zero =>
      refine ⟨?_, ?_⟩ <;> (intros; exfalso; omega)
    | succ t ih =>
      obtain ⟨ih0, ih1⟩ := ih
      refine ⟨?_, ?_⟩
      · skip
        intro b22_1 a22_2 b22_2 g22_ hI22_ hF22_ hM22_
        refine z_iload_n (pc := 22) C dX9_ahead_22 rfl ?_
        refine z_aload_n (pc := 23) C dX9_ahead_23 rfl ?_
        refine z_getR (pc := 24) C zf_X9_10 rfl rfl (by decide) dX9_ahead_24 ?_
        refine z_getI (pc := 27) C zf_X9_217 rfl rfl (by decide) dX9_ahead_27 ?_
        refine w_gb 0 8 (hI22_ 1 _ 8) (fun v1 b1x => ?_)
        refine z_icmp_ge (pc := 30) 68 C dX9_ahead_30 (by decide) (fun h30_1 => ?_) (fun h30_1 => ?_)
        · skip
          refine z_bipush (pc := 68) (v := -4) C dX9_ahead_68 (by decide) ?_
          exact z_iret (pc := 70) C hr dX9_ahead_70 ⟨⟨_, rfl, (zB.wk (a' := (-4)) (b' := 7) (zB.of (x := (-4)) (-4) (by decide)) (by decide) (by decide))⟩, hI22_, hF22_⟩
        · skip
          have b3x : zB a22_2 0 7 := by have q1 := b22_2; have q2 := b1x; simp only [z32lt, z32le, z32eq, Int32.reduceToInt, Int32.toInt_zero] at h30_1; constructor <;> omega
          have b4x : zB v1 1 8 := by have q1 := b22_2; have q2 := b1x; simp only [z32lt, z32le, z32eq, Int32.reduceToInt, Int32.toInt_zero] at h30_1; constructor <;> omega
          refine z_aload_n (pc := 33) C dX9_ahead_33 rfl ?_
          refine z_getR (pc := 34) C zf_X9_10 rfl rfl (by decide) dX9_ahead_34 ?_
          refine z_getR (pc := 37) C zf_X9_300 rfl rfl (by decide) dX9_ahead_37 ?_
          refine z_iload_n (pc := 40) C dX9_ahead_40 rfl ?_
          refine z_aald (pc := 41) C rfl ⟨rfl, by decide⟩ (by decide) (zIx b3x (by decide) (by decide)) dX9_ahead_41 ?_
          refine w_gr (by have hq := zN b3x (by decide); show 8 * 0 + a22_2.toNatClampNeg < 16; omega) (fun m5 h5x => ?_)
          refine z_getI (pc := 42) C zf_X9_311 rfl rfl h5x dX9_ahead_42 ?_
          refine w_gb 0 255 (hI22_ 12 _ 3) (fun v6 b6x => ?_)
          refine z_if_eq (pc := 45) 62 C dX9_ahead_45 (by decide) (fun h45_6 => ?_) (fun h45_6 => ?_)
          · skip
            have b8x : zB v6 0 0 := by have q1 := b6x; have q2 := (zB.of (x := 0) 0 (by decide)); simp only [z32lt, z32le, z32eq, Int32.reduceToInt, Int32.toInt_zero] at h45_6; constructor <;> omega
            exact ih1 b22_1 a22_2 b3x g22_ hI22_ hF22_  (by omega)
          · skip
            have b9x : zB v6 1 255 := by have q1 := b6x; have q2 := (zB.of (x := 0) 0 (by decide)); simp only [z32lt, z32le, z32eq, Int32.reduceToInt, Int32.toInt_zero] at h45_6; constructor <;> omega
            refine z_aload_n (pc := 48) C dX9_ahead_48 rfl ?_
            refine z_getR (pc := 49) C zf_X9_10 rfl rfl (by decide) dX9_ahead_49 ?_
            refine z_iload_n (pc := 52) C dX9_ahead_52 rfl ?_
            refine z_callV (pc := 53) C zk_X9_314 (w_X8_placeOf _ _ a22_2 b3x hI22_) rfl rfl (by decide) rfl rfl (Nat.le_of_ble_eq_true rfl) dX9_ahead_53 (fun r10 g10 q10 => ?_)
            obtain ⟨⟨v10, rfl, b10x⟩, hI10, hF10q⟩ := q10
            obtain rfl := zFr_nil hF10q
            simp only [Option.toList, List.cons_append, List.nil_append]
            refine z_iload_n (pc := 56) C dX9_ahead_56 rfl ?_
            refine z_icmp_ne (pc := 57) 62 C dX9_ahead_57 (by decide) (fun h57_10 => ?_) (fun h57_10 => ?_)
            · skip
              exact ih1 b22_1 a22_2 b3x g22_ hI22_ hF22_  (by omega)
            · skip
              have b12x : zB v10 0 2147483647 := by have q1 := b10x; have q2 := b22_1; simp only [z32lt, z32le, z32eq, Int32.reduceToInt, Int32.toInt_zero] at h57_10; constructor <;> omega
              refine z_iload_n (pc := 60) C dX9_ahead_60 rfl ?_
              exact z_iret (pc := 61) C hr dX9_ahead_61 ⟨⟨_, rfl, (zB.wk (a' := (-4)) (b' := 7) b3x (by decide) (by decide))⟩, hI22_, hF22_⟩
      · skip
        intro b62_1 a62_2 b62_2 g62_ hI62_ hF62_ hM62_
        refine z_iinc (pc := 62) (v := 1) C dX9_ahead_62 rfl (by decide) (by rw [hn]; decide) rfl ?_
        obtain ⟨v13, hv13, e13⟩ : ∃ v : Int32, v = a62_2 + 1 ∧ v.toInt = a62_2.toInt + 1 := ⟨_, rfl, zadd_eb b62_2 (zB.of (x := 1) 1 (by decide)) (by decide) (by decide)⟩
        rw [← hv13]
        have b13x : zB v13 1 8 := by have q9 := b62_2; constructor <;> omega
        refine z_goto (pc := 65) 22 C dX9_ahead_65 (by decide) ?_
        exact ih0 b62_1 v13 (zB.wk (a' := 0) (b' := 8) b13x (by decide) (by decide)) g62_ hI62_ hF62_  (by omega)
  obtain ⟨J0, J1⟩ := J 49
  show Z X 0 [some (zr 0 0), some (zi a1), none] [] f
  refine z_iload_n (pc := 0) C dX9_ahead_0 rfl ?_
  refine z_if_ge (pc := 1) 6 C dX9_ahead_1 (by decide) (fun h1_13 => ?_) (fun h1_13 => ?_)
  · skip
    have b15x : zB a1 0 2147483647 := by have q1 := b1; have q2 := (zB.of (x := 0) 0 (by decide)); simp only [z32lt, z32le, z32eq, Int32.reduceToInt, Int32.toInt_zero] at h1_13; constructor <;> omega
    refine z_aload_n (pc := 6) C dX9_ahead_6 rfl ?_
    refine z_getR (pc := 7) C zf_X9_10 rfl rfl (by decide) dX9_ahead_7 ?_
    refine z_callV (pc := 10) C zk_X9_280 (w_X8_weighAll _ _  hI) rfl rfl (by decide) rfl rfl (Nat.le_of_ble_eq_true rfl) dX9_ahead_10 (fun r16 g16 q16 => ?_)
    obtain ⟨rfl, hI16, hF16q⟩ := q16
    have hF16 := zFr.tr hF hF16q (by decide)
    simp only [Option.toList, List.cons_append, List.nil_append]
    refine z_aload_n (pc := 13) C dX9_ahead_13 rfl ?_
    refine z_getR (pc := 14) C zf_X9_10 rfl rfl (by decide) dX9_ahead_14 ?_
    refine z_callV (pc := 17) C zk_X9_308 (w_X8_weighDemands _ _  hI16) rfl rfl (by decide) rfl rfl (Nat.le_of_ble_eq_true rfl) dX9_ahead_17 (fun r17 g17 q17 => ?_)
    obtain ⟨rfl, hI17, hF17q⟩ := q17
    have hF17 := zFr.tr hF16 hF17q (by decide)
    simp only [Option.toList, List.cons_append, List.nil_append]
    refine z_iconst (pc := 20) (v := 0) C dX9_ahead_20 (by decide) ?_
    refine z_istore_n (pc := 21) C dX9_ahead_21 (by rw [hn]; decide) rfl ?_
    exact J0 b15x 0 (zB.wk (a' := 0) (b' := 8) (zB.of (x := 0) 0 (by decide)) (by decide) (by decide)) g17 hI17 hF17  (by have qc0 : (0 : Int32).toInt = 0 := (by decide); omega)
  · skip
    have b18x : zB a1 (-2147483648) (-1) := by have q1 := b1; have q2 := (zB.of (x := 0) 0 (by decide)); simp only [z32lt, z32le, z32eq, Int32.reduceToInt, Int32.toInt_zero] at h1_13; constructor <;> omega
    refine z_iconst (pc := 4) (v := -1) C dX9_ahead_4 (by decide) ?_
    exact z_iret (pc := 5) C hr dX9_ahead_5 ⟨⟨_, rfl, (zB.wk (a' := (-4)) (b' := 7) (zB.of (x := (-1)) (-1) (by decide)) (by decide) (by decide))⟩, hI, hF⟩

set_option maxRecDepth 100000 in
set_option maxHeartbeats 4000000 in
theorem w_X9_promises (d : Nat) (f : zM) (a1 : Int32) (b1 : zB a1 (-2147483648) 2147483647) (a2 : Int32) (b2 : zB a2 (-2147483648) 2147483647) (hI : zInv f) : ZM (d + 4) yX9_promises cX9_promises 6 (some .int) [zr 0 0, zi a1, zi a2] f (fun r g => (∃ v, r = some (zi v) ∧ zB v (-4) 7) ∧ zInv g ∧ zFr [(11, some 8), (11, some 9)] f g) := by
  refine ZM.intro (by decide +kernel) (Nat.le_of_ble_eq_true rfl) ?_
  intro X C hr hn
  have hF : zFr [(11, some 8), (11, some 9)] f f := zFr.rf _ _
  have J : ∀ t : Nat, (∀ g : zM, zInv g → zFr [(11, some 8), (11, some 9)] f g → (67 : Int) < t → Z X 15 [some (zr 0 0), some (zi a1), some (zi a2), none, none, none] [] g) ∧ (zB a1 0 5 → zB a2 0 7 → ∀ a30_3 : Int32, zB a30_3 (-4) 7 → ∀ a30_4 : Int32, zB a30_4 0 12 → ∀ g : zM, zInv g → zFr [(11, some 8), (11, some 9)] f g → (1 + 5 * (12 - a30_4.toInt) : Int) < t → Z X 30 [some (zr 0 0), some (zi a1), some (zi a2), some (zi a30_3), some (zi a30_4), none] [] g) ∧ (zB a1 0 5 → zB a2 0 7 → ∀ a100_3 : Int32, zB a100_3 (-4) 7 → ∀ a100_4 : Int32, zB a100_4 0 11 → ∀ m100_5 : Nat, m100_5 < zcnt 11 → ∀ g : zM, zInv g → zFr [(11, some 8), (11, some 9)] f g → (0 + 5 * (12 - a100_4.toInt) : Int) < t → Z X 100 [some (zr 0 0), some (zi a1), some (zi a2), some (zi a100_3), some (zi a100_4), some (zr 11 m100_5)] [] g) := by
    intro t
    induction t with
    | zero =>
      refine ⟨?_, ?_, ?_⟩ <;> (intros; exfalso; omega)
    | succ t ih =>
      obtain ⟨ih0, ih1, ih2⟩ := ih
      refine ⟨?_, ?_, ?_⟩
      · skip
        intro g15_ hI15_ hF15_ hM15_
        refine z_iconst (pc := 15) (v := -1) C dX9_promises_15 (by decide) ?_
        exact z_iret (pc := 16) C hr dX9_promises_16 ⟨⟨_, rfl, (zB.wk (a' := (-4)) (b' := 7) (zB.of (x := (-1)) (-1) (by decide)) (by decide) (by decide))⟩, hI15_, hF15_⟩
      · skip
        intro b30_1 b30_2 a30_3 b30_3 a30_4 b30_4 g30_ hI30_ hF30_ hM30_
        refine z_iload (pc := 30) C dX9_promises_30 rfl ?_
        refine z_aload_n (pc := 32) C dX9_promises_32 rfl ?_
        refine z_getR (pc := 33) C zf_X9_10 rfl rfl (by decide) dX9_promises_33 ?_
        refine z_getI (pc := 36) C zf_X9_119 rfl rfl (by decide) dX9_promises_36 ?_
        refine w_gb 0 12 (hI30_ 1 _ 7) (fun v1 b1x => ?_)
        refine z_icmp_ge (pc := 39) 106 C dX9_promises_39 (by decide) (fun h39_1 => ?_) (fun h39_1 => ?_)
        · skip
          refine z_iload_n (pc := 106) C dX9_promises_106 rfl ?_
          exact z_iret (pc := 107) C hr dX9_promises_107 ⟨⟨_, rfl, b30_3⟩, hI30_, hF30_⟩
        · skip
          have b3x : zB a30_4 0 11 := by have q1 := b30_4; have q2 := b1x; simp only [z32lt, z32le, z32eq, Int32.reduceToInt, Int32.toInt_zero] at h39_1; constructor <;> omega
          have b4x : zB v1 1 12 := by have q1 := b30_4; have q2 := b1x; simp only [z32lt, z32le, z32eq, Int32.reduceToInt, Int32.toInt_zero] at h39_1; constructor <;> omega
          refine z_aload_n (pc := 42) C dX9_promises_42 rfl ?_
          refine z_getR (pc := 43) C zf_X9_10 rfl rfl (by decide) dX9_promises_43 ?_
          refine z_getR (pc := 46) C zf_X9_90 rfl rfl (by decide) dX9_promises_46 ?_
          refine z_iload (pc := 49) C dX9_promises_49 rfl ?_
          refine z_aald (pc := 51) C rfl ⟨rfl, by decide⟩ (by decide) (zIx b3x (by decide) (by decide)) dX9_promises_51 ?_
          refine w_gr (by have hq := zN b3x (by decide); show 12 * 0 + a30_4.toNatClampNeg < 36; omega) (fun m5 h5x => ?_)
          refine z_astore (pc := 52) C dX9_promises_52 (by rw [hn]; decide) rfl ?_
          refine z_aload (pc := 54) C dX9_promises_54 rfl ?_
          refine z_getI (pc := 56) C zf_X9_162 rfl rfl h5x dX9_promises_56 ?_
          refine w_gb 0 5 (hI30_ 11 _ 2) (fun v6 b6x => ?_)
          refine z_iload_n (pc := 59) C dX9_promises_59 rfl ?_
          refine z_icmp_ne (pc := 60) 100 C dX9_promises_60 (by decide) (fun h60_6 => ?_) (fun h60_6 => ?_)
          · skip
            exact ih2 b30_1 b30_2 a30_3 b30_3 a30_4 b3x m5 h5x g30_ hI30_ hF30_  (by omega)
          · skip
            refine z_aload_n (pc := 63) C dX9_promises_63 rfl ?_
            refine z_getR (pc := 64) C zf_X9_10 rfl rfl (by decide) dX9_promises_64 ?_
            refine z_getR (pc := 67) C zf_X9_220 rfl rfl (by decide) dX9_promises_67 ?_
            refine z_aload (pc := 70) C dX9_promises_70 rfl ?_
            refine z_callV (pc := 72) C zk_X9_262 (w_X3_goesBy _ _ 0 (by decide) m5 h5x hI30_) rfl rfl (by decide) rfl rfl (Nat.le_of_ble_eq_true rfl) dX9_promises_72 (fun r8 g8 q8 => ?_)
            obtain ⟨⟨v8, rfl, b8x⟩, hI8, hF8q⟩ := q8
            obtain rfl := zFr_nil hF8q
            simp only [Option.toList, List.cons_append, List.nil_append]
            refine z_iload_n (pc := 75) C dX9_promises_75 rfl ?_
            refine z_ishr (pc := 76) C dX9_promises_76 ?_
            refine w_gb (-2147483648) 2147483647 (zB_any _) (fun v9 b9x => ?_)
            refine z_iconst (pc := 77) (v := 1) C dX9_promises_77 (by decide) ?_
            refine z_iand (pc := 78) C dX9_promises_78 ?_
            refine w_gb 0 1 (zand_b b9x (zB.of (x := 1) 1 (by decide)) (by decide)) (fun v10 b10x => ?_)
            refine z_if_eq (pc := 79) 100 C dX9_promises_79 (by decide) (fun h79_10 => ?_) (fun h79_10 => ?_)
            · skip
              have b12x : zB v10 0 0 := by have q1 := b10x; have q2 := (zB.of (x := 0) 0 (by decide)); simp only [z32lt, z32le, z32eq, Int32.reduceToInt, Int32.toInt_zero] at h79_10; constructor <;> omega
              exact ih2 b30_1 b30_2 a30_3 b30_3 a30_4 b3x m5 h5x g30_ hI30_ hF30_  (by omega)
            · skip
              have b13x : zB v10 1 1 := by have q1 := b10x; have q2 := (zB.of (x := 0) 0 (by decide)); simp only [z32lt, z32le, z32eq, Int32.reduceToInt, Int32.toInt_zero] at h79_10; constructor <;> omega
              refine z_aload (pc := 82) C dX9_promises_82 rfl ?_
              refine z_getI (pc := 84) C zf_X9_176 rfl rfl h5x dX9_promises_84 ?_
              refine w_gb 0 7 (hI30_ 11 _ 7) (fun v14 b14x => ?_)
              refine z_iload_n (pc := 87) C dX9_promises_87 rfl ?_
              refine z_callS (pc := 88) C zk_X9_317 (w_X9_isLess _ _ v14 (zB.wk (a' := (-2147483648)) (b' := 2147483647) b14x (by decide) (by decide)) a30_3 (zB.wk (a' := (-2147483648)) (b' := 2147483647) b30_3 (by decide) (by decide)) hI30_) rfl rfl (Nat.le_of_ble_eq_true rfl) dX9_promises_88 (fun r15 g15 q15 => ?_)
              obtain ⟨⟨v15, rfl, b15x⟩, hI15, hF15q⟩ := q15
              obtain rfl := zFr_nil hF15q
              simp only [Option.toList, List.cons_append, List.nil_append]
              refine z_if_eq (pc := 91) 100 C dX9_promises_91 (by decide) (fun h91_15 => ?_) (fun h91_15 => ?_)
              · skip
                have b17x : zB v15 0 0 := by have q1 := b15x; have q2 := (zB.of (x := 0) 0 (by decide)); simp only [z32lt, z32le, z32eq, Int32.reduceToInt, Int32.toInt_zero] at h91_15; constructor <;> omega
                exact ih2 b30_1 b30_2 a30_3 b30_3 a30_4 b3x m5 h5x g30_ hI30_ hF30_  (by omega)
              · skip
                have b18x : zB v15 1 1 := by have q1 := b15x; have q2 := (zB.of (x := 0) 0 (by decide)); simp only [z32lt, z32le, z32eq, Int32.reduceToInt, Int32.toInt_zero] at h91_15; constructor <;> omega
                refine z_aload (pc := 94) C dX9_promises_94 rfl ?_
                refine z_getI (pc := 96) C zf_X9_176 rfl rfl h5x dX9_promises_96 ?_
                refine w_gb 0 7 (hI30_ 11 _ 7) (fun v19 b19x => ?_)
                refine z_istore_n (pc := 99) C dX9_promises_99 (by rw [hn]; decide) rfl ?_
                exact ih2 b30_1 b30_2 v19 (zB.wk (a' := (-4)) (b' := 7) b19x (by decide) (by decide)) a30_4 b3x m5 h5x g30_ hI30_ hF30_  (by omega)
      · skip
        intro b100_1 b100_2 a100_3 b100_3 a100_4 b100_4 m100_5 h100_5 g100_ hI100_ hF100_ hM100_
        refine z_iinc (pc := 100) (v := 1) C dX9_promises_100 rfl (by decide) (by rw [hn]; decide) rfl ?_
        obtain ⟨v20, hv20, e20⟩ : ∃ v : Int32, v = a100_4 + 1 ∧ v.toInt = a100_4.toInt + 1 := ⟨_, rfl, zadd_eb b100_4 (zB.of (x := 1) 1 (by decide)) (by decide) (by decide)⟩
        rw [← hv20]
        have b20x : zB v20 1 12 := by have q9 := b100_4; constructor <;> omega
        refine z_goto (pc := 103) 30 C dX9_promises_103 (by decide) ?_
        refine w_mask [5] ?_
        exact ih1 b100_1 b100_2 a100_3 b100_3 v20 (zB.wk (a' := 0) (b' := 12) b20x (by decide) (by decide)) g100_ hI100_ hF100_  (by omega)
  obtain ⟨J0, J1, J2⟩ := J 79
  show Z X 0 [some (zr 0 0), some (zi a1), some (zi a2), none, none, none] [] f
  refine z_iload_n (pc := 0) C dX9_promises_0 rfl ?_
  refine z_callSb (pc := 1) C zk_X9_46 (m_X9_isLand _ _ _) rfl rfl (Nat.le_of_ble_eq_true rfl) dX9_promises_1 (fun h1_20 => ?_) (fun h1_20 => ?_)
  · skip
    have b22x : zB a1 0 5 := h1_20
    refine z_if_eq (pc := 4) 15 C dX9_promises_4 (by decide) (fun h => absurd h (by decide)) (fun _ => ?_)
    refine z_aload_n (pc := 7) C dX9_promises_7 rfl ?_
    refine z_iload_n (pc := 8) C dX9_promises_8 rfl ?_
    refine z_callVb (pc := 9) C zk_X9_179 (m_X9_isDeed _ _ _) rfl rfl (by decide) rfl rfl (Nat.le_of_ble_eq_true rfl) dX9_promises_9 (fun h9_22 => ?_) (fun h9_22 => ?_)
    · skip
      have b24x : zB a2 0 7 := (zltc h9_22 (hI 1 0 6).2)
      refine z_if_ne (pc := 12) 17 C dX9_promises_12 (by decide) (fun _ => ?_) (fun h => absurd h (by decide))
      refine z_aload_n (pc := 17) C dX9_promises_17 rfl ?_
      refine z_getR (pc := 18) C zf_X9_10 rfl rfl (by decide) dX9_promises_18 ?_
      refine z_callV (pc := 21) C zk_X9_280 (w_X8_weighAll _ _  hI) rfl rfl (by decide) rfl rfl (Nat.le_of_ble_eq_true rfl) dX9_promises_21 (fun r25 g25 q25 => ?_)
      obtain ⟨rfl, hI25, hF25q⟩ := q25
      have hF25 := zFr.tr hF hF25q (by decide)
      simp only [Option.toList, List.cons_append, List.nil_append]
      refine z_bipush (pc := 24) (v := -4) C dX9_promises_24 (by decide) ?_
      refine z_istore_n (pc := 26) C dX9_promises_26 (by rw [hn]; decide) rfl ?_
      refine z_iconst (pc := 27) (v := 0) C dX9_promises_27 (by decide) ?_
      refine z_istore (pc := 28) C dX9_promises_28 (by rw [hn]; decide) rfl ?_
      exact J1 b22x b24x (-4) (zB.wk (a' := (-4)) (b' := 7) (zB.of (x := (-4)) (-4) (by decide)) (by decide) (by decide)) 0 (zB.wk (a' := 0) (b' := 12) (zB.of (x := 0) 0 (by decide)) (by decide) (by decide)) g25 hI25 hF25  (by have qc0 : ((-4) : Int32).toInt = (-4) := (by decide); have qc1 : (0 : Int32).toInt = 0 := (by decide); omega)
    · skip
      refine z_if_ne (pc := 12) 17 C dX9_promises_12 (by decide) (fun h => absurd (by decide) h) (fun _ => ?_)
      exact J0  f hI hF  (by omega)
  · skip
    refine z_if_eq (pc := 4) 15 C dX9_promises_4 (by decide) (fun _ => ?_) (fun h => absurd (by decide) h)
    exact J0  f hI hF  (by omega)

set_option maxRecDepth 100000 in
set_option maxHeartbeats 4000000 in
theorem w_X9_mended (d : Nat) (f : zM) (a1 : Int32) (b1 : zB a1 (-2147483648) 2147483647) (a2 : Int32) (b2 : zB a2 (-2147483648) 2147483647) (hI : zInv f) : ZM (d + 4) yX9_mended cX9_mended 3 (some .int) [zr 0 0, zi a1, zi a2] f (fun r g => (∃ v, r = some (zi v) ∧ zB v (-4) 999) ∧ zInv g ∧ zFr [(6, some 1), (6, some 4), (6, some 5), (6, some 6), (11, some 8), (11, some 9), (17, none)] f g) := by
  refine ZM.intro (by decide +kernel) (Nat.le_of_ble_eq_true rfl) ?_
  intro X C hr hn
  have hF : zFr [(6, some 1), (6, some 4), (6, some 5), (6, some 6), (11, some 8), (11, some 9), (17, none)] f f := zFr.rf _ _
  have J : ∀ t : Nat, (∀ g : zM, zInv g → zFr [(6, some 1), (6, some 4), (6, some 5), (6, some 6), (11, some 8), (11, some 9), (17, none)] f g → (0 : Int) < t → Z X 15 [some (zr 0 0), some (zi a1), some (zi a2)] [] g) := by
    intro t
    induction t with
    | zero =>
      intros; exfalso; omega
    | succ t ih =>
      have ih0 := ih
      intro g15_ hI15_ hF15_ hM15_
      refine z_iconst (pc := 15) (v := -1) C dX9_mended_15 (by decide) ?_
      exact z_iret (pc := 16) C hr dX9_mended_16 ⟨⟨_, rfl, (zB.wk (a' := (-4)) (b' := 999) (zB.of (x := (-1)) (-1) (by decide)) (by decide) (by decide))⟩, hI15_, hF15_⟩
  have J0 := J 12
  show Z X 0 [some (zr 0 0), some (zi a1), some (zi a2)] [] f
  refine z_iload_n (pc := 0) C dX9_mended_0 rfl ?_
  refine z_callSb (pc := 1) C zk_X9_46 (m_X9_isLand _ _ _) rfl rfl (Nat.le_of_ble_eq_true rfl) dX9_mended_1 (fun h1_0 => ?_) (fun h1_0 => ?_)
  · skip
    have b2x : zB a1 0 5 := h1_0
    refine z_if_eq (pc := 4) 15 C dX9_mended_4 (by decide) (fun h => absurd h (by decide)) (fun _ => ?_)
    refine z_aload_n (pc := 7) C dX9_mended_7 rfl ?_
    refine z_iload_n (pc := 8) C dX9_mended_8 rfl ?_
    refine z_callVb (pc := 9) C zk_X9_179 (m_X9_isDeed _ _ _) rfl rfl (by decide) rfl rfl (Nat.le_of_ble_eq_true rfl) dX9_mended_9 (fun h9_2 => ?_) (fun h9_2 => ?_)
    · skip
      have b4x : zB a2 0 7 := (zltc h9_2 (hI 1 0 6).2)
      refine z_if_ne (pc := 12) 17 C dX9_mended_12 (by decide) (fun _ => ?_) (fun h => absurd h (by decide))
      refine z_aload_n (pc := 17) C dX9_mended_17 rfl ?_
      refine z_getR (pc := 18) C zf_X9_10 rfl rfl (by decide) dX9_mended_18 ?_
      refine z_iload_n (pc := 21) C dX9_mended_21 rfl ?_
      refine z_callV (pc := 22) C zk_X9_321 (w_X8_weighAlone _ _ a2 b4x hI) rfl rfl (by decide) rfl rfl (Nat.le_of_ble_eq_true rfl) dX9_mended_22 (fun r5 g5 q5 => ?_)
      obtain ⟨rfl, hI5, hF5q⟩ := q5
      have hF5 := zFr.tr hF hF5q (by decide)
      simp only [Option.toList, List.cons_append, List.nil_append]
      refine z_aload_n (pc := 25) C dX9_mended_25 rfl ?_
      refine z_getR (pc := 26) C zf_X9_24 rfl rfl (by decide) dX9_mended_26 ?_
      refine z_iload_n (pc := 29) C dX9_mended_29 rfl ?_
      refine z_iload_n (pc := 30) C dX9_mended_30 rfl ?_
      refine z_callV (pc := 31) C zk_X9_324 (w_X5_fewestBars _ _ a1 b2x a2 b4x hI5) rfl rfl (by decide) rfl rfl (Nat.le_of_ble_eq_true rfl) dX9_mended_31 (fun r6 g6 q6 => ?_)
      obtain ⟨⟨v6, rfl, b6x⟩, hI6, hF6q⟩ := q6
      have hF6 := zFr.tr hF5 hF6q (by decide)
      simp only [Option.toList, List.cons_append, List.nil_append]
      exact z_iret (pc := 34) C hr dX9_mended_34 ⟨⟨_, rfl, b6x⟩, hI6, hF6⟩
    · skip
      refine z_if_ne (pc := 12) 17 C dX9_mended_12 (by decide) (fun h => absurd (by decide) h) (fun _ => ?_)
      exact J0  f hI hF  (by omega)
  · skip
    refine z_if_eq (pc := 4) 15 C dX9_mended_4 (by decide) (fun _ => ?_) (fun h => absurd (by decide) h)
    exact J0  f hI hF  (by omega)

set_option maxRecDepth 100000 in
set_option maxHeartbeats 4000000 in
theorem w_X9_part (d : Nat) (f : zM) (a1 : Int32) (b1 : zB a1 (-2147483648) 2147483647) (a2 : Int32) (b2 : zB a2 (-2147483648) 2147483647) (a3 : Int32) (b3 : zB a3 (-2147483648) 2147483647) (hI : zInv f) : ZM (d + 2) yX9_part cX9_part 8 (some .int) [zr 0 0, zi a1, zi a2, zi a3] f (fun r g => (∃ v, r = some (zi v) ∧ zB v (-2147483648) 2147483647) ∧ zInv g ∧ zFr [] f g) := by
  refine ZM.intro (by decide +kernel) (Nat.le_of_ble_eq_true rfl) ?_
  intro X C hr hn
  have hF : zFr [] f f := zFr.rf _ _
  have J : ∀ t : Nat, (∀ g : zM, zInv g → zFr [] f g → (387 : Int) < t → Z X 28 [some (zr 0 0), some (zi a1), some (zi a2), some (zi a3), none, none, none, none] [] g) ∧ (zB a1 0 5 → zB a2 0 5 → zB a3 0 1 → ∀ a41_4 : Int32, zB a41_4 (-4) 63 → ∀ a41_5 : Int32, zB a41_5 (-2147483648) 2147483647 → ∀ a41_6 : Int32, zB a41_6 0 63 → ∀ g : zM, zInv g → zFr [] f g → (2 + 6 * (a41_6.toInt - 0) : Int) < t → Z X 41 [some (zr 0 0), some (zi a1), some (zi a2), some (zi a3), some (zi a41_4), some (zi a41_5), some (zi a41_6), none] [] g) ∧ (zB a1 0 5 → zB a2 0 5 → zB a3 0 1 → ∀ a80_4 : Int32, zB a80_4 (-4) 63 → ∀ a80_5 : Int32, zB a80_5 (-2147483648) 2147483647 → ∀ a80_6 : Int32, zB a80_6 1 63 → ∀ a80_7 : Int32, zB a80_7 0 63 → ∀ g : zM, zInv g → zFr [] f g → (1 + 6 * (a80_6.toInt - 0) : Int) < t → Z X 80 [some (zr 0 0), some (zi a1), some (zi a2), some (zi a3), some (zi a80_4), some (zi a80_5), some (zi a80_6), some (zi a80_7)] [] g) ∧ (zB a1 0 5 → zB a2 0 5 → zB a3 0 1 → ∀ a97_4 : Int32, zB a97_4 (-4) 63 → ∀ a97_5 : Int32, zB a97_5 (-2147483648) 2147483647 → ∀ a97_6 : Int32, zB a97_6 0 0 → ∀ a97_s0 : Int32, zB a97_s0 (-2147483648) 2147483647 → ∀ g : zM, zInv g → zFr [] f g → (0 : Int) < t → Z X 97 [some (zr 0 0), some (zi a1), some (zi a2), some (zi a3), some (zi a97_4), some (zi a97_5), some (zi a97_6), none] [zi a97_s0] g) := by
    intro t
    induction t with
    | zero =>
      refine ⟨?_, ?_, ?_, ?_⟩ <;> (intros; exfalso; omega)
    | succ t ih =>
      obtain ⟨ih0, ih1, ih2, ih3⟩ := ih
      refine ⟨?_, ?_, ?_, ?_⟩
      · skip
        intro g28_ hI28_ hF28_ hM28_
        refine z_iconst (pc := 28) (v := -1) C dX9_part_28 (by decide) ?_
        exact z_iret (pc := 29) C hr dX9_part_29 ⟨⟨_, rfl, (zB.wk (a' := (-2147483648)) (b' := 2147483647) (zB.of (x := (-1)) (-1) (by decide)) (by decide) (by decide))⟩, hI28_, hF28_⟩
      · skip
        intro b41_1 b41_2 b41_3 a41_4 b41_4 a41_5 b41_5 a41_6 b41_6 g41_ hI41_ hF41_ hM41_
        refine z_iload (pc := 41) C dX9_part_41 rfl ?_
        refine z_iconst (pc := 43) (v := 1) C dX9_part_43 (by decide) ?_
        refine z_icmp_lt (pc := 44) 86 C dX9_part_44 (by decide) (fun h44_0 => ?_) (fun h44_0 => ?_)
        · skip
          have b2x : zB a41_6 0 0 := by have q1 := b41_6; have q2 := (zB.of (x := 1) 1 (by decide)); simp only [z32lt, z32le, z32eq, Int32.reduceToInt, Int32.toInt_zero] at h44_0; constructor <;> omega
          refine z_iload_n (pc := 86) C dX9_part_86 rfl ?_
          refine z_if_ne (pc := 87) 95 C dX9_part_87 (by decide) (fun h87_2 => ?_) (fun h87_2 => ?_)
          · skip
            have b4x : zB a3 1 1 := by have q1 := b41_3; have q2 := (zB.of (x := 0) 0 (by decide)); simp only [z32lt, z32le, z32eq, Int32.reduceToInt, Int32.toInt_zero] at h87_2; constructor <;> omega
            refine z_iload (pc := 95) C dX9_part_95 rfl ?_
            exact ih3 b41_1 b41_2 (zB.wk (a' := 0) (b' := 1) b4x (by decide) (by decide)) a41_4 b41_4 a41_5 b41_5 a41_6 b2x a41_5 b41_5 g41_ hI41_ hF41_  (by omega)
          · skip
            have b5x : zB a3 0 0 := by have q1 := b41_3; have q2 := (zB.of (x := 0) 0 (by decide)); simp only [z32lt, z32le, z32eq, Int32.reduceToInt, Int32.toInt_zero] at h87_2; constructor <;> omega
            refine z_iload (pc := 90) C dX9_part_90 rfl ?_
            refine z_goto (pc := 92) 97 C dX9_part_92 (by decide) ?_
            exact ih3 b41_1 b41_2 (zB.wk (a' := 0) (b' := 1) b5x (by decide) (by decide)) a41_4 b41_4 a41_5 b41_5 a41_6 b2x a41_4 (zB.wk (a' := (-2147483648)) (b' := 2147483647) b41_4 (by decide) (by decide)) g41_ hI41_ hF41_  (by omega)
        · skip
          have b6x : zB a41_6 1 63 := by have q1 := b41_6; have q2 := (zB.of (x := 1) 1 (by decide)); simp only [z32lt, z32le, z32eq, Int32.reduceToInt, Int32.toInt_zero] at h44_0; constructor <;> omega
          refine z_aload_n (pc := 47) C dX9_part_47 rfl ?_
          refine z_getR (pc := 48) C zf_X9_10 rfl rfl (by decide) dX9_part_48 ?_
          refine z_iload (pc := 51) C dX9_part_51 rfl ?_
          refine z_callV (pc := 53) C zk_X9_327 (w_X8_landsWhereCrime _ _ a41_6 (zB.wk (a' := 0) (b' := 63) b6x (by decide) (by decide)) hI41_) rfl rfl (by decide) rfl rfl (Nat.le_of_ble_eq_true rfl) dX9_part_53 (fun r7 g7 q7 => ?_)
          obtain ⟨⟨v7, rfl, b7x⟩, hI7, hF7q⟩ := q7
          obtain rfl := zFr_nil hF7q
          simp only [Option.toList, List.cons_append, List.nil_append]
          refine z_istore (pc := 56) C dX9_part_56 (by rw [hn]; decide) rfl ?_
          refine z_iload (pc := 58) C dX9_part_58 rfl ?_
          refine z_iload_n (pc := 60) C dX9_part_60 rfl ?_
          refine z_ishr (pc := 61) C dX9_part_61 ?_
          refine w_gb (-2147483648) 2147483647 (zB_any _) (fun v8 b8x => ?_)
          refine z_iconst (pc := 62) (v := 1) C dX9_part_62 (by decide) ?_
          refine z_iand (pc := 63) C dX9_part_63 ?_
          refine w_gb 0 1 (zand_b b8x (zB.of (x := 1) 1 (by decide)) (by decide)) (fun v9 b9x => ?_)
          refine z_iload (pc := 64) C dX9_part_64 rfl ?_
          refine z_iload_n (pc := 66) C dX9_part_66 rfl ?_
          refine z_ishr (pc := 67) C dX9_part_67 ?_
          refine w_gb (-2147483648) 2147483647 (zB_any _) (fun v10 b10x => ?_)
          refine z_iconst (pc := 68) (v := 1) C dX9_part_68 (by decide) ?_
          refine z_iand (pc := 69) C dX9_part_69 ?_
          refine w_gb 0 1 (zand_b b10x (zB.of (x := 1) 1 (by decide)) (by decide)) (fun v11 b11x => ?_)
          refine z_icmp_eq (pc := 70) 80 C dX9_part_70 (by decide) (fun h70_11 => ?_) (fun h70_11 => ?_)
          · skip
            exact ih2 b41_1 b41_2 b41_3 a41_4 b41_4 a41_5 b41_5 a41_6 b6x v7 b7x g41_ hI41_ hF41_  (by omega)
          · skip
            refine z_iload (pc := 73) C dX9_part_73 rfl ?_
            refine z_istore (pc := 75) C dX9_part_75 (by rw [hn]; decide) rfl ?_
            refine z_iinc (pc := 77) (v := 1) C dX9_part_77 rfl (by decide) (by rw [hn]; decide) rfl ?_
            obtain ⟨v13, hv13⟩ : ∃ v : Int32, v = a41_5 + 1 := ⟨_, rfl⟩
            rw [← hv13]
            exact ih2 b41_1 b41_2 b41_3 a41_6 (zB.wk (a' := (-4)) (b' := 63) b6x (by decide) (by decide)) v13 (zB_any v13) a41_6 b6x v7 b7x g41_ hI41_ hF41_  (by omega)
      · skip
        intro b80_1 b80_2 b80_3 a80_4 b80_4 a80_5 b80_5 a80_6 b80_6 a80_7 b80_7 g80_ hI80_ hF80_ hM80_
        refine z_iinc (pc := 80) (v := -1) C dX9_part_80 rfl (by decide) (by rw [hn]; decide) rfl ?_
        obtain ⟨v14, hv14, e14⟩ : ∃ v : Int32, v = a80_6 + (-1) ∧ v.toInt = a80_6.toInt + (-1) := ⟨_, rfl, zadd_eb b80_6 (zB.of (x := (-1)) (-1) (by decide)) (by decide) (by decide)⟩
        rw [← hv14]
        have b14x : zB v14 0 62 := by have q9 := b80_6; constructor <;> omega
        refine z_goto (pc := 83) 41 C dX9_part_83 (by decide) ?_
        refine w_mask [7] ?_
        exact ih1 b80_1 b80_2 b80_3 a80_4 b80_4 a80_5 b80_5 v14 (zB.wk (a' := 0) (b' := 63) b14x (by decide) (by decide)) g80_ hI80_ hF80_  (by omega)
      · skip
        intro b97_1 b97_2 b97_3 a97_4 b97_4 a97_5 b97_5 a97_6 b97_6 a97_s0 b97_s0 g97_ hI97_ hF97_ hM97_
        exact z_iret (pc := 97) C hr dX9_part_97 ⟨⟨_, rfl, b97_s0⟩, hI97_, hF97_⟩
  obtain ⟨J0, J1, J2, J3⟩ := J 399
  show Z X 0 [some (zr 0 0), some (zi a1), some (zi a2), some (zi a3), none, none, none, none] [] f
  refine z_iload_n (pc := 0) C dX9_part_0 rfl ?_
  refine z_callSb (pc := 1) C zk_X9_46 (m_X9_isLand _ _ _) rfl rfl (Nat.le_of_ble_eq_true rfl) dX9_part_1 (fun h1_14 => ?_) (fun h1_14 => ?_)
  · skip
    have b16x : zB a1 0 5 := h1_14
    refine z_if_eq (pc := 4) 28 C dX9_part_4 (by decide) (fun h => absurd h (by decide)) (fun _ => ?_)
    refine z_iload_n (pc := 7) C dX9_part_7 rfl ?_
    refine z_callSb (pc := 8) C zk_X9_46 (m_X9_isLand _ _ _) rfl rfl (Nat.le_of_ble_eq_true rfl) dX9_part_8 (fun h8_16 => ?_) (fun h8_16 => ?_)
    · skip
      have b18x : zB a2 0 5 := h8_16
      refine z_if_eq (pc := 11) 28 C dX9_part_11 (by decide) (fun h => absurd h (by decide)) (fun _ => ?_)
      refine z_iload_n (pc := 14) C dX9_part_14 rfl ?_
      refine z_iload_n (pc := 15) C dX9_part_15 rfl ?_
      refine z_icmp_eq (pc := 16) 28 C dX9_part_16 (by decide) (fun h16_18 => ?_) (fun h16_18 => ?_)
      · skip
        exact J0  f hI hF  (by omega)
      · skip
        refine z_iload_n (pc := 19) C dX9_part_19 rfl ?_
        refine z_if_lt (pc := 20) 28 C dX9_part_20 (by decide) (fun h20_19 => ?_) (fun h20_19 => ?_)
        · skip
          have b21x : zB a3 (-2147483648) (-1) := by have q1 := b3; have q2 := (zB.of (x := 0) 0 (by decide)); simp only [z32lt, z32le, z32eq, Int32.reduceToInt, Int32.toInt_zero] at h20_19; constructor <;> omega
          exact J0  f hI hF  (by omega)
        · skip
          have b22x : zB a3 0 2147483647 := by have q1 := b3; have q2 := (zB.of (x := 0) 0 (by decide)); simp only [z32lt, z32le, z32eq, Int32.reduceToInt, Int32.toInt_zero] at h20_19; constructor <;> omega
          refine z_iload_n (pc := 23) C dX9_part_23 rfl ?_
          refine z_iconst (pc := 24) (v := 1) C dX9_part_24 (by decide) ?_
          refine z_icmp_le (pc := 25) 30 C dX9_part_25 (by decide) (fun h25_22 => ?_) (fun h25_22 => ?_)
          · skip
            have b24x : zB a3 0 1 := by have q1 := b22x; have q2 := (zB.of (x := 1) 1 (by decide)); simp only [z32lt, z32le, z32eq, Int32.reduceToInt, Int32.toInt_zero] at h25_22; constructor <;> omega
            refine z_bipush (pc := 30) (v := -4) C dX9_part_30 (by decide) ?_
            refine z_istore (pc := 32) C dX9_part_32 (by rw [hn]; decide) rfl ?_
            refine z_iconst (pc := 34) (v := 0) C dX9_part_34 (by decide) ?_
            refine z_istore (pc := 35) C dX9_part_35 (by rw [hn]; decide) rfl ?_
            refine z_bipush (pc := 37) (v := 63) C dX9_part_37 (by decide) ?_
            refine z_istore (pc := 39) C dX9_part_39 (by rw [hn]; decide) rfl ?_
            exact J1 b16x b18x b24x (-4) (zB.wk (a' := (-4)) (b' := 63) (zB.of (x := (-4)) (-4) (by decide)) (by decide) (by decide)) 0 (zB.wk (a' := (-2147483648)) (b' := 2147483647) (zB.of (x := 0) 0 (by decide)) (by decide) (by decide)) 63 (zB.wk (a' := 0) (b' := 63) (zB.of (x := 63) 63 (by decide)) (by decide) (by decide)) f hI hF  (by have qc0 : ((-4) : Int32).toInt = (-4) := (by decide); have qc1 : (0 : Int32).toInt = 0 := (by decide); have qc2 : (63 : Int32).toInt = 63 := (by decide); omega)
          · skip
            have b25x : zB a3 2 2147483647 := by have q1 := b22x; have q2 := (zB.of (x := 1) 1 (by decide)); simp only [z32lt, z32le, z32eq, Int32.reduceToInt, Int32.toInt_zero] at h25_22; constructor <;> omega
            exact J0  f hI hF  (by omega)
    · skip
      refine z_if_eq (pc := 11) 28 C dX9_part_11 (by decide) (fun _ => ?_) (fun h => absurd (by decide) h)
      exact J0  f hI hF  (by omega)
  · skip
    refine z_if_eq (pc := 4) 28 C dX9_part_4 (by decide) (fun _ => ?_) (fun h => absurd (by decide) h)
    exact J0  f hI hF  (by omega)

set_option maxRecDepth 100000 in
set_option maxHeartbeats 4000000 in
theorem w_X9_image (d : Nat) (f : zM)  (hI : zInv f) : ZM (d + 4) yX9_image cX9_image 1 (some .int) [zr 0 0] f (fun r g => (∃ v, r = some (zi v) ∧ zB v 1 1) ∧ zInv g ∧ zFr [(0, some 5), (1, some 5), (1, some 6), (1, some 7), (1, some 8), (6, some 0), (6, some 1), (6, some 2), (6, some 3), (6, some 4), (6, some 5), (6, some 6), (7, some 0), (7, some 1), (7, some 2), (7, some 3), (7, some 4), (7, some 5), (8, some 0), (8, some 1), (8, some 2), (8, some 3), (8, some 4), (8, some 5), (8, some 6), (8, some 7), (9, none), (10, none), (11, some 0), (11, some 1), (11, some 2), (11, some 3), (11, some 4), (11, some 5), (11, some 6), (11, some 7), (12, some 0), (12, some 1), (12, some 2)] f g) := by
  refine ZM.intro (by decide +kernel) (Nat.le_of_ble_eq_true rfl) ?_
  intro X C hr hn
  have hF : zFr [(0, some 5), (1, some 5), (1, some 6), (1, some 7), (1, some 8), (6, some 0), (6, some 1), (6, some 2), (6, some 3), (6, some 4), (6, some 5), (6, some 6), (7, some 0), (7, some 1), (7, some 2), (7, some 3), (7, some 4), (7, some 5), (8, some 0), (8, some 1), (8, some 2), (8, some 3), (8, some 4), (8, some 5), (8, some 6), (8, some 7), (9, none), (10, none), (11, some 0), (11, some 1), (11, some 2), (11, some 3), (11, some 4), (11, some 5), (11, some 6), (11, some 7), (12, some 0), (12, some 1), (12, some 2)] f f := zFr.rf _ _
  show Z X 0 [some (zr 0 0)] [] f
  refine z_aload_n (pc := 0) C dX9_image_0 rfl ?_
  refine z_getR (pc := 1) C zf_X9_16 rfl rfl (by decide) dX9_image_1 ?_
  refine z_aload_n (pc := 4) C dX9_image_4 rfl ?_
  refine z_getR (pc := 5) C zf_X9_10 rfl rfl (by decide) dX9_image_5 ?_
  refine z_callV (pc := 8) C zk_X9_330 (w_X8_copy_1 _ _  hI) rfl rfl (by decide) rfl rfl (Nat.le_of_ble_eq_true rfl) dX9_image_8 (fun r1 g1 q1 => ?_)
  obtain ⟨rfl, hI1, hF1q⟩ := q1
  have hF1 := zFr.tr hF hF1q (by decide)
  simp only [Option.toList, List.cons_append, List.nil_append]
  refine z_aload_n (pc := 11) C dX9_image_11 rfl ?_
  refine z_iconst (pc := 12) (v := 1) C dX9_image_12 (by decide) ?_
  refine z_putZ (pc := 13) C zf_X9_42 zp_9_5 (z01 (zB.wk (a' := 0) (b' := 1) (zB.of (x := 1) 1 (by decide)) (by decide) (by decide))) rfl rfl (by decide) dX9_image_13 ?_
  refine w_mem hI1 hF1 (zB.wk (a' := 0) (b' := 1) (zB.of (x := 1) 1 (by decide)) (by decide) (by decide)) rfl (fun g2 hI2 hF2 => ?_)
  refine z_iconst (pc := 16) (v := 1) C dX9_image_16 (by decide) ?_
  exact z_iret (pc := 17) C hr dX9_image_17 ⟨⟨_, rfl, (zB.of (x := 1) 1 (by decide))⟩, hI2, hF2⟩

set_option maxRecDepth 100000 in
set_option maxHeartbeats 4000000 in
theorem w_X9_restore (d : Nat) (f : zM)  (hI : zInv f) : ZM (d + 4) yX9_restore cX9_restore 1 (some .int) [zr 0 0] f (fun r g => (∃ v, r = some (zi v) ∧ zB v (-4) 1) ∧ zInv g ∧ zFr [(1, some 5), (1, some 6), (1, some 7), (1, some 8), (6, some 0), (6, some 1), (6, some 2), (6, some 3), (6, some 4), (6, some 5), (6, some 6), (7, some 0), (7, some 1), (7, some 2), (7, some 3), (7, some 4), (7, some 5), (8, some 0), (8, some 1), (8, some 2), (8, some 3), (8, some 4), (8, some 5), (8, some 6), (8, some 7), (9, none), (10, none), (11, some 0), (11, some 1), (11, some 2), (11, some 3), (11, some 4), (11, some 5), (11, some 6), (11, some 7), (12, some 0), (12, some 1), (12, some 2)] f g) := by
  refine ZM.intro (by decide +kernel) (Nat.le_of_ble_eq_true rfl) ?_
  intro X C hr hn
  have hF : zFr [(1, some 5), (1, some 6), (1, some 7), (1, some 8), (6, some 0), (6, some 1), (6, some 2), (6, some 3), (6, some 4), (6, some 5), (6, some 6), (7, some 0), (7, some 1), (7, some 2), (7, some 3), (7, some 4), (7, some 5), (8, some 0), (8, some 1), (8, some 2), (8, some 3), (8, some 4), (8, some 5), (8, some 6), (8, some 7), (9, none), (10, none), (11, some 0), (11, some 1), (11, some 2), (11, some 3), (11, some 4), (11, some 5), (11, some 6), (11, some 7), (12, some 0), (12, some 1), (12, some 2)] f f := zFr.rf _ _
  show Z X 0 [some (zr 0 0)] [] f
  refine z_aload_n (pc := 0) C dX9_restore_0 rfl ?_
  refine z_getI (pc := 1) C zf_X9_42 rfl rfl (by decide) dX9_restore_1 ?_
  refine w_gb 0 1 (hI 0 _ 5) (fun v1 b1x => ?_)
  refine z_if_ne (pc := 4) 10 C dX9_restore_4 (by decide) (fun h4_1 => ?_) (fun h4_1 => ?_)
  · skip
    have b3x : zB v1 1 1 := by have q1 := b1x; have q2 := (zB.of (x := 0) 0 (by decide)); simp only [z32lt, z32le, z32eq, Int32.reduceToInt, Int32.toInt_zero] at h4_1; constructor <;> omega
    refine z_aload_n (pc := 10) C dX9_restore_10 rfl ?_
    refine z_getR (pc := 11) C zf_X9_10 rfl rfl (by decide) dX9_restore_11 ?_
    refine z_aload_n (pc := 14) C dX9_restore_14 rfl ?_
    refine z_getR (pc := 15) C zf_X9_16 rfl rfl (by decide) dX9_restore_15 ?_
    refine z_callV (pc := 18) C zk_X9_330 (w_X8_copy _ _  hI) rfl rfl (by decide) rfl rfl (Nat.le_of_ble_eq_true rfl) dX9_restore_18 (fun r4 g4 q4 => ?_)
    obtain ⟨rfl, hI4, hF4q⟩ := q4
    have hF4 := zFr.tr hF hF4q (by decide)
    simp only [Option.toList, List.cons_append, List.nil_append]
    refine z_iconst (pc := 21) (v := 1) C dX9_restore_21 (by decide) ?_
    exact z_iret (pc := 22) C hr dX9_restore_22 ⟨⟨_, rfl, (zB.wk (a' := (-4)) (b' := 1) (zB.of (x := 1) 1 (by decide)) (by decide) (by decide))⟩, hI4, hF4⟩
  · skip
    have b5x : zB v1 0 0 := by have q1 := b1x; have q2 := (zB.of (x := 0) 0 (by decide)); simp only [z32lt, z32le, z32eq, Int32.reduceToInt, Int32.toInt_zero] at h4_1; constructor <;> omega
    refine z_bipush (pc := 7) (v := -4) C dX9_restore_7 (by decide) ?_
    exact z_iret (pc := 9) C hr dX9_restore_9 ⟨⟨_, rfl, (zB.wk (a' := (-4)) (b' := 1) (zB.of (x := (-4)) (-4) (by decide)) (by decide) (by decide))⟩, hI, hF⟩

set_option maxRecDepth 100000 in
set_option maxHeartbeats 4000000 in
theorem w_X9_sheet (d : Nat) (f : zM) (a1 : Int32) (b1 : zB a1 (-2147483648) 2147483647) (a2 : Int32) (b2 : zB a2 (-2147483648) 2147483647) (a3 : Int32) (b3 : zB a3 (-2147483648) 2147483647) (hI : zInv f) : ZM (d + 2) yX9_sheet cX9_sheet 4 (some .int) [zr 0 0, zi a1, zi a2, zi a3] f (fun r g => (∃ v, r = some (zi v) ∧ zB v (-14) 16) ∧ zInv g ∧ zFr [(23, some 1), (23, some 2), (24, none)] f g) := by
  refine ZM.intro (by decide +kernel) (Nat.le_of_ble_eq_true rfl) ?_
  intro X C hr hn
  have hF : zFr [(23, some 1), (23, some 2), (24, none)] f f := zFr.rf _ _
  have J : ∀ t : Nat, (∀ g : zM, zInv g → zFr [(23, some 1), (23, some 2), (24, none)] f g → (0 : Int) < t → Z X 20 [some (zr 0 0), some (zi a1), some (zi a2), some (zi a3)] [] g) := by
    intro t
    induction t with
    | zero =>
      intros; exfalso; omega
    | succ t ih =>
      have ih0 := ih
      intro g20_ hI20_ hF20_ hM20_
      refine z_iconst (pc := 20) (v := -1) C dX9_sheet_20 (by decide) ?_
      exact z_iret (pc := 21) C hr dX9_sheet_21 ⟨⟨_, rfl, (zB.wk (a' := (-14)) (b' := 16) (zB.of (x := (-1)) (-1) (by decide)) (by decide) (by decide))⟩, hI20_, hF20_⟩
  have J0 := J 12
  show Z X 0 [some (zr 0 0), some (zi a1), some (zi a2), some (zi a3)] [] f
  refine z_iload_n (pc := 0) C dX9_sheet_0 rfl ?_
  refine z_callSb (pc := 1) C zk_X9_195 (m_X9_isSheet _ _ _) rfl rfl (Nat.le_of_ble_eq_true rfl) dX9_sheet_1 (fun h1_0 => ?_) (fun h1_0 => ?_)
  · skip
    have b2x : zB a1 0 3 := h1_0
    refine z_if_eq (pc := 4) 20 C dX9_sheet_4 (by decide) (fun h => absurd h (by decide)) (fun _ => ?_)
    refine z_iload_n (pc := 7) C dX9_sheet_7 rfl ?_
    refine z_callSb (pc := 8) C zk_X9_198 (m_X9_isLane _ _ _) rfl rfl (Nat.le_of_ble_eq_true rfl) dX9_sheet_8 (fun h8_2 => ?_) (fun h8_2 => ?_)
    · skip
      have b4x : zB a2 0 2 := h8_2
      refine z_if_eq (pc := 11) 20 C dX9_sheet_11 (by decide) (fun h => absurd h (by decide)) (fun _ => ?_)
      refine z_iload_n (pc := 14) C dX9_sheet_14 rfl ?_
      refine z_bipush (pc := 15) (v := 16) C dX9_sheet_15 (by decide) ?_
      refine z_icmp_le (pc := 17) 22 C dX9_sheet_17 (by decide) (fun h17_4 => ?_) (fun h17_4 => ?_)
      · skip
        have b6x : zB a3 (-2147483648) 16 := by have q1 := b3; have q2 := (zB.of (x := 16) 16 (by decide)); simp only [z32lt, z32le, z32eq, Int32.reduceToInt, Int32.toInt_zero] at h17_4; constructor <;> omega
        refine z_iload_n (pc := 22) C dX9_sheet_22 rfl ?_
        refine z_if_ge (pc := 23) 29 C dX9_sheet_23 (by decide) (fun h23_6 => ?_) (fun h23_6 => ?_)
        · skip
          have b8x : zB a3 0 16 := by have q1 := b6x; have q2 := (zB.of (x := 0) 0 (by decide)); simp only [z32lt, z32le, z32eq, Int32.reduceToInt, Int32.toInt_zero] at h23_6; constructor <;> omega
          refine z_aload_n (pc := 29) C dX9_sheet_29 rfl ?_
          refine z_getR (pc := 30) C zf_X9_37 rfl rfl (by decide) dX9_sheet_30 ?_
          refine z_iload_n (pc := 33) C dX9_sheet_33 rfl ?_
          refine z_aald (pc := 34) C rfl ⟨rfl, by decide⟩ (by decide) (zIx b2x (by decide) (by decide)) dX9_sheet_34 ?_
          refine w_gr (by have hq := zN b2x (by decide); show a1.toNatClampNeg < 4; omega) (fun m9 h9x => ?_)
          refine z_iload_n (pc := 35) C dX9_sheet_35 rfl ?_
          refine z_iload_n (pc := 36) C dX9_sheet_36 rfl ?_
          refine z_callV (pc := 37) C zk_X9_332 (w_X6_begin _ _ m9 h9x a2 b4x a3 b8x hI) rfl rfl h9x rfl rfl (Nat.le_of_ble_eq_true rfl) dX9_sheet_37 (fun r10 g10 q10 => ?_)
          obtain ⟨rfl, hI10, hF10q⟩ := q10
          have hF10 := zFr.tr hF hF10q (by decide)
          simp only [Option.toList, List.cons_append, List.nil_append]
          refine z_iload_n (pc := 40) C dX9_sheet_40 rfl ?_
          exact z_iret (pc := 41) C hr dX9_sheet_41 ⟨⟨_, rfl, (zB.wk (a' := (-14)) (b' := 16) b8x (by decide) (by decide))⟩, hI10, hF10⟩
        · skip
          have b11x : zB a3 (-2147483648) (-1) := by have q1 := b6x; have q2 := (zB.of (x := 0) 0 (by decide)); simp only [z32lt, z32le, z32eq, Int32.reduceToInt, Int32.toInt_zero] at h23_6; constructor <;> omega
          refine z_bipush (pc := 26) (v := -14) C dX9_sheet_26 (by decide) ?_
          exact z_iret (pc := 28) C hr dX9_sheet_28 ⟨⟨_, rfl, (zB.wk (a' := (-14)) (b' := 16) (zB.of (x := (-14)) (-14) (by decide)) (by decide) (by decide))⟩, hI, hF⟩
      · skip
        have b12x : zB a3 17 2147483647 := by have q1 := b3; have q2 := (zB.of (x := 16) 16 (by decide)); simp only [z32lt, z32le, z32eq, Int32.reduceToInt, Int32.toInt_zero] at h17_4; constructor <;> omega
        exact J0  f hI hF  (by omega)
    · skip
      refine z_if_eq (pc := 11) 20 C dX9_sheet_11 (by decide) (fun _ => ?_) (fun h => absurd (by decide) h)
      exact J0  f hI hF  (by omega)
  · skip
    refine z_if_eq (pc := 4) 20 C dX9_sheet_4 (by decide) (fun _ => ?_) (fun h => absurd (by decide) h)
    exact J0  f hI hF  (by omega)

set_option maxRecDepth 100000 in
set_option maxHeartbeats 4000000 in
theorem w_X9_drop (d : Nat) (f : zM) (a1 : Int32) (b1 : zB a1 (-2147483648) 2147483647) (hI : zInv f) : ZM (d + 1) yX9_drop cX9_drop 3 (some .int) [zr 0 0, zi a1] f (fun r g => (∃ v, r = some (zi v) ∧ zB v (-11) 16) ∧ zInv g ∧ zFr [(23, some 1)] f g) := by
  refine ZM.intro (by decide +kernel) (Nat.le_of_ble_eq_true rfl) ?_
  intro X C hr hn
  have hF : zFr [(23, some 1)] f f := zFr.rf _ _
  show Z X 0 [some (zr 0 0), some (zi a1), none] [] f
  refine z_iload_n (pc := 0) C dX9_drop_0 rfl ?_
  refine z_callSb (pc := 1) C zk_X9_195 (m_X9_isSheet _ _ _) rfl rfl (Nat.le_of_ble_eq_true rfl) dX9_drop_1 (fun h1_0 => ?_) (fun h1_0 => ?_)
  · skip
    have b2x : zB a1 0 3 := h1_0
    refine z_if_ne (pc := 4) 9 C dX9_drop_4 (by decide) (fun _ => ?_) (fun h => absurd h (by decide))
    refine z_aload_n (pc := 9) C dX9_drop_9 rfl ?_
    refine z_getR (pc := 10) C zf_X9_37 rfl rfl (by decide) dX9_drop_10 ?_
    refine z_iload_n (pc := 13) C dX9_drop_13 rfl ?_
    refine z_aald (pc := 14) C rfl ⟨rfl, by decide⟩ (by decide) (zIx b2x (by decide) (by decide)) dX9_drop_14 ?_
    refine w_gr (by have hq := zN b2x (by decide); show a1.toNatClampNeg < 4; omega) (fun m3 h3x => ?_)
    refine z_astore_n (pc := 15) C dX9_drop_15 (by rw [hn]; decide) rfl ?_
    refine z_aload_n (pc := 16) C dX9_drop_16 rfl ?_
    refine z_getI (pc := 17) C zf_X9_336 rfl rfl h3x dX9_drop_17 ?_
    refine w_gb (-1) 2 (hI 23 _ 1) (fun v4 b4x => ?_)
    refine z_iconst (pc := 20) (v := -1) C dX9_drop_20 (by decide) ?_
    refine z_icmp_ne (pc := 21) 27 C dX9_drop_21 (by decide) (fun h21_4 => ?_) (fun h21_4 => ?_)
    · skip
      have b6x : zB v4 0 2 := by have q1 := b4x; have q2 := (zB.of (x := (-1)) (-1) (by decide)); simp only [z32lt, z32le, z32eq, Int32.reduceToInt, Int32.toInt_zero] at h21_4; constructor <;> omega
      refine z_aload_n (pc := 27) C dX9_drop_27 rfl ?_
      refine z_iconst (pc := 28) (v := -1) C dX9_drop_28 (by decide) ?_
      refine z_putI (pc := 29) C zf_X9_336 zp_6_1 rfl rfl h3x dX9_drop_29 ?_
      refine w_mem hI hF (zB.wk (a' := (-1)) (b' := 2) (zB.of (x := (-1)) (-1) (by decide)) (by decide) (by decide)) rfl (fun g7 hI7 hF7 => ?_)
      refine z_aload_n (pc := 32) C dX9_drop_32 rfl ?_
      refine z_getI (pc := 33) C zf_X9_204 rfl rfl h3x dX9_drop_33 ?_
      refine w_gb 0 16 (hI7 23 _ 2) (fun v8 b8x => ?_)
      exact z_iret (pc := 36) C hr dX9_drop_36 ⟨⟨_, rfl, (zB.wk (a' := (-11)) (b' := 16) b8x (by decide) (by decide))⟩, hI7, hF7⟩
    · skip
      have b9x : zB v4 (-1) (-1) := by have q1 := b4x; have q2 := (zB.of (x := (-1)) (-1) (by decide)); simp only [z32lt, z32le, z32eq, Int32.reduceToInt, Int32.toInt_zero] at h21_4; constructor <;> omega
      refine z_bipush (pc := 24) (v := -11) C dX9_drop_24 (by decide) ?_
      exact z_iret (pc := 26) C hr dX9_drop_26 ⟨⟨_, rfl, (zB.wk (a' := (-11)) (b' := 16) (zB.of (x := (-11)) (-11) (by decide)) (by decide) (by decide))⟩, hI, hF⟩
  · skip
    refine z_if_ne (pc := 4) 9 C dX9_drop_4 (by decide) (fun h => absurd (by decide) h) (fun _ => ?_)
    refine z_iconst (pc := 7) (v := -1) C dX9_drop_7 (by decide) ?_
    exact z_iret (pc := 8) C hr dX9_drop_8 ⟨⟨_, rfl, (zB.wk (a' := (-11)) (b' := 16) (zB.of (x := (-1)) (-1) (by decide)) (by decide) (by decide))⟩, hI, hF⟩

set_option maxRecDepth 100000 in
set_option maxHeartbeats 4000000 in
theorem w_X9_item (d : Nat) (f : zM) (a1 : Int32) (b1 : zB a1 (-2147483648) 2147483647) (a2 : Int32) (b2 : zB a2 (-2147483648) 2147483647) (a3 : Int32) (b3 : zB a3 (-2147483648) 2147483647) (a4 : Int32) (b4 : zB a4 (-2147483648) 2147483647) (hI : zInv f) : ZM (d + 1) yX9_item cX9_item 7 (some .int) [zr 0 0, zi a1, zi a2, zi a3, zi a4] f (fun r g => (∃ v, r = some (zi v) ∧ zB v (-13) 1) ∧ zInv g ∧ zFr [(24, none)] f g) := by
  refine ZM.intro (by decide +kernel) (Nat.le_of_ble_eq_true rfl) ?_
  intro X C hr hn
  have hF : zFr [(24, none)] f f := zFr.rf _ _
  have J : ∀ t : Nat, (∀ g : zM, zInv g → zFr [(24, none)] f g → (1 : Int) < t → Z X 14 [some (zr 0 0), some (zi a1), some (zi a2), some (zi a3), some (zi a4), none, none] [] g) ∧ (zB a1 0 3 → zB a2 0 2 → ∀ m53_5 : Nat, m53_5 < zcnt 23 → ∀ a53_6 : Int32, zB a53_6 0 0 → ∀ g : zM, zInv g → zFr [(24, none)] f g → (0 : Int) < t → Z X 53 [some (zr 0 0), some (zi a1), some (zi a2), some (zi a3), some (zi a4), some (zr 23 m53_5), some (zi a53_6)] [] g) := by
    intro t
    induction t with
    | zero =>
      refine ⟨?_, ?_⟩ <;> (intros; exfalso; omega)
    | succ t ih =>
      obtain ⟨ih0, ih1⟩ := ih
      refine ⟨?_, ?_⟩
      · skip
        intro g14_ hI14_ hF14_ hM14_
        refine z_iconst (pc := 14) (v := -1) C dX9_item_14 (by decide) ?_
        exact z_iret (pc := 15) C hr dX9_item_15 ⟨⟨_, rfl, (zB.wk (a' := (-13)) (b' := 1) (zB.of (x := (-1)) (-1) (by decide)) (by decide) (by decide))⟩, hI14_, hF14_⟩
      · skip
        intro b53_1 b53_2 m53_5 h53_5 a53_6 b53_6 g53_ hI53_ hF53_ hM53_
        refine z_bipush (pc := 53) (v := -13) C dX9_item_53 (by decide) ?_
        exact z_iret (pc := 55) C hr dX9_item_55 ⟨⟨_, rfl, (zB.wk (a' := (-13)) (b' := 1) (zB.of (x := (-13)) (-13) (by decide)) (by decide) (by decide))⟩, hI53_, hF53_⟩
  obtain ⟨J0, J1⟩ := J 13
  show Z X 0 [some (zr 0 0), some (zi a1), some (zi a2), some (zi a3), some (zi a4), none, none] [] f
  refine z_iload_n (pc := 0) C dX9_item_0 rfl ?_
  refine z_callSb (pc := 1) C zk_X9_195 (m_X9_isSheet _ _ _) rfl rfl (Nat.le_of_ble_eq_true rfl) dX9_item_1 (fun h1_0 => ?_) (fun h1_0 => ?_)
  · skip
    have b2x : zB a1 0 3 := h1_0
    refine z_if_eq (pc := 4) 14 C dX9_item_4 (by decide) (fun h => absurd h (by decide)) (fun _ => ?_)
    refine z_iload_n (pc := 7) C dX9_item_7 rfl ?_
    refine z_callSb (pc := 8) C zk_X9_198 (m_X9_isLane _ _ _) rfl rfl (Nat.le_of_ble_eq_true rfl) dX9_item_8 (fun h8_2 => ?_) (fun h8_2 => ?_)
    · skip
      have b4x : zB a2 0 2 := h8_2
      refine z_if_ne (pc := 11) 16 C dX9_item_11 (by decide) (fun _ => ?_) (fun h => absurd h (by decide))
      refine z_aload_n (pc := 16) C dX9_item_16 rfl ?_
      refine z_getR (pc := 17) C zf_X9_37 rfl rfl (by decide) dX9_item_17 ?_
      refine z_iload_n (pc := 20) C dX9_item_20 rfl ?_
      refine z_aald (pc := 21) C rfl ⟨rfl, by decide⟩ (by decide) (zIx b2x (by decide) (by decide)) dX9_item_21 ?_
      refine w_gr (by have hq := zN b2x (by decide); show a1.toNatClampNeg < 4; omega) (fun m5 h5x => ?_)
      refine z_astore (pc := 22) C dX9_item_22 (by rw [hn]; decide) rfl ?_
      refine z_aload (pc := 24) C dX9_item_24 rfl ?_
      refine z_iload_n (pc := 26) C dX9_item_26 rfl ?_
      refine z_callV (pc := 27) C zk_X9_201 (w_X6_refuse _ _ m5 h5x a2 (zB.wk (a' := (-2147483648)) (b' := 2147483647) b4x (by decide) (by decide)) hI) rfl rfl h5x rfl rfl (Nat.le_of_ble_eq_true rfl) dX9_item_27 (fun r6 g6 q6 => ?_)
      obtain ⟨⟨v6, rfl, b6x⟩, hI6, hF6q⟩ := q6
      obtain rfl := zFr_nil hF6q
      simp only [Option.toList, List.cons_append, List.nil_append]
      refine z_istore (pc := 30) C dX9_item_30 (by rw [hn]; decide) rfl ?_
      refine z_iload (pc := 32) C dX9_item_32 rfl ?_
      refine z_if_eq (pc := 34) 40 C dX9_item_34 (by decide) (fun h34_6 => ?_) (fun h34_6 => ?_)
      · skip
        have b8x : zB v6 0 0 := by have q1 := b6x; have q2 := (zB.of (x := 0) 0 (by decide)); simp only [z32lt, z32le, z32eq, Int32.reduceToInt, Int32.toInt_zero] at h34_6; constructor <;> omega
        refine z_iload_n (pc := 40) C dX9_item_40 rfl ?_
        refine z_if_lt (pc := 41) 53 C dX9_item_41 (by decide) (fun h41_8 => ?_) (fun h41_8 => ?_)
        · skip
          have b10x : zB a3 (-2147483648) (-1) := by have q1 := b3; have q2 := (zB.of (x := 0) 0 (by decide)); simp only [z32lt, z32le, z32eq, Int32.reduceToInt, Int32.toInt_zero] at h41_8; constructor <;> omega
          exact J1 b2x b4x m5 h5x v6 b8x f hI hF  (by omega)
        · skip
          have b11x : zB a3 0 2147483647 := by have q1 := b3; have q2 := (zB.of (x := 0) 0 (by decide)); simp only [z32lt, z32le, z32eq, Int32.reduceToInt, Int32.toInt_zero] at h41_8; constructor <;> omega
          refine z_iload_n (pc := 44) C dX9_item_44 rfl ?_
          refine z_aload (pc := 45) C dX9_item_45 rfl ?_
          refine z_getI (pc := 47) C zf_X9_204 rfl rfl h5x dX9_item_47 ?_
          refine w_gb 0 16 (hI 23 _ 2) (fun v12 b12x => ?_)
          refine z_icmp_lt (pc := 50) 56 C dX9_item_50 (by decide) (fun h50_12 => ?_) (fun h50_12 => ?_)
          · skip
            have b14x : zB a3 0 15 := by have q1 := b11x; have q2 := b12x; simp only [z32lt, z32le, z32eq, Int32.reduceToInt, Int32.toInt_zero] at h50_12; constructor <;> omega
            have b15x : zB v12 1 16 := by have q1 := b11x; have q2 := b12x; simp only [z32lt, z32le, z32eq, Int32.reduceToInt, Int32.toInt_zero] at h50_12; constructor <;> omega
            refine z_aload (pc := 56) C dX9_item_56 rfl ?_
            refine z_iload_n (pc := 58) C dX9_item_58 rfl ?_
            refine z_iload (pc := 59) C dX9_item_59 rfl ?_
            refine z_callV (pc := 61) C zk_X9_339 (w_X6_put _ _ m5 h5x a3 b14x a4 b4 hI) rfl rfl h5x rfl rfl (Nat.le_of_ble_eq_true rfl) dX9_item_61 (fun r16 g16 q16 => ?_)
            obtain ⟨rfl, hI16, hF16q⟩ := q16
            have hF16 := zFr.tr hF hF16q (by decide)
            simp only [Option.toList, List.cons_append, List.nil_append]
            refine z_iconst (pc := 64) (v := 1) C dX9_item_64 (by decide) ?_
            exact z_iret (pc := 65) C hr dX9_item_65 ⟨⟨_, rfl, (zB.wk (a' := (-13)) (b' := 1) (zB.of (x := 1) 1 (by decide)) (by decide) (by decide))⟩, hI16, hF16⟩
          · skip
            exact J1 b2x b4x m5 h5x v6 b8x f hI hF  (by omega)
      · skip
        have b17x : zB v6 (-12) (-1) := by have q1 := b6x; have q2 := (zB.of (x := 0) 0 (by decide)); simp only [z32lt, z32le, z32eq, Int32.reduceToInt, Int32.toInt_zero] at h34_6; constructor <;> omega
        refine z_iload (pc := 37) C dX9_item_37 rfl ?_
        exact z_iret (pc := 39) C hr dX9_item_39 ⟨⟨_, rfl, (zB.wk (a' := (-13)) (b' := 1) b17x (by decide) (by decide))⟩, hI, hF⟩
    · skip
      refine z_if_ne (pc := 11) 16 C dX9_item_11 (by decide) (fun h => absurd (by decide) h) (fun _ => ?_)
      exact J0  f hI hF  (by omega)
  · skip
    refine z_if_eq (pc := 4) 14 C dX9_item_4 (by decide) (fun _ => ?_) (fun h => absurd (by decide) h)
    exact J0  f hI hF  (by omega)
