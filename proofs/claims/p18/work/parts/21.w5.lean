set_option maxRecDepth 100000 in
set_option maxHeartbeats 4000000 in
theorem w_X9_isLess (d : Nat) (f : zM) (a0 : Int32) (b0 : zB a0 (-2147483648) 2147483647) (a1 : Int32) (b1 : zB a1 (-2147483648) 2147483647) (hI : zInv f) : ZM (d + 1) yX9_isLess cX9_isLess 3 (some .boolean) [zi a0, zi a1] f (fun r g => (∃ v, r = some (zi v) ∧ zB v 0 1) ∧ zInv g ∧ zFr [] f g) := by
  refine ZM.intro (by decide +kernel) (Nat.le_of_ble_eq_true rfl) ?_
  intro X C hr hn
  have hF : zFr [] f f := zFr.rf _ _
  have J : ∀ t : Nat, (∀ a31_2 : Int32, zB a31_2 (-63) 0 → ∀ g : zM, zInv g → zFr [] f g → (2 : Int) < t → Z X 31 [some (zi a0), some (zi a1), some (zi a31_2)] [] g) ∧ (∀ a35_2 : Int32, zB a35_2 0 63 → ∀ g : zM, zInv g → zFr [] f g → (1 : Int) < t → Z X 35 [some (zi a0), some (zi a1), some (zi a35_2)] [] g) ∧ (∀ a36_2 : Int32, zB a36_2 (-63) 63 → ∀ a36_s0 : Int32, zB a36_s0 0 1 → ∀ g : zM, zInv g → zFr [] f g → (0 : Int) < t → Z X 36 [some (zi a0), some (zi a1), some (zi a36_2)] [zi a36_s0] g) := by
    intro t
    induction t with
    | zero =>
      refine ⟨?_, ?_, ?_⟩ <;> (intros; exfalso; omega)
    | succ t ih =>
      obtain ⟨ih0, ih1, ih2⟩ := ih
      refine ⟨?_, ?_, ?_⟩
      · skip
        intro a31_2 b31_2 g31_ hI31_ hF31_ hM31_
        refine z_iconst (pc := 31) (v := 1) C dX9_isLess_31 (by decide) ?_
        refine z_goto (pc := 32) 36 C dX9_isLess_32 (by decide) ?_
        exact ih2 a31_2 (zB.wk (a' := (-63)) (b' := 63) b31_2 (by decide) (by decide)) 1 (zB.wk (a' := 0) (b' := 1) (zB.of (x := 1) 1 (by decide)) (by decide) (by decide)) g31_ hI31_ hF31_  (by have qc0 : (1 : Int32).toInt = 1 := (by decide); omega)
      · skip
        intro a35_2 b35_2 g35_ hI35_ hF35_ hM35_
        refine z_iconst (pc := 35) (v := 0) C dX9_isLess_35 (by decide) ?_
        exact ih2 a35_2 (zB.wk (a' := (-63)) (b' := 63) b35_2 (by decide) (by decide)) 0 (zB.wk (a' := 0) (b' := 1) (zB.of (x := 0) 0 (by decide)) (by decide) (by decide)) g35_ hI35_ hF35_  (by have qc0 : (0 : Int32).toInt = 0 := (by decide); omega)
      · skip
        intro a36_2 b36_2 a36_s0 b36_s0 g36_ hI36_ hF36_ hM36_
        exact z_zret (pc := 36) C hr (z01 b36_s0) dX9_isLess_36 ⟨⟨_, rfl, b36_s0⟩, hI36_, hF36_⟩
  obtain ⟨J0, J1, J2⟩ := J 14
  show Z X 0 [some (zi a0), some (zi a1), none] [] f
  refine z_iload_n (pc := 0) C dX9_isLess_0 rfl ?_
  refine z_bipush (pc := 1) (v := -4) C dX9_isLess_1 (by decide) ?_
  refine z_icmp_ne (pc := 3) 8 C dX9_isLess_3 (by decide) (fun h3_0 => ?_) (fun h3_0 => ?_)
  · skip
    refine z_iload_n (pc := 8) C dX9_isLess_8 rfl ?_
    refine z_callS (pc := 9) C zk_X9_348 (w_J6_bitCount_0f7a4 _ _ a0 b0 hI) rfl rfl (Nat.le_of_ble_eq_true rfl) dX9_isLess_9 (fun r2 g2 q2 => ?_)
    obtain ⟨⟨v2, rfl, b2x⟩, hI2, hF2q⟩ := q2
    obtain rfl := zFr_nil hF2q
    simp only [Option.toList, List.cons_append, List.nil_append]
    refine z_iload_n (pc := 12) C dX9_isLess_12 rfl ?_
    refine z_callS (pc := 13) C zk_X9_348 (w_J6_bitCount_0f7a4 _ _ a1 b1 hI) rfl rfl (Nat.le_of_ble_eq_true rfl) dX9_isLess_13 (fun r3 g3 q3 => ?_)
    obtain ⟨⟨v3, rfl, b3x⟩, hI3, hF3q⟩ := q3
    obtain rfl := zFr_nil hF3q
    simp only [Option.toList, List.cons_append, List.nil_append]
    refine z_isub (pc := 16) C dX9_isLess_16 ?_
    refine w_gp (fun v => v.toInt = v2.toInt - v3.toInt) (zsub_eb b2x b3x (by decide) (by decide)) (fun v4 e4 => ?_)
    have b4x : zB v4 (-63) 63 := by have q1 := b2x; have q2 := b3x; constructor <;> omega
    refine z_istore_n (pc := 17) C dX9_isLess_17 (by rw [hn]; decide) rfl ?_
    refine z_iload_n (pc := 18) C dX9_isLess_18 rfl ?_
    refine z_if_lt (pc := 19) 31 C dX9_isLess_19 (by decide) (fun h19_4 => ?_) (fun h19_4 => ?_)
    · skip
      have b6x : zB v4 (-63) (-1) := by have q1 := b4x; have q2 := (zB.of (x := 0) 0 (by decide)); simp only [z32lt, z32le, z32eq, Int32.reduceToInt, Int32.toInt_zero] at h19_4; constructor <;> omega
      exact J0 v4 (zB.wk (a' := (-63)) (b' := 0) b6x (by decide) (by decide)) f hI hF  (by omega)
    · skip
      have b7x : zB v4 0 63 := by have q1 := b4x; have q2 := (zB.of (x := 0) 0 (by decide)); simp only [z32lt, z32le, z32eq, Int32.reduceToInt, Int32.toInt_zero] at h19_4; constructor <;> omega
      refine z_iload_n (pc := 22) C dX9_isLess_22 rfl ?_
      refine z_if_ne (pc := 23) 35 C dX9_isLess_23 (by decide) (fun h23_7 => ?_) (fun h23_7 => ?_)
      · skip
        have b9x : zB v4 1 63 := by have q1 := b7x; have q2 := (zB.of (x := 0) 0 (by decide)); simp only [z32lt, z32le, z32eq, Int32.reduceToInt, Int32.toInt_zero] at h23_7; constructor <;> omega
        exact J1 v4 (zB.wk (a' := 0) (b' := 63) b9x (by decide) (by decide)) f hI hF  (by omega)
      · skip
        have b10x : zB v4 0 0 := by have q1 := b7x; have q2 := (zB.of (x := 0) 0 (by decide)); simp only [z32lt, z32le, z32eq, Int32.reduceToInt, Int32.toInt_zero] at h23_7; constructor <;> omega
        refine z_iload_n (pc := 26) C dX9_isLess_26 rfl ?_
        refine z_iload_n (pc := 27) C dX9_isLess_27 rfl ?_
        refine z_icmp_ge (pc := 28) 35 C dX9_isLess_28 (by decide) (fun h28_10 => ?_) (fun h28_10 => ?_)
        · skip
          exact J1 v4 (zB.wk (a' := 0) (b' := 63) b10x (by decide) (by decide)) f hI hF  (by omega)
        · skip
          have b12x : zB a0 (-2147483648) 2147483646 := by have q1 := b0; have q2 := b1; simp only [z32lt, z32le, z32eq, Int32.reduceToInt, Int32.toInt_zero] at h28_10; constructor <;> omega
          have b13x : zB a1 (-2147483647) 2147483647 := by have q1 := b0; have q2 := b1; simp only [z32lt, z32le, z32eq, Int32.reduceToInt, Int32.toInt_zero] at h28_10; constructor <;> omega
          exact J0 v4 (zB.wk (a' := (-63)) (b' := 0) b10x (by decide) (by decide)) f hI hF  (by omega)
  · skip
    have b14x : zB a1 (-4) (-4) := by have q1 := b1; have q2 := (zB.of (x := (-4)) (-4) (by decide)); simp only [z32lt, z32le, z32eq, Int32.reduceToInt, Int32.toInt_zero] at h3_0; constructor <;> omega
    refine z_iconst (pc := 6) (v := 1) C dX9_isLess_6 (by decide) ?_
    exact z_zret (pc := 7) C hr (z01 (zB.wk (a' := 0) (b' := 1) (zB.of (x := 1) 1 (by decide)) (by decide) (by decide))) dX9_isLess_7 ⟨⟨_, rfl, (zB.wk (a' := 0) (b' := 1) (zB.of (x := 1) 1 (by decide)) (by decide) (by decide))⟩, hI, hF⟩

set_option maxRecDepth 100000 in
set_option maxHeartbeats 4000000 in
theorem w_X9_paper (d : Nat) (f : zM) (a1 : Int32) (b1 : zB a1 (-2147483648) 2147483647) (a2 : Int32) (b2 : zB a2 (-2147483648) 2147483647) (hI : zInv f) : ZM (d + 1) yX9_paper cX9_paper 4 (some .int) [zr 0 0, zi a1, zi a2] f (fun r g => (∃ v, r = some (zi v) ∧ zB v (-2147483648) 2147483647) ∧ zInv g ∧ zFr [] f g) := by
  refine ZM.intro (by decide +kernel) (Nat.le_of_ble_eq_true rfl) ?_
  intro X C hr hn
  have hF : zFr [] f f := zFr.rf _ _
  have J : ∀ t : Nat, (zB a1 0 11 → ∀ m100_3 : Nat, m100_3 < zcnt 11 → ∀ a100_s0 : Int32, zB a100_s0 (-12) 40 → ∀ g : zM, zInv g → zFr [] f g → (1 : Int) < t → Z X 100 [some (zr 0 0), some (zi a1), some (zi a2), some (zr 11 m100_3)] [zi a100_s0] g) ∧ (zB a1 0 11 → ∀ m118_3 : Nat, m118_3 < zcnt 11 → ∀ a118_s0 : Int32, zB a118_s0 (-2147483648) 2147483647 → ∀ g : zM, zInv g → zFr [] f g → (0 : Int) < t → Z X 118 [some (zr 0 0), some (zi a1), some (zi a2), some (zr 11 m118_3)] [zi a118_s0] g) := by
    intro t
    induction t with
    | zero =>
      refine ⟨?_, ?_⟩ <;> (intros; exfalso; omega)
    | succ t ih =>
      obtain ⟨ih0, ih1⟩ := ih
      refine ⟨?_, ?_⟩
      · skip
        intro b100_1 m100_3 h100_3 a100_s0 b100_s0 g100_ hI100_ hF100_ hM100_
        exact z_iret (pc := 100) C hr dX9_paper_100 ⟨⟨_, rfl, (zB.wk (a' := (-2147483648)) (b' := 2147483647) b100_s0 (by decide) (by decide))⟩, hI100_, hF100_⟩
      · skip
        intro b118_1 m118_3 h118_3 a118_s0 b118_s0 g118_ hI118_ hF118_ hM118_
        exact z_iret (pc := 118) C hr dX9_paper_118 ⟨⟨_, rfl, b118_s0⟩, hI118_, hF118_⟩
  obtain ⟨J0, J1⟩ := J 13
  show Z X 0 [some (zr 0 0), some (zi a1), some (zi a2), none] [] f
  refine z_aload_n (pc := 0) C dX9_paper_0 rfl ?_
  refine z_iload_n (pc := 1) C dX9_paper_1 rfl ?_
  refine z_callVb (pc := 2) C zk_X9_153 (m_X9_isPaper _ _ _) rfl rfl (by decide) rfl rfl (Nat.le_of_ble_eq_true rfl) dX9_paper_2 (fun h2_0 => ?_) (fun h2_0 => ?_)
  · skip
    have b2x : zB a1 0 11 := (zltc h2_0 (hI 1 0 7).2)
    refine z_if_ne (pc := 5) 10 C dX9_paper_5 (by decide) (fun _ => ?_) (fun h => absurd h (by decide))
    refine z_aload_n (pc := 10) C dX9_paper_10 rfl ?_
    refine z_getR (pc := 11) C zf_X9_10 rfl rfl (by decide) dX9_paper_11 ?_
    refine z_getR (pc := 14) C zf_X9_90 rfl rfl (by decide) dX9_paper_14 ?_
    refine z_iload_n (pc := 17) C dX9_paper_17 rfl ?_
    refine z_aald (pc := 18) C rfl ⟨rfl, by decide⟩ (by decide) (zIx b2x (by decide) (by decide)) dX9_paper_18 ?_
    refine w_gr (by have hq := zN b2x (by decide); show 12 * 0 + a1.toNatClampNeg < 36; omega) (fun m3 h3x => ?_)
    refine z_astore_n (pc := 19) C dX9_paper_19 (by rw [hn]; decide) rfl ?_
    refine z_iload_n (pc := 20) C dX9_paper_20 rfl ?_
    by_cases hsw0 : a2 = 0
    · skip
      refine z_tabE (pc := 21) hsw0 68 C dX9_paper_21 (by decide) (by decide) rfl (by decide) ?_
      refine z_aload_n (pc := 68) C dX9_paper_68 rfl ?_
      refine z_getI (pc := 69) C zf_X9_156 rfl rfl h3x dX9_paper_69 ?_
      refine w_gb 0 2 (hI 11 _ 0) (fun v4 b4x => ?_)
      exact z_iret (pc := 72) C hr dX9_paper_72 ⟨⟨_, rfl, (zB.wk (a' := (-2147483648)) (b' := 2147483647) b4x (by decide) (by decide))⟩, hI, hF⟩
    · skip
      by_cases hsw1 : a2 = 1
      · skip
        refine z_tabE (pc := 21) hsw1 73 C dX9_paper_21 (by decide) (by decide) rfl (by decide) ?_
        refine z_aload_n (pc := 73) C dX9_paper_73 rfl ?_
        refine z_getI (pc := 74) C zf_X9_159 rfl rfl h3x dX9_paper_74 ?_
        refine w_gb 0 5 (hI 11 _ 1) (fun v5 b5x => ?_)
        exact z_iret (pc := 77) C hr dX9_paper_77 ⟨⟨_, rfl, (zB.wk (a' := (-2147483648)) (b' := 2147483647) b5x (by decide) (by decide))⟩, hI, hF⟩
      · skip
        by_cases hsw2 : a2 = 2
        · skip
          refine z_tabE (pc := 21) hsw2 78 C dX9_paper_21 (by decide) (by decide) rfl (by decide) ?_
          refine z_aload_n (pc := 78) C dX9_paper_78 rfl ?_
          refine z_getI (pc := 79) C zf_X9_162 rfl rfl h3x dX9_paper_79 ?_
          refine w_gb 0 5 (hI 11 _ 2) (fun v6 b6x => ?_)
          exact z_iret (pc := 82) C hr dX9_paper_82 ⟨⟨_, rfl, (zB.wk (a' := (-2147483648)) (b' := 2147483647) b6x (by decide) (by decide))⟩, hI, hF⟩
        · skip
          by_cases hsw3 : a2 = 3
          · skip
            refine z_tabE (pc := 21) hsw3 83 C dX9_paper_21 (by decide) (by decide) rfl (by decide) ?_
            refine z_aload_n (pc := 83) C dX9_paper_83 rfl ?_
            refine z_getI (pc := 84) C zf_X9_156 rfl rfl h3x dX9_paper_84 ?_
            refine w_gb 0 2 (hI 11 _ 0) (fun v7 b7x => ?_)
            refine z_iconst (pc := 87) (v := 2) C dX9_paper_87 (by decide) ?_
            refine z_icmp_ne (pc := 88) 96 C dX9_paper_88 (by decide) (fun h88_7 => ?_) (fun h88_7 => ?_)
            · skip
              have b9x : zB v7 0 1 := by have q1 := b7x; have q2 := (zB.of (x := 2) 2 (by decide)); simp only [z32lt, z32le, z32eq, Int32.reduceToInt, Int32.toInt_zero] at h88_7; constructor <;> omega
              refine z_aload_n (pc := 96) C dX9_paper_96 rfl ?_
              refine z_getI (pc := 97) C zf_X9_165 rfl rfl h3x dX9_paper_97 ?_
              refine w_gb 0 40 (hI 11 _ 3) (fun v10 b10x => ?_)
              exact J0 b2x m3 h3x v10 (zB.wk (a' := (-12)) (b' := 40) b10x (by decide) (by decide)) f hI hF  (by omega)
            · skip
              have b11x : zB v7 2 2 := by have q1 := b7x; have q2 := (zB.of (x := 2) 2 (by decide)); simp only [z32lt, z32le, z32eq, Int32.reduceToInt, Int32.toInt_zero] at h88_7; constructor <;> omega
              refine z_bipush (pc := 91) (v := -12) C dX9_paper_91 (by decide) ?_
              refine z_goto (pc := 93) 100 C dX9_paper_93 (by decide) ?_
              exact J0 b2x m3 h3x (-12) (zB.wk (a' := (-12)) (b' := 40) (zB.of (x := (-12)) (-12) (by decide)) (by decide) (by decide)) f hI hF  (by have qc0 : ((-12) : Int32).toInt = (-12) := (by decide); omega)
          · skip
            by_cases hsw4 : a2 = 4
            · skip
              refine z_tabE (pc := 21) hsw4 101 C dX9_paper_21 (by decide) (by decide) rfl (by decide) ?_
              refine z_aload_n (pc := 101) C dX9_paper_101 rfl ?_
              refine z_getI (pc := 102) C zf_X9_156 rfl rfl h3x dX9_paper_102 ?_
              refine w_gb 0 2 (hI 11 _ 0) (fun v12 b12x => ?_)
              refine z_iconst (pc := 105) (v := 1) C dX9_paper_105 (by decide) ?_
              refine z_icmp_ne (pc := 106) 116 C dX9_paper_106 (by decide) (fun h106_12 => ?_) (fun h106_12 => ?_)
              · skip
                refine z_bipush (pc := 116) (v := -12) C dX9_paper_116 (by decide) ?_
                exact J1 b2x m3 h3x (-12) (zB.wk (a' := (-2147483648)) (b' := 2147483647) (zB.of (x := (-12)) (-12) (by decide)) (by decide) (by decide)) f hI hF  (by have qc0 : ((-12) : Int32).toInt = (-12) := (by decide); omega)
              · skip
                have b14x : zB v12 1 1 := by have q1 := b12x; have q2 := (zB.of (x := 1) 1 (by decide)); simp only [z32lt, z32le, z32eq, Int32.reduceToInt, Int32.toInt_zero] at h106_12; constructor <;> omega
                refine z_aload_n (pc := 109) C dX9_paper_109 rfl ?_
                refine z_getI (pc := 110) C zf_X9_168 rfl rfl h3x dX9_paper_110 ?_
                refine w_gb (-2147483648) 2147483647 (hI 11 _ 4) (fun v15 b15x => ?_)
                refine z_goto (pc := 113) 118 C dX9_paper_113 (by decide) ?_
                exact J1 b2x m3 h3x v15 b15x f hI hF  (by omega)
            · skip
              by_cases hsw5 : a2 = 5
              · skip
                refine z_tabE (pc := 21) hsw5 119 C dX9_paper_21 (by decide) (by decide) rfl (by decide) ?_
                refine z_aload_n (pc := 119) C dX9_paper_119 rfl ?_
                refine z_getI (pc := 120) C zf_X9_170 rfl rfl h3x dX9_paper_120 ?_
                refine w_gb 0 31 (hI 11 _ 5) (fun v16 b16x => ?_)
                exact z_iret (pc := 123) C hr dX9_paper_123 ⟨⟨_, rfl, (zB.wk (a' := (-2147483648)) (b' := 2147483647) b16x (by decide) (by decide))⟩, hI, hF⟩
              · skip
                by_cases hsw6 : a2 = 6
                · skip
                  refine z_tabE (pc := 21) hsw6 124 C dX9_paper_21 (by decide) (by decide) rfl (by decide) ?_
                  refine z_aload_n (pc := 124) C dX9_paper_124 rfl ?_
                  refine z_getI (pc := 125) C zf_X9_173 rfl rfl h3x dX9_paper_125 ?_
                  refine w_gb 0 99 (hI 11 _ 6) (fun v17 b17x => ?_)
                  exact z_iret (pc := 128) C hr dX9_paper_128 ⟨⟨_, rfl, (zB.wk (a' := (-2147483648)) (b' := 2147483647) b17x (by decide) (by decide))⟩, hI, hF⟩
                · skip
                  by_cases hsw7 : a2 = 7
                  · skip
                    refine z_tabE (pc := 21) hsw7 129 C dX9_paper_21 (by decide) (by decide) rfl (by decide) ?_
                    refine z_aload_n (pc := 129) C dX9_paper_129 rfl ?_
                    refine z_getI (pc := 130) C zf_X9_176 rfl rfl h3x dX9_paper_130 ?_
                    refine w_gb 0 7 (hI 11 _ 7) (fun v18 b18x => ?_)
                    exact z_iret (pc := 133) C hr dX9_paper_133 ⟨⟨_, rfl, (zB.wk (a' := (-2147483648)) (b' := 2147483647) b18x (by decide) (by decide))⟩, hI, hF⟩
                  · skip
                    refine z_tabOut (pc := 21) 134 C dX9_paper_21 (by simp only [z32eq, Int32.reduceToInt, Int32.toInt_zero, Int32.toInt_one] at *; omega) (by decide) ?_
                    refine z_iconst (pc := 134) (v := -1) C dX9_paper_134 (by decide) ?_
                    exact z_iret (pc := 135) C hr dX9_paper_135 ⟨⟨_, rfl, (zB.wk (a' := (-2147483648)) (b' := 2147483647) (zB.of (x := (-1)) (-1) (by decide)) (by decide) (by decide))⟩, hI, hF⟩
  · skip
    refine z_if_ne (pc := 5) 10 C dX9_paper_5 (by decide) (fun h => absurd (by decide) h) (fun _ => ?_)
    refine z_iconst (pc := 8) (v := -1) C dX9_paper_8 (by decide) ?_
    exact z_iret (pc := 9) C hr dX9_paper_9 ⟨⟨_, rfl, (zB.wk (a' := (-2147483648)) (b' := 2147483647) (zB.of (x := (-1)) (-1) (by decide)) (by decide) (by decide))⟩, hI, hF⟩

set_option maxRecDepth 100000 in
set_option maxHeartbeats 4000000 in
theorem w_X9_ahead (d : Nat) (f : zM) (a1 : Int32) (b1 : zB a1 (-2147483648) 2147483647) (hI : zInv f) : ZM (d + 4) yX9_ahead cX9_ahead 3 (some .int) [zr 0 0, zi a1] f (fun r g => (∃ v, r = some (zi v) ∧ zB v (-4) 7) ∧ zInv g ∧ zFr [(11, some 8), (11, some 9), (12, some 3), (12, some 4), (12, some 5)] f g) := by
  refine ZM.intro (by decide +kernel) (Nat.le_of_ble_eq_true rfl) ?_
  intro X C hr hn
  have hF : zFr [(11, some 8), (11, some 9), (12, some 3), (12, some 4), (12, some 5)] f f := zFr.rf _ _
  have J : ∀ t : Nat, (zB a1 0 2147483647 → ∀ a22_2 : Int32, zB a22_2 0 8 → ∀ g : zM, zInv g → zFr [(11, some 8), (11, some 9), (12, some 3), (12, some 4), (12, some 5)] f g → (1 + 4 * (8 - a22_2.toInt) : Int) < t → Z X 22 [some (zr 0 0), some (zi a1), some (zi a22_2)] [] g) ∧ (zB a1 0 2147483647 → ∀ a62_2 : Int32, zB a62_2 0 7 → ∀ g : zM, zInv g → zFr [(11, some 8), (11, some 9), (12, some 3), (12, some 4), (12, some 5)] f g → (0 + 4 * (8 - a62_2.toInt) : Int) < t → Z X 62 [some (zr 0 0), some (zi a1), some (zi a62_2)] [] g) := by
    intro t
    induction t with
    | zero =>
      refine ⟨?_, ?_⟩ <;> (intros; exfalso; omega)
    | succ t ih =>
      obtain ⟨ih0, ih1⟩ := ih
      refine ⟨?_, ?_⟩
      · skip
        intro b22_1 a22_2 b22_2 g22_ hI22_ hF22_ hM22_
        refine z_iload_n (pc := 22) C dX9_ahead_22 rfl ?_
        refine z_aload_n (pc := 23) C dX9_ahead_23 rfl ?_
        refine z_getR (pc := 24) C zf_X9_10 rfl rfl (by decide) dX9_ahead_24 ?_
        refine z_getI (pc := 27) C zf_X9_217 rfl rfl (by decide) dX9_ahead_27 ?_
        refine w_gb 0 8 (hI22_ 1 _ 8) (fun v1 b1x => ?_)
        refine z_icmp_ge (pc := 30) 68 C dX9_ahead_30 (by decide) (fun h30_1 => ?_) (fun h30_1 => ?_)
        · skip
          refine z_bipush (pc := 68) (v := -4) C dX9_ahead_68 (by decide) ?_
          exact z_iret (pc := 70) C hr dX9_ahead_70 ⟨⟨_, rfl, (zB.wk (a' := (-4)) (b' := 7) (zB.of (x := (-4)) (-4) (by decide)) (by decide) (by decide))⟩, hI22_, hF22_⟩
        · skip
          have b3x : zB a22_2 0 7 := by have q1 := b22_2; have q2 := b1x; simp only [z32lt, z32le, z32eq, Int32.reduceToInt, Int32.toInt_zero] at h30_1; constructor <;> omega
          have b4x : zB v1 1 8 := by have q1 := b22_2; have q2 := b1x; simp only [z32lt, z32le, z32eq, Int32.reduceToInt, Int32.toInt_zero] at h30_1; constructor <;> omega
          refine z_aload_n (pc := 33) C dX9_ahead_33 rfl ?_
          refine z_getR (pc := 34) C zf_X9_10 rfl rfl (by decide) dX9_ahead_34 ?_
          refine z_getR (pc := 37) C zf_X9_300 rfl rfl (by decide) dX9_ahead_37 ?_
          refine z_iload_n (pc := 40) C dX9_ahead_40 rfl ?_
          refine z_aald (pc := 41) C rfl ⟨rfl, by decide⟩ (by decide) (zIx b3x (by decide) (by decide)) dX9_ahead_41 ?_
          refine w_gr (by have hq := zN b3x (by decide); show 8 * 0 + a22_2.toNatClampNeg < 16; omega) (fun m5 h5x => ?_)
          refine z_getI (pc := 42) C zf_X9_311 rfl rfl h5x dX9_ahead_42 ?_
          refine w_gb 0 255 (hI22_ 12 _ 3) (fun v6 b6x => ?_)
          refine z_if_eq (pc := 45) 62 C dX9_ahead_45 (by decide) (fun h45_6 => ?_) (fun h45_6 => ?_)
          · skip
            have b8x : zB v6 0 0 := by have q1 := b6x; have q2 := (zB.of (x := 0) 0 (by decide)); simp only [z32lt, z32le, z32eq, Int32.reduceToInt, Int32.toInt_zero] at h45_6; constructor <;> omega
            exact ih1 b22_1 a22_2 b3x g22_ hI22_ hF22_  (by omega)
          · skip
            have b9x : zB v6 1 255 := by have q1 := b6x; have q2 := (zB.of (x := 0) 0 (by decide)); simp only [z32lt, z32le, z32eq, Int32.reduceToInt, Int32.toInt_zero] at h45_6; constructor <;> omega
            refine z_aload_n (pc := 48) C dX9_ahead_48 rfl ?_
            refine z_getR (pc := 49) C zf_X9_10 rfl rfl (by decide) dX9_ahead_49 ?_
            refine z_iload_n (pc := 52) C dX9_ahead_52 rfl ?_
            refine z_callV (pc := 53) C zk_X9_314 (w_X8_placeOf _ _ a22_2 b3x hI22_) rfl rfl (by decide) rfl rfl (Nat.le_of_ble_eq_true rfl) dX9_ahead_53 (fun r10 g10 q10 => ?_)
            obtain ⟨⟨v10, rfl, b10x⟩, hI10, hF10q⟩ := q10
            obtain rfl := zFr_nil hF10q
            simp only [Option.toList, List.cons_append, List.nil_append]
            refine z_iload_n (pc := 56) C dX9_ahead_56 rfl ?_
            refine z_icmp_ne (pc := 57) 62 C dX9_ahead_57 (by decide) (fun h57_10 => ?_) (fun h57_10 => ?_)
            · skip
              exact ih1 b22_1 a22_2 b3x g22_ hI22_ hF22_  (by omega)
            · skip
              have b12x : zB v10 0 2147483647 := by have q1 := b10x; have q2 := b22_1; simp only [z32lt, z32le, z32eq, Int32.reduceToInt, Int32.toInt_zero] at h57_10; constructor <;> omega
              refine z_iload_n (pc := 60) C dX9_ahead_60 rfl ?_
              exact z_iret (pc := 61) C hr dX9_ahead_61 ⟨⟨_, rfl, (zB.wk (a' := (-4)) (b' := 7) b3x (by decide) (by decide))⟩, hI22_, hF22_⟩
      · skip
        intro b62_1 a62_2 b62_2 g62_ hI62_ hF62_ hM62_
        refine z_iinc (pc := 62) (v := 1) C dX9_ahead_62 rfl (by decide) (by rw [hn]; decide) rfl ?_
        obtain ⟨v13, hv13, e13⟩ : ∃ v : Int32, v = a62_2 + 1 ∧ v.toInt = a62_2.toInt + 1 := ⟨_, rfl, zadd_eb b62_2 (zB.of (x := 1) 1 (by decide)) (by decide) (by decide)⟩
        rw [← hv13]
        have b13x : zB v13 1 8 := by have q9 := b62_2; constructor <;> omega
        refine z_goto (pc := 65) 22 C dX9_ahead_65 (by decide) ?_
        exact ih0 b62_1 v13 (zB.wk (a' := 0) (b' := 8) b13x (by decide) (by decide)) g62_ hI62_ hF62_  (by omega)
  obtain ⟨J0, J1⟩ := J 49
  show Z X 0 [some (zr 0 0), some (zi a1), none] [] f
  refine z_iload_n (pc := 0) C dX9_ahead_0 rfl ?_
  refine z_if_ge (pc := 1) 6 C dX9_ahead_1 (by decide) (fun h1_13 => ?_) (fun h1_13 => ?_)
  · skip
    have b15x : zB a1 0 2147483647 := by have q1 := b1; have q2 := (zB.of (x := 0) 0 (by decide)); simp only [z32lt, z32le, z32eq, Int32.reduceToInt, Int32.toInt_zero] at h1_13; constructor <;> omega
    refine z_aload_n (pc := 6) C dX9_ahead_6 rfl ?_
    refine z_getR (pc := 7) C zf_X9_10 rfl rfl (by decide) dX9_ahead_7 ?_
    refine z_callV (pc := 10) C zk_X9_280 (w_X8_weighAll _ _  hI) rfl rfl (by decide) rfl rfl (Nat.le_of_ble_eq_true rfl) dX9_ahead_10 (fun r16 g16 q16 => ?_)
    obtain ⟨rfl, hI16, hF16q⟩ := q16
    have hF16 := zFr.tr hF hF16q (by decide)
    simp only [Option.toList, List.cons_append, List.nil_append]
    refine z_aload_n (pc := 13) C dX9_ahead_13 rfl ?_
    refine z_getR (pc := 14) C zf_X9_10 rfl rfl (by decide) dX9_ahead_14 ?_
    refine z_callV (pc := 17) C zk_X9_308 (w_X8_weighDemands _ _  hI16) rfl rfl (by decide) rfl rfl (Nat.le_of_ble_eq_true rfl) dX9_ahead_17 (fun r17 g17 q17 => ?_)
    obtain ⟨rfl, hI17, hF17q⟩ := q17
    have hF17 := zFr.tr hF16 hF17q (by decide)
    simp only [Option.toList, List.cons_append, List.nil_append]
    refine z_iconst (pc := 20) (v := 0) C dX9_ahead_20 (by decide) ?_
    refine z_istore_n (pc := 21) C dX9_ahead_21 (by rw [hn]; decide) rfl ?_
    exact J0 b15x 0 (zB.wk (a' := 0) (b' := 8) (zB.of (x := 0) 0 (by decide)) (by decide) (by decide)) g17 hI17 hF17  (by have qc0 : (0 : Int32).toInt = 0 := (by decide); omega)
  · skip
    have b18x : zB a1 (-2147483648) (-1) := by have q1 := b1; have q2 := (zB.of (x := 0) 0 (by decide)); simp only [z32lt, z32le, z32eq, Int32.reduceToInt, Int32.toInt_zero] at h1_13; constructor <;> omega
    refine z_iconst (pc := 4) (v := -1) C dX9_ahead_4 (by decide) ?_
    exact z_iret (pc := 5) C hr dX9_ahead_5 ⟨⟨_, rfl, (zB.wk (a' := (-4)) (b' := 7) (zB.of (x := (-1)) (-1) (by decide)) (by decide) (by decide))⟩, hI, hF⟩

set_option maxRecDepth 100000 in
set_option maxHeartbeats 4000000 in
theorem w_X9_promises (d : Nat) (f : zM) (a1 : Int32) (b1 : zB a1 (-2147483648) 2147483647) (a2 : Int32) (b2 : zB a2 (-2147483648) 2147483647) (hI : zInv f) : ZM (d + 4) yX9_promises cX9_promises 6 (some .int) [zr 0 0, zi a1, zi a2] f (fun r g => (∃ v, r = some (zi v) ∧ zB v (-4) 7) ∧ zInv g ∧ zFr [(11, some 8), (11, some 9)] f g) := by
  refine ZM.intro (by decide +kernel) (Nat.le_of_ble_eq_true rfl) ?_
  intro X C hr hn
  have hF : zFr [(11, some 8), (11, some 9)] f f := zFr.rf _ _
  have J : ∀ t : Nat, (∀ g : zM, zInv g → zFr [(11, some 8), (11, some 9)] f g → (67 : Int) < t → Z X 15 [some (zr 0 0), some (zi a1), some (zi a2), none, none, none] [] g) ∧ (zB a1 0 5 → zB a2 0 7 → ∀ a30_3 : Int32, zB a30_3 (-4) 7 → ∀ a30_4 : Int32, zB a30_4 0 12 → ∀ g : zM, zInv g → zFr [(11, some 8), (11, some 9)] f g → (1 + 5 * (12 - a30_4.toInt) : Int) < t → Z X 30 [some (zr 0 0), some (zi a1), some (zi a2), some (zi a30_3), some (zi a30_4), none] [] g) ∧ (zB a1 0 5 → zB a2 0 7 → ∀ a100_3 : Int32, zB a100_3 (-4) 7 → ∀ a100_4 : Int32, zB a100_4 0 11 → ∀ m100_5 : Nat, m100_5 < zcnt 11 → ∀ g : zM, zInv g → zFr [(11, some 8), (11, some 9)] f g → (0 + 5 * (12 - a100_4.toInt) : Int) < t → Z X 100 [some (zr 0 0), some (zi a1), some (zi a2), some (zi a100_3), some (zi a100_4), some (zr 11 m100_5)] [] g) := by
    intro t
    induction t with
    | zero =>
      refine ⟨?_, ?_, ?_⟩ <;> (intros; exfalso; omega)
    | succ t ih =>
      obtain ⟨ih0, ih1, ih2⟩ := ih
      refine ⟨?_, ?_, ?_⟩
      · skip
        intro g15_ hI15_ hF15_ hM15_
        refine z_iconst (pc := 15) (v := -1) C dX9_promises_15 (by decide) ?_
        exact z_iret (pc := 16) C hr dX9_promises_16 ⟨⟨_, rfl, (zB.wk (a' := (-4)) (b' := 7) (zB.of (x := (-1)) (-1) (by decide)) (by decide) (by decide))⟩, hI15_, hF15_⟩
      · skip
        intro b30_1 b30_2 a30_3 b30_3 a30_4 b30_4 g30_ hI30_ hF30_ hM30_
        refine z_iload (pc := 30) C dX9_promises_30 rfl ?_
        refine z_aload_n (pc := 32) C dX9_promises_32 rfl ?_
        refine z_getR (pc := 33) C zf_X9_10 rfl rfl (by decide) dX9_promises_33 ?_
        refine z_getI (pc := 36) C zf_X9_119 rfl rfl (by decide) dX9_promises_36 ?_
        refine w_gb 0 12 (hI30_ 1 _ 7) (fun v1 b1x => ?_)
        refine z_icmp_ge (pc := 39) 106 C dX9_promises_39 (by decide) (fun h39_1 => ?_) (fun h39_1 => ?_)
        · skip
          refine z_iload_n (pc := 106) C dX9_promises_106 rfl ?_
          exact z_iret (pc := 107) C hr dX9_promises_107 ⟨⟨_, rfl, b30_3⟩, hI30_, hF30_⟩
        · skip
          have b3x : zB a30_4 0 11 := by have q1 := b30_4; have q2 := b1x; simp only [z32lt, z32le, z32eq, Int32.reduceToInt, Int32.toInt_zero] at h39_1; constructor <;> omega
          have b4x : zB v1 1 12 := by have q1 := b30_4; have q2 := b1x; simp only [z32lt, z32le, z32eq, Int32.reduceToInt, Int32.toInt_zero] at h39_1; constructor <;> omega
          refine z_aload_n (pc := 42) C dX9_promises_42 rfl ?_
          refine z_getR (pc := 43) C zf_X9_10 rfl rfl (by decide) dX9_promises_43 ?_
          refine z_getR (pc := 46) C zf_X9_90 rfl rfl (by decide) dX9_promises_46 ?_
          refine z_iload (pc := 49) C dX9_promises_49 rfl ?_
          refine z_aald (pc := 51) C rfl ⟨rfl, by decide⟩ (by decide) (zIx b3x (by decide) (by decide)) dX9_promises_51 ?_
          refine w_gr (by have hq := zN b3x (by decide); show 12 * 0 + a30_4.toNatClampNeg < 36; omega) (fun m5 h5x => ?_)
          refine z_astore (pc := 52) C dX9_promises_52 (by rw [hn]; decide) rfl ?_
          refine z_aload (pc := 54) C dX9_promises_54 rfl ?_
          refine z_getI (pc := 56) C zf_X9_162 rfl rfl h5x dX9_promises_56 ?_
          refine w_gb 0 5 (hI30_ 11 _ 2) (fun v6 b6x => ?_)
          refine z_iload_n (pc := 59) C dX9_promises_59 rfl ?_
          refine z_icmp_ne (pc := 60) 100 C dX9_promises_60 (by decide) (fun h60_6 => ?_) (fun h60_6 => ?_)
          · skip
            exact ih2 b30_1 b30_2 a30_3 b30_3 a30_4 b3x m5 h5x g30_ hI30_ hF30_  (by omega)
          · skip
            refine z_aload_n (pc := 63) C dX9_promises_63 rfl ?_
            refine z_getR (pc := 64) C zf_X9_10 rfl rfl (by decide) dX9_promises_64 ?_
            refine z_getR (pc := 67) C zf_X9_220 rfl rfl (by decide) dX9_promises_67 ?_
            refine z_aload (pc := 70) C dX9_promises_70 rfl ?_
            refine z_callV (pc := 72) C zk_X9_262 (w_X3_goesBy _ _ 0 (by decide) m5 h5x hI30_) rfl rfl (by decide) rfl rfl (Nat.le_of_ble_eq_true rfl) dX9_promises_72 (fun r8 g8 q8 => ?_)
            obtain ⟨⟨v8, rfl, b8x⟩, hI8, hF8q⟩ := q8
            obtain rfl := zFr_nil hF8q
            simp only [Option.toList, List.cons_append, List.nil_append]
            refine z_iload_n (pc := 75) C dX9_promises_75 rfl ?_
            refine z_ishr (pc := 76) C dX9_promises_76 ?_
            refine w_gb (-2147483648) 2147483647 (zB_any _) (fun v9 b9x => ?_)
            refine z_iconst (pc := 77) (v := 1) C dX9_promises_77 (by decide) ?_
            refine z_iand (pc := 78) C dX9_promises_78 ?_
            refine w_gb 0 1 (zand_b b9x (zB.of (x := 1) 1 (by decide)) (by decide)) (fun v10 b10x => ?_)
            refine z_if_eq (pc := 79) 100 C dX9_promises_79 (by decide) (fun h79_10 => ?_) (fun h79_10 => ?_)
            · skip
              have b12x : zB v10 0 0 := by have q1 := b10x; have q2 := (zB.of (x := 0) 0 (by decide)); simp only [z32lt, z32le, z32eq, Int32.reduceToInt, Int32.toInt_zero] at h79_10; constructor <;> omega
              exact ih2 b30_1 b30_2 a30_3 b30_3 a30_4 b3x m5 h5x g30_ hI30_ hF30_  (by omega)
            · skip
              have b13x : zB v10 1 1 := by have q1 := b10x; have q2 := (zB.of (x := 0) 0 (by decide)); simp only [z32lt, z32le, z32eq, Int32.reduceToInt, Int32.toInt_zero] at h79_10; constructor <;> omega
              refine z_aload (pc := 82) C dX9_promises_82 rfl ?_
              refine z_getI (pc := 84) C zf_X9_176 rfl rfl h5x dX9_promises_84 ?_
              refine w_gb 0 7 (hI30_ 11 _ 7) (fun v14 b14x => ?_)
              refine z_iload_n (pc := 87) C dX9_promises_87 rfl ?_
              refine z_callS (pc := 88) C zk_X9_317 (w_X9_isLess _ _ v14 (zB.wk (a' := (-2147483648)) (b' := 2147483647) b14x (by decide) (by decide)) a30_3 (zB.wk (a' := (-2147483648)) (b' := 2147483647) b30_3 (by decide) (by decide)) hI30_) rfl rfl (Nat.le_of_ble_eq_true rfl) dX9_promises_88 (fun r15 g15 q15 => ?_)
              obtain ⟨⟨v15, rfl, b15x⟩, hI15, hF15q⟩ := q15
              obtain rfl := zFr_nil hF15q
              simp only [Option.toList, List.cons_append, List.nil_append]
              refine z_if_eq (pc := 91) 100 C dX9_promises_91 (by decide) (fun h91_15 => ?_) (fun h91_15 => ?_)
              · skip
                have b17x : zB v15 0 0 := by have q1 := b15x; have q2 := (zB.of (x := 0) 0 (by decide)); simp only [z32lt, z32le, z32eq, Int32.reduceToInt, Int32.toInt_zero] at h91_15; constructor <;> omega
                exact ih2 b30_1 b30_2 a30_3 b30_3 a30_4 b3x m5 h5x g30_ hI30_ hF30_  (by omega)
              · skip
                have b18x : zB v15 1 1 := by have q1 := b15x; have q2 := (zB.of (x := 0) 0 (by decide)); simp only [z32lt, z32le, z32eq, Int32.reduceToInt, Int32.toInt_zero] at h91_15; constructor <;> omega
                refine z_aload (pc := 94) C dX9_promises_94 rfl ?_
                refine z_getI (pc := 96) C zf_X9_176 rfl rfl h5x dX9_promises_96 ?_
                refine w_gb 0 7 (hI30_ 11 _ 7) (fun v19 b19x => ?_)
                refine z_istore_n (pc := 99) C dX9_promises_99 (by rw [hn]; decide) rfl ?_
                exact ih2 b30_1 b30_2 v19 (zB.wk (a' := (-4)) (b' := 7) b19x (by decide) (by decide)) a30_4 b3x m5 h5x g30_ hI30_ hF30_  (by omega)
      · skip
        intro b100_1 b100_2 a100_3 b100_3 a100_4 b100_4 m100_5 h100_5 g100_ hI100_ hF100_ hM100_
        refine z_iinc (pc := 100) (v := 1) C dX9_promises_100 rfl (by decide) (by rw [hn]; decide) rfl ?_
        obtain ⟨v20, hv20, e20⟩ : ∃ v : Int32, v = a100_4 + 1 ∧ v.toInt = a100_4.toInt + 1 := ⟨_, rfl, zadd_eb b100_4 (zB.of (x := 1) 1 (by decide)) (by decide) (by decide)⟩
        rw [← hv20]
        have b20x : zB v20 1 12 := by have q9 := b100_4; constructor <;> omega
        refine z_goto (pc := 103) 30 C dX9_promises_103 (by decide) ?_
        refine w_mask [5] ?_
        exact ih1 b100_1 b100_2 a100_3 b100_3 v20 (zB.wk (a' := 0) (b' := 12) b20x (by decide) (by decide)) g100_ hI100_ hF100_  (by omega)
  obtain ⟨J0, J1, J2⟩ := J 79
  show Z X 0 [some (zr 0 0), some (zi a1), some (zi a2), none, none, none] [] f
  refine z_iload_n (pc := 0) C dX9_promises_0 rfl ?_
  refine z_callSb (pc := 1) C zk_X9_46 (m_X9_isLand _ _ _) rfl rfl (Nat.le_of_ble_eq_true rfl) dX9_promises_1 (fun h1_20 => ?_) (fun h1_20 => ?_)
  · skip
    have b22x : zB a1 0 5 := h1_20
    refine z_if_eq (pc := 4) 15 C dX9_promises_4 (by decide) (fun h => absurd h (by decide)) (fun _ => ?_)
    refine z_aload_n (pc := 7) C dX9_promises_7 rfl ?_
    refine z_iload_n (pc := 8) C dX9_promises_8 rfl ?_
    refine z_callVb (pc := 9) C zk_X9_179 (m_X9_isDeed _ _ _) rfl rfl (by decide) rfl rfl (Nat.le_of_ble_eq_true rfl) dX9_promises_9 (fun h9_22 => ?_) (fun h9_22 => ?_)
    · skip
      have b24x : zB a2 0 7 := (zltc h9_22 (hI 1 0 6).2)
      refine z_if_ne (pc := 12) 17 C dX9_promises_12 (by decide) (fun _ => ?_) (fun h => absurd h (by decide))
      refine z_aload_n (pc := 17) C dX9_promises_17 rfl ?_
      refine z_getR (pc := 18) C zf_X9_10 rfl rfl (by decide) dX9_promises_18 ?_
      refine z_callV (pc := 21) C zk_X9_280 (w_X8_weighAll _ _  hI) rfl rfl (by decide) rfl rfl (Nat.le_of_ble_eq_true rfl) dX9_promises_21 (fun r25 g25 q25 => ?_)
      obtain ⟨rfl, hI25, hF25q⟩ := q25
      have hF25 := zFr.tr hF hF25q (by decide)
      simp only [Option.toList, List.cons_append, List.nil_append]
      refine z_bipush (pc := 24) (v := -4) C dX9_promises_24 (by decide) ?_
      refine z_istore_n (pc := 26) C dX9_promises_26 (by rw [hn]; decide) rfl ?_
      refine z_iconst (pc := 27) (v := 0) C dX9_promises_27 (by decide) ?_
      refine z_istore (pc := 28) C dX9_promises_28 (by rw [hn]; decide) rfl ?_
      exact J1 b22x b24x (-4) (zB.wk (a' := (-4)) (b' := 7) (zB.of (x := (-4)) (-4) (by decide)) (by decide) (by decide)) 0 (zB.wk (a' := 0) (b' := 12) (zB.of (x := 0) 0 (by decide)) (by decide) (by decide)) g25 hI25 hF25  (by have qc0 : ((-4) : Int32).toInt = (-4) := (by decide); have qc1 : (0 : Int32).toInt = 0 := (by decide); omega)
    · skip
      refine z_if_ne (pc := 12) 17 C dX9_promises_12 (by decide) (fun h => absurd (by decide) h) (fun _ => ?_)
      exact J0  f hI hF  (by omega)
  · skip
    refine z_if_eq (pc := 4) 15 C dX9_promises_4 (by decide) (fun _ => ?_) (fun h => absurd (by decide) h)
    exact J0  f hI hF  (by omega)
