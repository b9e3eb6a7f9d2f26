set_option maxRecDepth 100000 in
set_option maxHeartbeats 4000000 in
theorem w_X9_isLess (d : Nat) (f : zM) (a0 : Int32) (b0 : zB a0 (-2147483648) 2147483647) (a1 : Int32) (b1 : zB a1 (-2147483648) 2147483647) (hI : zInv f) : ZM (d + 1) yX9_isLess cX9_isLess 3 (some .boolean) [zi a0, zi a1] f (fun r g => (∃ v, r = some (zi v) ∧ zB v 0 1) ∧ zInv g ∧ zFr [] f g) := by
  refine ZM.intro (by decide +kernel) (Nat.le_of_ble_eq_true rfl) ?_
  intro X C hr hn
  have hF : zFr [] f f := zFr.rf _ _
  have J : ∀ t : Nat, (∀ a31_2 : Int32, zB a31_2 (-63) 0 → ∀ g : zM, zInv g → zFr [] f g → (2 : Int) < t → Z X 31 [some (zi a0), some (zi a1), some (zi a31_2)] [] g) ∧ (∀ a35_2 : Int32, zB a35_2 0 63 → ∀ g : zM, zInv g → zFr [] f g → (1 : Int) < t → Z X 35 [some (zi a0), some (zi a1), some (zi a35_2)] [] g) ∧ (∀ a36_2 : Int32, zB a36_2 (-63) 63 → ∀ a36_s0 : Int32, zB a36_s0 0 1 → ∀ g : zM, zInv g → zFr [] f g → (0 : Int) < t → Z X 36 [some (zi a0), some (zi a1), some (zi a36_2)] [zi a36_s0] g) := by
    intro t
    induction t with
    | zero =>
      refine ⟨?_, ?_, ?_⟩ <;> (intros; exfalso; omega)
    | succ t ih =>
      obtain ⟨ih0, ih1, ih2⟩ := ih
      refine ⟨?_, ?_, ?_⟩
      · skip
        intro a31_2 b31_2 g31_ hI31_ hF31_ hM31_
        refine z_iconst (pc := 31) (v := 1) C dX9_isLess_31 (by decide) ?_
        refine z_goto (pc := 32) 36 C dX9_isLess_32 (by decide) ?_
        exact ih2 a31_2 (zB.wk (a' := (-63)) (b' := 63) b31_2 (by decide) (by decide)) 1 (zB.wk (a' := 0) (b' := 1) (zB.of (x := 1) 1 (by decide)) (by decide) (by decide)) g31_ hI31_ hF31_  (by have qc0 : (1 : Int32).toInt = 1 := (by decide); omega)
      · skip
        intro a35_2 b35_2 g35_ hI35_ hF35_ hM35_
        refine z_iconst (pc := 35) (v := 0) C dX9_isLess_35 (by decide) ?_
        exact ih2 a35_2 (zB.wk (a' := (-63)) (b' := 63) b35_2 (by decide) (by decide)) 0 (zB.wk (a' := 0) (b' := 1) (zB.of (x := 0) 0 (by decide)) (by decide) (by decide)) g35_ hI35_ hF35_  (by have qc0 : (0 : Int32).toInt = 0 := (by decide); omega)
      · skip
        intro a36_2 b36_2 a36_s0 b36_s0 g36_ hI36_ hF36_ hM36_
        exact z_zret (pc := 36) C hr (z01 b36_s0) dX9_isLess_36 ⟨⟨_, rfl, b36_s0⟩, hI36_, hF36_⟩
  obtain ⟨J0, J1, J2⟩ := J 14
  show Z X 0 [some (zi a0), some (zi a1), none] [] f
  refine z_iload_n (pc := 0) C dX9_isLess_0 rfl ?_
  refine z_bipush (pc := 1) (v := -4) C dX9_isLess_1 (by decide) ?_
  refine z_icmp_ne (pc := 3) 8 C dX9_isLess_3 (by decide) (fun h3_0 => ?_) (fun h3_0 => ?_)
  · skip
    refine z_iload_n (pc := 8) C dX9_isLess_8 rfl ?_
    refine z_callS (pc := 9) C zk_X9_348 (w_J6_bitCount_0f7a4 _ _ a0 b0 hI) rfl rfl (Nat.le_of_ble_eq_true rfl) dX9_isLess_9 (fun r2 g2 q2 => ?_)
    obtain ⟨⟨v2, rfl, b2x⟩, hI2, hF2q⟩ := q2
    obtain rfl := zFr_nil hF2q
    simp only [Option.toList, List.cons_append, List.nil_append]
    refine z_iload_n (pc := 12) C dX9_isLess_12 rfl ?_
    refine z_callS (pc := 13) C zk_X9_348 (w_J6_bitCount_0f7a4 _ _ a1 b1 hI) rfl rfl (Nat.le_of_ble_eq_true rfl) dX9_isLess_13 (fun r3 g3 q3 => ?_)
    obtain ⟨⟨v3, rfl, b3x⟩, hI3, hF3q⟩ := q3
    obtain rfl := zFr_nil hF3q
    simp only [Option.toList, List.cons_append, List.nil_append]
    refine z_isub (pc := 16) C dX9_isLess_16 ?_
    refine w_gp (fun v => v.toInt = v2.toInt - v3.toInt) (zsub_eb b2x b3x (by decide) (by decide)) (fun v4 e4 => ?_)
    have b4x : zB v4 (-63) 63 := by have q1 := b2x; have q2 := b3x; constructor <;> omega
    refine z_istore_n (pc := 17) C dX9_isLess_17 (by rw [hn]; decide) rfl ?_
    refine z_iload_n (pc := 18) C dX9_isLess_18 rfl ?_
    refine z_if_lt (pc := 19) 31 C dX9_isLess_19 (by decide) (fun h19_4 => ?_) (fun h19_4 => ?_)
    · skip
      have b6x : zB v4 (-63) (-1) := by have q1 := b4x; have q2 := (zB.of (x := 0) 0 (by decide)); simp only [z32lt, z32le, z32eq, Int32.reduceToInt, Int32.toInt_zero] at h19_4; constructor <;> omega
      exact J0 v4 (zB.wk (a' := (-63)) (b' := 0) b6x (by decide) (by decide)) f hI hF  (by omega)
    · skip
      have b7x : zB v4 0 63 := by have q1 := b4x; have q2 := (zB.of (x := 0) 0 (by decide)); simp only [z32lt, z32le, z32eq, Int32.reduceToInt, Int32.toInt_zero] at h19_4; constructor <;> omega
      refine z_iload_n (pc := 22) C dX9_isLess_22 rfl ?_
      refine z_if_ne (pc := 23) 35 C dX9_isLess_23 (by decide) (fun h23_7 => ?_) (fun h23_7 => ?_)
      · skip
        have b9x : zB v4 1 63 := by have q1 := b7x; have q2 := (zB.of (x := 0) 0 (by decide)); simp only [z32lt, z32le, z32eq, Int32.reduceToInt, Int32.toInt_zero] at h23_7; constructor <;> omega
        exact J1 v4 (zB.wk (a' := 0) (b' := 63) b9x (by decide) (by decide)) f hI hF  (by omega)
      · skip
        have b10x : zB v4 0 0 := by have q1 := b7x; have q2 := (zB.of (x := 0) 0 (by decide)); simp only [z32lt, z32le, z32eq, Int32.reduceToInt, Int32.toInt_zero] at h23_7; constructor <;> omega
        refine z_iload_n (pc := 26) C dX9_isLess_26 rfl ?_
        refine z_iload_n (pc := 27) C dX9_isLess_27 rfl ?_
        refine z_icmp_ge (pc := 28) 35 C dX9_isLess_28 (by decide) (fun h28_10 => ?_) (fun h28_10 => ?_)
        · skip
          exact J1 v4 (zB.wk (a' := 0) (b' := 63) b10x (by decide) (by decide)) f hI hF  (by omega)
        · skip
          have b12x : zB a0 (-2147483648) 2147483646 := by have q1 := b0; have q2 := b1; simp only [z32lt, z32le, z32eq, Int32.reduceToInt, Int32.toInt_zero] at h28_10; constructor <;> omega
          have b13x : zB a1 (-2147483647) 2147483647 := by have q1 := b0; have q2 := b1; simp only [z32lt, z32le, z32eq, Int32.reduceToInt, Int32.toInt_zero] at h28_10; constructor <;> omega
          exact J0 v4 (zB.wk (a' := (-63)) (b' := 0) b10x (by decide) (by decide)) f hI hF  (by omega)
  · skip
    have b14x : zB a1 (-4) (-4) := by have q1 := b1; have q2 := (zB.of (x := (-4)) (-4) (by decide)); simp only [z32lt, z32le, z32eq, Int32.reduceToInt, Int32.toInt_zero] at h3_0; constructor <;> omega
    refine z_iconst (pc := 6) (v := 1) C dX9_isLess_6 (by decide) ?_
    exact z_zret (pc := 7) C hr (z01 (zB.wk (a' := 0) (b' := 1) (zB.of (x := 1) 1 (by decide)) (by decide) (by decide))) dX9_isLess_7 ⟨⟨_, rfl, (zB.wk (a' := 0) (b' := 1) (zB.of (x := 1) 1 (by decide)) (by decide) (by decide))⟩, hI, hF⟩

set_option maxRecDepth 100000 in
set_option maxHeartbeats 4000000 in
theorem w_X9_paper (d : Nat) (f : zM) (a1 : Int32) (b1 : zB a1 (-2147483648) 2147483647) (a2 : Int32) (b2 : zB a2 (-2147483648) 2147483647) (hI : zInv f) : ZM (d + 1) yX9_paper cX9_paper 4 (some .int) [zr 0 0, zi a1, zi a2] f (fun r g => (∃ v, r = some (zi v) ∧ zB v (-2147483648) 2147483647) ∧ zInv g ∧ zFr [] f g) := by
  refine ZM.intro (by decide +kernel) (Nat.le_of_ble_eq_true rfl) ?_
  intro X C hr hn
  have hF : zFr [] f f := zFr.rf _ _
  have J : ∀ t : Nat, (zB a1 0 11 → ∀ m100_3 : Nat, m100_3 < zcnt 11 → ∀ a100_s0 : Int32, zB a100_s0 (-12) 40 → ∀ g : zM, zInv g → zFr [] f g → (1 : Int) < t → Z X 100 [some (zr 0 0), some (zi a1), some (zi a2), some (zr 11 m100_3)] [zi a100_s0] g) ∧ (zB a1 0 11 → ∀ m118_3 : Nat, m118_3 < zcnt 11 → ∀ a118_s0 : Int32, zB a118_s0 (-2147483648) 2147483647 → ∀ g : zM, zInv g → zFr [] f g → (0 : Int) < t → Z X 118 [some (zr 0 0), some (zi a1), some (zi a2), some (zr 11 m118_3)] [zi a118_s0] g) := by
    intro t
    induction t with
    | zero =>
      refine ⟨?_, ?_⟩ <;> (intros; exfalso; omega)
    | succ t ih =>
      obtain ⟨ih0, ih1⟩ := ih
      refine ⟨?_, ?_⟩
      · skip
        intro b100_1 m100_3 h100_3 a100_s0 b100_s0 g100_ hI100_ hF100_ hM100_
        exact z_iret (pc := 100) C hr dX9_paper_100 ⟨⟨_, rfl, (zB.wk (a' := (-2147483648)) (b' := 2147483647) b100_s0 (by decide) (by decide))⟩, hI100_, hF100_⟩
      · skip
        intro b118_1 m118_3 h118_3 a118_s0 b118_s0 g118_ hI118_ hF118_ hM118_
        exact z_iret (pc := 118) C hr dX9_paper_118 ⟨⟨_, rfl, b118_s0⟩, hI118_, hF118_⟩
  obtain ⟨J0, J1⟩ := J 13
  show Z X 0 [some (zr 0 0), some (zi a1), some (zi a2), none] [] f
  refine z_aload_n (pc := 0) C dX9_paper_0 rfl ?_
  refine z_iload_n (pc := 1) C dX9_paper_1 rfl ?_
  refine z_callVb (pc := 2) C zk_X9_153 (m_X9_isPaper _ _ _) rfl rfl (by decide) rfl rfl (Nat.le_of_ble_eq_true rfl) dX9_paper_2 (fun h2_0 => ?_) (fun h2_0 => ?_)
  · skip
    have b2x : zB a1 0 11 := (zltc h2_0 (hI 1 0 7).2)
    refine z_if_ne (pc := 5) 10 C dX9_paper_5 (by decide) (fun _ => ?_) (fun h => absurd h (by decide))
    refine z_aload_n (pc := 10) C dX9_paper_10 rfl ?_
    refine z_getR (pc := 11) C zf_X9_10 rfl rfl (by decide) dX9_paper_11 ?_
    refine z_getR (pc := 14) C zf_X9_90 rfl rfl (by decide) dX9_paper_14 ?_
    refine z_iload_n (pc := 17) C dX9_paper_17 rfl ?_
    refine z_aald (pc := 18) C rfl ⟨rfl, by decide⟩ (by decide) (zIx b2x (by decide) (by decide)) dX9_paper_18 ?_
    refine w_gr (by have hq := zN b2x (by decide); show 12 * 0 + a1.toNatClampNeg < 36; omega) (fun m3 h3x => ?_)
    refine z_astore_n (pc := 19) C dX9_paper_19 (by rw [hn]; decide) rfl ?_
    refine z_iload_n (pc := 20) C dX9_paper_20 rfl ?_
    by_cases hsw0 : a2 = 0
    · skip
      refine z_tabE (pc := 21) hsw0 68 C dX9_paper_21 (by decide) (by decide) rfl (by decide) ?_
      refine z_aload_n (pc := 68) C dX9_paper_68 rfl ?_
      refine z_getI (pc := 69) C zf_X9_156 rfl rfl h3x dX9_paper_69 ?_
      refine w_gb 0 2 (hI 11 _ 0) (fun v4 b4x => ?_)
      exact z_iret (pc := 72) C hr dX9_paper_72 ⟨⟨_, rfl, (zB.wk (a' := (-2147483648)) (b' := 2147483647) b4x (by decide) (by decide))⟩, hI, hF⟩
    · skip
      by_cases hsw1 : a2 = 1
      · skip
        refine z_tabE (pc := 21) hsw1 73 C dX9_paper_21 (by decide) (by decide) rfl (by decide) ?_
        refine z_aload_n (pc := 73) C dX9_paper_73 rfl ?_
        refine z_getI (pc := 74) C zf_X9_159 rfl rfl h3x dX9_paper_74 ?_
        refine w_gb 0 5 (hI 11 _ 1) (fun v5 b5x => ?_)
        exact z_iret (pc := 77) C hr dX9_paper_77 ⟨⟨_, rfl, (zB.wk (a' := (-2147483648)) (b' := 2147483647) b5x (by decide) (by decide))⟩, hI, hF⟩
      · skip
        by_cases hsw2 : a2 = 2
        · skip
          refine z_tabE (pc := 21) hsw2 78 C dX9_paper_21 (by decide) (by decide) rfl (by decide) ?_
          refine z_aload_n (pc := 78) C dX9_paper_78 rfl ?_
          refine z_getI (pc := 79) C zf_X9_162 rfl rfl h3x dX9_paper_79 ?_
          refine w_gb 0 5 (hI 11 _ 2) (fun v6 b6x => ?_)
          exact z_iret (pc := 82) C hr dX9_paper_82 ⟨⟨_, rfl, (zB.wk (a' := (-2147483648)) (b' := 2147483647) b6x (by decide) (by decide))⟩, hI, hF⟩
        · skip
          by_cases hsw3 : a2 = 3
          · skip
            refine z_tabE (pc := 21) hsw3 83 C dX9_paper_21 (by decide) (by decide) rfl (by decide) ?_
            refine z_aload_n (pc := 83) C dX9_paper_83 rfl ?_
            refine z_getI (pc := 84) C zf_X9_156 rfl rfl h3x dX9_paper_84 ?_
            refine w_gb 0 2 (hI 11 _ 0) (fun v7 b7x => ?_)
            refine z_iconst (pc := 87) (v := 2) C dX9_paper_87 (by decide) ?_
            refine z_icmp_ne (pc := 88) 96 C dX9_paper_88 (by decide) (fun h88_7 => ?_) (fun h88_7 => ?_)
            · skip
              have b9x : zB v7 0 1 := by have q1 := b7x; have q2 := (zB.of (x := 2) 2 (by decide)); simp only [z32lt, z32le, z32eq, Int32.reduceToInt, Int32.toInt_zero] at h88_7; constructor <;> omega
              refine z_aload_n (pc := 96) C dX9_paper_96 rfl ?_
              refine z_getI (pc := 97) C zf_X9_165 rfl rfl h3x dX9_paper_97 ?_
              refine w_gb 0 40 (hI 11 _ 3) (fun v10 b10x => ?_)
              exact J0 b2x m3 h3x v10 (zB.wk (a' := (-12)) (b' := 40) b10x (by decide) (by decide)) f hI hF  (by omega)
            · skip
              have b11x : zB v7 2 2 := by have q1 := b7x; have q2 := (zB.of (x := 2) 2 (by decide)); simp only [z32lt, z32le, z32eq, Int32.reduceToInt, Int32.toInt_zero] at h88_7; constructor <;> omega
              refine z_bipush (pc := 91) (v := -12) C dX9_paper_91 (by decide) ?_
              refine z_goto (pc := 93) 100 C dX9_paper_93 (by decide) ?_
              exact J0 b2x m3 h3x (-12) (zB.wk (a' := (-12)) (b' := 40) (zB.of (x := (-12)) (-12) (by decide)) (by decide) (by decide)) f hI hF  (by have qc0 : ((-12) : Int32).toInt = (-12) := (by decide); omega)
          · skip
            by_cases hsw4 : a2 = 4
            · skip
              refine z_tabE (pc := 21) hsw4 101 C dX9_paper_21 (by decide) (by decide) rfl (by decide) ?_
              refine z_aload_n (pc := 101) C dX9_paper_101 rfl ?_
              refine z_getI (pc := 102) C zf_X9_156 rfl rfl h3x dX9_paper_102 ?_
              refine w_gb 0 2 (hI 11 _ 0) (fun v12 b12x => ?_)
              refine z_iconst (pc := 105) (v := 1) C dX9_paper_105 (by decide) ?_
              refine z_icmp_ne (pc := 106) 116 C dX9_paper_106 (by decide) (fun h106_12 => ?_) (fun h106_12 => ?_)
              · skip
                refine z_bipush (pc := 116) (v := -12) C dX9_paper_116 (by decide) ?_
                exact J1 b2x m3 h3x (-12) (zB.wk (a' := (-2147483648)) (b' := 2147483647) (zB.of (x := (-12)) (-12) (by decide)) (by decide) (by decide)) f hI hF  (by have qc0 : ((-12) : Int32).toInt = (-12) := (by decide); omega)
              · skip
                have b14x : zB v12 1 1 := by have q1 := b12x; have q2 := (zB.of (x := 1) 1 (by decide)); simp only [z32lt, z32le, z32eq, Int32.reduceToInt, Int32.toInt_zero] at h106_12; constructor <;> omega
                refine z_aload_n (pc := 109) C dX9_paper_109 rfl ?_
                refine z_getI (pc := 110) C zf_X9_168 rfl rfl h3x dX9_paper_110 ?_
                refine w_gb (-2147483648) 2147483647 (hI 11 _ 4) (fun v15 b15x => ?_)
                refine z_goto (pc := 113) 118 C dX9_paper_113 (by decide) ?_
                exact J1 b2x m3 h3x v15 b15x f hI hF  (by omega)
            · skip
              by_cases hsw5 : a2 = 5
              · skip
                refine z_tabE (pc := 21) hsw5 119 C dX9_paper_21 (by decide) (by decide) rfl (by decide) ?_
                refine z_aload_n (pc := 119) C dX9_paper_119 rfl ?_
                refine z_getI (pc := 120) C zf_X9_170 rfl rfl h3x dX9_paper_120 ?_
                refine w_gb 0 31 (hI 11 _ 5) (fun v16 b16x => ?_)
                exact z_iret (pc := 123) C hr dX9_paper_123 ⟨⟨_, rfl, (zB.wk (a' := (-2147483648)) (b' := 2147483647) b16x (by decide) (by decide))⟩, hI, hF⟩
              · skip
                by_cases hsw6 : a2 = 6
                · skip
                  refine z_tabE (pc := 21) hsw6 124 C dX9_paper_21 (by decide) (by decide) rfl (by decide) ?_
                  refine z_aload_n (pc := 124) C dX9_paper_124 rfl ?_
                  refine z_getI (pc := 125) C zf_X9_173 rfl rfl h3x dX9_paper_125 ?_
                  refine w_gb 0 99 (hI 11 _ 6) (fun v17 b17x => ?_)
                  exact z_iret (pc := 128) C hr dX9_paper_128 ⟨⟨_, rfl, (zB.wk (a' := (-2147483648)) (b' := 2147483647) b17x (by decide) (by decide))⟩, hI, hF⟩
                · skip
                  by_cases hsw7 : a2 = 7
                  · skip
                    refine z_tabE (pc := 21) hsw7 129 C dX9_paper_21 (by decide) (by decide) rfl (by decide) ?_
                    refine z_aload_n (pc := 129) C dX9_paper_129 rfl ?_
                    refine z_getI (pc := 130) C zf_X9_176 rfl rfl h3x dX9_paper_130 ?_
                    refine w_gb 0 7 (hI 11 _ 7) (fun v18 b18x => ?_)
                    exact z_iret (pc := 133) C hr dX9_paper_133 ⟨⟨_, rfl, (zB.wk (a' := (-2147483648)) (b' := 2147483647) b18x (by decide) (by decide))⟩, hI, hF⟩
                  · skip
                    refine z_tabOut (pc := 21) 134 C dX9_paper_21 (by simp only [z32eq, Int32.reduceToInt, Int32.toInt_zero, Int32.toInt_one] at *; omega) (by decide) ?_
                    refine z_iconst (pc := 134) (v := -1) C dX9_paper_134 (by decide) ?_
                    exact z_iret (pc := 135) C hr dX9_paper_135 ⟨⟨_, rfl, (zB.wk (a' := (-2147483648)) (b' := 2147483647) (zB.of (x := (-1)) (-1) (by decide)) (by decide) (by decide))⟩, hI, hF⟩
  · skip
    refine z_if_ne (pc := 5) 10 C dX9_paper_5 (by decide) (fun h => absurd (by decide) h) (fun _ => ?_)
    refine z_iconst (pc := 8) (v := -1) C dX9_paper_8 (by decide) ?_
    exact z_iret (pc := 9) C hr dX9_paper_9 ⟨⟨_, rfl, (zB.wk (a' := (-2147483648)) (b' := 2147483647) (zB.of (x := (-1)) (-1) (by decide)) (by decide) (by decide))⟩, hI, hF⟩

set_option maxRecDepth 100000 in
set_option maxHeartbeats 4000000 in
theorem w_X9_count (d : Nat) (f : zM) (a1 : Int32) (b1 : zB a1 (-2147483648) 2147483647) (hI : zInv f) : ZM d yX9_count cX9_count 2 (some .int) [zr 0 0, zi a1] f (fun r g => (∃ v, r = some (zi v) ∧ zB v (-2147483648) 2147483647) ∧ zInv g ∧ zFr [] f g) := by
  refine ZM.intro (by decide +kernel) (Nat.le_of_ble_eq_true rfl) ?_
  intro X C hr hn
  have hF : zFr [] f f := zFr.rf _ _
  show Z X 0 [some (zr 0 0), some (zi a1)] [] f
  refine z_iload_n (pc := 0) C dX9_count_0 rfl ?_
  by_cases hsw0 : a1 = 0
  · skip
    refine z_tabE (pc := 1) hsw0 36 C dX9_count_1 (by decide) (by decide) rfl (by decide) ?_
    refine z_aload_n (pc := 36) C dX9_count_36 rfl ?_
    refine z_getR (pc := 37) C zf_X9_10 rfl rfl (by decide) dX9_count_37 ?_
    refine z_getI (pc := 40) C zf_X9_50 rfl rfl (by decide) dX9_count_40 ?_
    refine w_gb 0 24 (hI 1 _ 5) (fun v1 b1x => ?_)
    exact z_iret (pc := 43) C hr dX9_count_43 ⟨⟨_, rfl, (zB.wk (a' := (-2147483648)) (b' := 2147483647) b1x (by decide) (by decide))⟩, hI, hF⟩
  · skip
    by_cases hsw1 : a1 = 1
    · skip
      refine z_tabE (pc := 1) hsw1 44 C dX9_count_1 (by decide) (by decide) rfl (by decide) ?_
      refine z_aload_n (pc := 44) C dX9_count_44 rfl ?_
      refine z_getR (pc := 45) C zf_X9_10 rfl rfl (by decide) dX9_count_45 ?_
      refine z_getI (pc := 48) C zf_X9_71 rfl rfl (by decide) dX9_count_48 ?_
      refine w_gb 0 8 (hI 1 _ 6) (fun v2 b2x => ?_)
      exact z_iret (pc := 51) C hr dX9_count_51 ⟨⟨_, rfl, (zB.wk (a' := (-2147483648)) (b' := 2147483647) b2x (by decide) (by decide))⟩, hI, hF⟩
    · skip
      by_cases hsw2 : a1 = 2
      · skip
        refine z_tabE (pc := 1) hsw2 52 C dX9_count_1 (by decide) (by decide) rfl (by decide) ?_
        refine z_aload_n (pc := 52) C dX9_count_52 rfl ?_
        refine z_getR (pc := 53) C zf_X9_10 rfl rfl (by decide) dX9_count_53 ?_
        refine z_getI (pc := 56) C zf_X9_119 rfl rfl (by decide) dX9_count_56 ?_
        refine w_gb 0 12 (hI 1 _ 7) (fun v3 b3x => ?_)
        exact z_iret (pc := 59) C hr dX9_count_59 ⟨⟨_, rfl, (zB.wk (a' := (-2147483648)) (b' := 2147483647) b3x (by decide) (by decide))⟩, hI, hF⟩
      · skip
        by_cases hsw3 : a1 = 3
        · skip
          refine z_tabE (pc := 1) hsw3 60 C dX9_count_1 (by decide) (by decide) rfl (by decide) ?_
          refine z_aload_n (pc := 60) C dX9_count_60 rfl ?_
          refine z_getR (pc := 61) C zf_X9_10 rfl rfl (by decide) dX9_count_61 ?_
          refine z_getI (pc := 64) C zf_X9_217 rfl rfl (by decide) dX9_count_64 ?_
          refine w_gb 0 8 (hI 1 _ 8) (fun v4 b4x => ?_)
          exact z_iret (pc := 67) C hr dX9_count_67 ⟨⟨_, rfl, (zB.wk (a' := (-2147483648)) (b' := 2147483647) b4x (by decide) (by decide))⟩, hI, hF⟩
        · skip
          by_cases hsw4 : a1 = 4
          · skip
            refine z_tabE (pc := 1) hsw4 68 C dX9_count_1 (by decide) (by decide) rfl (by decide) ?_
            refine z_aload_n (pc := 68) C dX9_count_68 rfl ?_
            refine z_getR (pc := 69) C zf_X9_10 rfl rfl (by decide) dX9_count_69 ?_
            refine z_getR (pc := 72) C zf_X9_220 rfl rfl (by decide) dX9_count_72 ?_
            refine z_getI (pc := 75) C zf_X9_224 rfl rfl (by decide) dX9_count_75 ?_
            refine w_gb (-2147483648) 2147483647 (hI 6 _ 3) (fun v5 b5x => ?_)
            exact z_iret (pc := 78) C hr dX9_count_78 ⟨⟨_, rfl, b5x⟩, hI, hF⟩
          · skip
            refine z_tabOut (pc := 1) 79 C dX9_count_1 (by simp only [z32eq, Int32.reduceToInt, Int32.toInt_zero, Int32.toInt_one] at *; omega) (by decide) ?_
            refine z_iconst (pc := 79) (v := -1) C dX9_count_79 (by decide) ?_
            exact z_iret (pc := 80) C hr dX9_count_80 ⟨⟨_, rfl, (zB.wk (a' := (-2147483648)) (b' := 2147483647) (zB.of (x := (-1)) (-1) (by decide)) (by decide) (by decide))⟩, hI, hF⟩

set_option maxRecDepth 100000 in
set_option maxHeartbeats 4000000 in
theorem w_X9_man (d : Nat) (f : zM) (a1 : Int32) (b1 : zB a1 (-2147483648) 2147483647) (a2 : Int32) (b2 : zB a2 (-2147483648) 2147483647) (hI : zInv f) : ZM (d + 1) yX9_man cX9_man 4 (some .int) [zr 0 0, zi a1, zi a2] f (fun r g => (∃ v, r = some (zi v) ∧ zB v (-1) 99) ∧ zInv g ∧ zFr [(6, some 0), (6, some 1), (6, some 2), (6, some 4), (6, some 5), (6, some 6)] f g) := by
  refine ZM.intro (by decide +kernel) (Nat.le_of_ble_eq_true rfl) ?_
  intro X C hr hn
  have hF : zFr [(6, some 0), (6, some 1), (6, some 2), (6, some 4), (6, some 5), (6, some 6)] f f := zFr.rf _ _
  have J : ∀ t : Nat, (∀ g : zM, zInv g → zFr [(6, some 0), (6, some 1), (6, some 2), (6, some 4), (6, some 5), (6, some 6)] f g → (3 : Int) < t → Z X 36 [some (zr 0 0), some (zi a1), some (zi a2), none] [] g) ∧ (∀ g : zM, zInv g → zFr [(6, some 0), (6, some 1), (6, some 2), (6, some 4), (6, some 5), (6, some 6)] f g → (2 : Int) < t → Z X 73 [some (zr 0 0), some (zi a1), some (zi a2), none] [] g) ∧ (∀ g : zM, zInv g → zFr [(6, some 0), (6, some 1), (6, some 2), (6, some 4), (6, some 5), (6, some 6)] f g → (1 : Int) < t → Z X 110 [some (zr 0 0), some (zi a1), some (zi a2), none] [] g) ∧ (∀ a112_3 : Int32, zB a112_3 (-1) 99 → ∀ g : zM, zInv g → zFr [(6, some 0), (6, some 1), (6, some 2), (6, some 4), (6, some 5), (6, some 6)] f g → (0 : Int) < t → Z X 112 [some (zr 0 0), some (zi a1), some (zi a2), some (zi a112_3)] [] g) := by
    intro t
    induction t with
    | zero =>
      refine ⟨?_, ?_, ?_, ?_⟩ <;> (intros; exfalso; omega)
    | succ t ih =>
      obtain ⟨ih0, ih1, ih2, ih3⟩ := ih
      refine ⟨?_, ?_, ?_, ?_⟩
      · skip
        intro g36_ hI36_ hF36_ hM36_
        refine z_iload_n (pc := 36) C dX9_man_36 rfl ?_
        refine z_iconst (pc := 37) (v := 1) C dX9_man_37 (by decide) ?_
        refine z_icmp_ne (pc := 38) 73 C dX9_man_38 (by decide) (fun h38_0 => ?_) (fun h38_0 => ?_)
        · skip
          exact ih1  g36_ hI36_ hF36_  (by omega)
        · skip
          have b2x : zB a1 1 1 := by have q1 := b1; have q2 := (zB.of (x := 1) 1 (by decide)); simp only [z32lt, z32le, z32eq, Int32.reduceToInt, Int32.toInt_zero] at h38_0; constructor <;> omega
          refine z_iload_n (pc := 41) C dX9_man_41 rfl ?_
          refine z_callSb (pc := 42) C zk_X9_46 (m_X9_isLand _ _ _) rfl rfl (Nat.le_of_ble_eq_true rfl) dX9_man_42 (fun h42_2 => ?_) (fun h42_2 => ?_)
          · skip
            have b4x : zB a2 0 5 := h42_2
            refine z_if_eq (pc := 45) 73 C dX9_man_45 (by decide) (fun h => absurd h (by decide)) (fun _ => ?_)
            refine z_aload_n (pc := 48) C dX9_man_48 rfl ?_
            refine z_getR (pc := 49) C zf_X9_10 rfl rfl (by decide) dX9_man_49 ?_
            refine z_getR (pc := 52) C zf_X9_220 rfl rfl (by decide) dX9_man_52 ?_
            refine z_getI (pc := 55) C zf_X9_232 rfl rfl (by decide) dX9_man_55 ?_
            refine w_gb 0 5 (hI36_ 6 _ 1) (fun v5 b5x => ?_)
            refine z_istore_n (pc := 58) C dX9_man_58 (by rw [hn]; decide) rfl ?_
            refine z_aload_n (pc := 59) C dX9_man_59 rfl ?_
            refine z_getR (pc := 60) C zf_X9_10 rfl rfl (by decide) dX9_man_60 ?_
            refine z_getR (pc := 63) C zf_X9_220 rfl rfl (by decide) dX9_man_63 ?_
            refine z_iload_n (pc := 66) C dX9_man_66 rfl ?_
            refine z_callV (pc := 67) C zk_X9_235 (w_X3_sit _ _ 0 (by decide) a2 b4x hI36_) rfl rfl (by decide) rfl rfl (Nat.le_of_ble_eq_true rfl) dX9_man_67 (fun r6 g6 q6 => ?_)
            obtain ⟨rfl, hI6, hF6q⟩ := q6
            have hF6 := zFr.tr hF36_ hF6q (by decide)
            simp only [Option.toList, List.cons_append, List.nil_append]
            refine z_goto (pc := 70) 112 C dX9_man_70 (by decide) ?_
            exact ih3 v5 (zB.wk (a' := (-1)) (b' := 99) b5x (by decide) (by decide)) g6 hI6 hF6  (by omega)
          · skip
            refine z_if_eq (pc := 45) 73 C dX9_man_45 (by decide) (fun _ => ?_) (fun h => absurd (by decide) h)
            exact ih1  g36_ hI36_ hF36_  (by omega)
      · skip
        intro g73_ hI73_ hF73_ hM73_
        refine z_iload_n (pc := 73) C dX9_man_73 rfl ?_
        refine z_iconst (pc := 74) (v := 2) C dX9_man_74 (by decide) ?_
        refine z_icmp_ne (pc := 75) 110 C dX9_man_75 (by decide) (fun h75_6 => ?_) (fun h75_6 => ?_)
        · skip
          exact ih2  g73_ hI73_ hF73_  (by omega)
        · skip
          have b8x : zB a1 2 2 := by have q1 := b1; have q2 := (zB.of (x := 2) 2 (by decide)); simp only [z32lt, z32le, z32eq, Int32.reduceToInt, Int32.toInt_zero] at h75_6; constructor <;> omega
          refine z_iload_n (pc := 78) C dX9_man_78 rfl ?_
          refine z_callSb (pc := 79) C zk_X9_68 (m_X9_isYear _ _ _) rfl rfl (Nat.le_of_ble_eq_true rfl) dX9_man_79 (fun h79_8 => ?_) (fun h79_8 => ?_)
          · skip
            have b10x : zB a2 0 99 := h79_8
            refine z_if_eq (pc := 82) 110 C dX9_man_82 (by decide) (fun h => absurd h (by decide)) (fun _ => ?_)
            refine z_aload_n (pc := 85) C dX9_man_85 rfl ?_
            refine z_getR (pc := 86) C zf_X9_10 rfl rfl (by decide) dX9_man_86 ?_
            refine z_getR (pc := 89) C zf_X9_220 rfl rfl (by decide) dX9_man_89 ?_
            refine z_getI (pc := 92) C zf_X9_238 rfl rfl (by decide) dX9_man_92 ?_
            refine w_gb 0 99 (hI73_ 6 _ 2) (fun v11 b11x => ?_)
            refine z_istore_n (pc := 95) C dX9_man_95 (by rw [hn]; decide) rfl ?_
            refine z_aload_n (pc := 96) C dX9_man_96 rfl ?_
            refine z_getR (pc := 97) C zf_X9_10 rfl rfl (by decide) dX9_man_97 ?_
            refine z_getR (pc := 100) C zf_X9_220 rfl rfl (by decide) dX9_man_100 ?_
            refine z_iload_n (pc := 103) C dX9_man_103 rfl ?_
            refine z_putI (pc := 104) C zf_X9_238 zp_3_2 rfl rfl (by decide) dX9_man_104 ?_
            refine w_mem hI73_ hF73_ b10x rfl (fun g12 hI12 hF12 => ?_)
            refine z_goto (pc := 107) 112 C dX9_man_107 (by decide) ?_
            exact ih3 v11 (zB.wk (a' := (-1)) (b' := 99) b11x (by decide) (by decide)) g12 hI12 hF12  (by omega)
          · skip
            refine z_if_eq (pc := 82) 110 C dX9_man_82 (by decide) (fun _ => ?_) (fun h => absurd (by decide) h)
            exact ih2  g73_ hI73_ hF73_  (by omega)
      · skip
        intro g110_ hI110_ hF110_ hM110_
        refine z_iconst (pc := 110) (v := -1) C dX9_man_110 (by decide) ?_
        refine z_istore_n (pc := 111) C dX9_man_111 (by rw [hn]; decide) rfl ?_
        exact ih3 (-1) (zB.wk (a' := (-1)) (b' := 99) (zB.of (x := (-1)) (-1) (by decide)) (by decide) (by decide)) g110_ hI110_ hF110_  (by have qc0 : ((-1) : Int32).toInt = (-1) := (by decide); omega)
      · skip
        intro a112_3 b112_3 g112_ hI112_ hF112_ hM112_
        refine z_iload_n (pc := 112) C dX9_man_112 rfl ?_
        exact z_iret (pc := 113) C hr dX9_man_113 ⟨⟨_, rfl, b112_3⟩, hI112_, hF112_⟩
  obtain ⟨J0, J1, J2, J3⟩ := J 15
  show Z X 0 [some (zr 0 0), some (zi a1), some (zi a2), none] [] f
  refine z_iload_n (pc := 0) C dX9_man_0 rfl ?_
  refine z_if_ne (pc := 1) 36 C dX9_man_1 (by decide) (fun h1_12 => ?_) (fun h1_12 => ?_)
  · skip
    exact J0  f hI hF  (by omega)
  · skip
    have b14x : zB a1 0 0 := by have q1 := b1; have q2 := (zB.of (x := 0) 0 (by decide)); simp only [z32lt, z32le, z32eq, Int32.reduceToInt, Int32.toInt_zero] at h1_12; constructor <;> omega
    refine z_iload_n (pc := 4) C dX9_man_4 rfl ?_
    refine z_callSb (pc := 5) C zk_X9_46 (m_X9_isLand _ _ _) rfl rfl (Nat.le_of_ble_eq_true rfl) dX9_man_5 (fun h5_14 => ?_) (fun h5_14 => ?_)
    · skip
      have b16x : zB a2 0 5 := h5_14
      refine z_if_eq (pc := 8) 36 C dX9_man_8 (by decide) (fun h => absurd h (by decide)) (fun _ => ?_)
      refine z_aload_n (pc := 11) C dX9_man_11 rfl ?_
      refine z_getR (pc := 12) C zf_X9_10 rfl rfl (by decide) dX9_man_12 ?_
      refine z_getR (pc := 15) C zf_X9_220 rfl rfl (by decide) dX9_man_15 ?_
      refine z_getI (pc := 18) C zf_X9_229 rfl rfl (by decide) dX9_man_18 ?_
      refine w_gb 0 5 (hI 6 _ 0) (fun v17 b17x => ?_)
      refine z_istore_n (pc := 21) C dX9_man_21 (by rw [hn]; decide) rfl ?_
      refine z_aload_n (pc := 22) C dX9_man_22 rfl ?_
      refine z_getR (pc := 23) C zf_X9_10 rfl rfl (by decide) dX9_man_23 ?_
      refine z_getR (pc := 26) C zf_X9_220 rfl rfl (by decide) dX9_man_26 ?_
      refine z_iload_n (pc := 29) C dX9_man_29 rfl ?_
      refine z_putI (pc := 30) C zf_X9_229 zp_3_0 rfl rfl (by decide) dX9_man_30 ?_
      refine w_mem hI hF b16x rfl (fun g18 hI18 hF18 => ?_)
      refine z_goto (pc := 33) 112 C dX9_man_33 (by decide) ?_
      exact J3 v17 (zB.wk (a' := (-1)) (b' := 99) b17x (by decide) (by decide)) g18 hI18 hF18  (by omega)
    · skip
      refine z_if_eq (pc := 8) 36 C dX9_man_8 (by decide) (fun _ => ?_) (fun h => absurd (by decide) h)
      exact J0  f hI hF  (by omega)

set_option maxRecDepth 100000 in
set_option maxHeartbeats 4000000 in
theorem w_X9_bound (d : Nat) (f : zM) (a1 : Int32) (b1 : zB a1 (-2147483648) 2147483647) (hI : zInv f) : ZM (d + 1) yX9_bound cX9_bound 2 (some .int) [zr 0 0, zi a1] f (fun r g => (∃ v, r = some (zi v) ∧ zB v (-4) 255) ∧ zInv g ∧ zFr [] f g) := by
  refine ZM.intro (by decide +kernel) (Nat.le_of_ble_eq_true rfl) ?_
  intro X C hr hn
  have hF : zFr [] f f := zFr.rf _ _
  have J : ∀ t : Nat, (∀ a50_s0 : Int32, zB a50_s0 0 1 → ∀ g : zM, zInv g → zFr [] f g → (0 : Int) < t → Z X 50 [some (zr 0 0), some (zi a1)] [zi a50_s0] g) := by
    intro t
    induction t with
    | zero =>
      intros; exfalso; omega
    | succ t ih =>
      have ih0 := ih
      intro a50_s0 b50_s0 g50_ hI50_ hF50_ hM50_
      exact z_iret (pc := 50) C hr dX9_bound_50 ⟨⟨_, rfl, (zB.wk (a' := (-4)) (b' := 255) b50_s0 (by decide) (by decide))⟩, hI50_, hF50_⟩
  have J0 := J 12
  show Z X 0 [some (zr 0 0), some (zi a1)] [] f
  refine z_iload_n (pc := 0) C dX9_bound_0 rfl ?_
  by_cases hsw0 : a1 = 0
  · skip
    refine z_tabE (pc := 1) hsw0 32 C dX9_bound_1 (by decide) (by decide) rfl (by decide) ?_
    refine z_aload_n (pc := 32) C dX9_bound_32 rfl ?_
    refine z_getR (pc := 33) C zf_X9_10 rfl rfl (by decide) dX9_bound_33 ?_
    refine z_getR (pc := 36) C zf_X9_220 rfl rfl (by decide) dX9_bound_36 ?_
    refine z_getI (pc := 39) C zf_X9_244 rfl rfl (by decide) dX9_bound_39 ?_
    refine w_gb 0 1 (hI 6 _ 4) (fun v1 b1x => ?_)
    refine z_if_eq (pc := 42) 49 C dX9_bound_42 (by decide) (fun h42_1 => ?_) (fun h42_1 => ?_)
    · skip
      have b3x : zB v1 0 0 := by have q1 := b1x; have q2 := (zB.of (x := 0) 0 (by decide)); simp only [z32lt, z32le, z32eq, Int32.reduceToInt, Int32.toInt_zero] at h42_1; constructor <;> omega
      refine z_iconst (pc := 49) (v := 0) C dX9_bound_49 (by decide) ?_
      exact J0 0 (zB.wk (a' := 0) (b' := 1) (zB.of (x := 0) 0 (by decide)) (by decide) (by decide)) f hI hF  (by have qc0 : (0 : Int32).toInt = 0 := (by decide); omega)
    · skip
      have b4x : zB v1 1 1 := by have q1 := b1x; have q2 := (zB.of (x := 0) 0 (by decide)); simp only [z32lt, z32le, z32eq, Int32.reduceToInt, Int32.toInt_zero] at h42_1; constructor <;> omega
      refine z_iconst (pc := 45) (v := 1) C dX9_bound_45 (by decide) ?_
      refine z_goto (pc := 46) 50 C dX9_bound_46 (by decide) ?_
      exact J0 1 (zB.wk (a' := 0) (b' := 1) (zB.of (x := 1) 1 (by decide)) (by decide) (by decide)) f hI hF  (by have qc0 : (1 : Int32).toInt = 1 := (by decide); omega)
  · skip
    by_cases hsw1 : a1 = 1
    · skip
      refine z_tabE (pc := 1) hsw1 51 C dX9_bound_1 (by decide) (by decide) rfl (by decide) ?_
      refine z_aload_n (pc := 51) C dX9_bound_51 rfl ?_
      refine z_getR (pc := 52) C zf_X9_10 rfl rfl (by decide) dX9_bound_52 ?_
      refine z_getR (pc := 55) C zf_X9_220 rfl rfl (by decide) dX9_bound_55 ?_
      refine z_getI (pc := 58) C zf_X9_247 rfl rfl (by decide) dX9_bound_58 ?_
      refine w_gb (-4) 5 (hI 6 _ 5) (fun v5 b5x => ?_)
      exact z_iret (pc := 61) C hr dX9_bound_61 ⟨⟨_, rfl, (zB.wk (a' := (-4)) (b' := 255) b5x (by decide) (by decide))⟩, hI, hF⟩
    · skip
      by_cases hsw2 : a1 = 2
      · skip
        refine z_tabE (pc := 1) hsw2 62 C dX9_bound_1 (by decide) (by decide) rfl (by decide) ?_
        refine z_aload_n (pc := 62) C dX9_bound_62 rfl ?_
        refine z_getR (pc := 63) C zf_X9_10 rfl rfl (by decide) dX9_bound_63 ?_
        refine z_getR (pc := 66) C zf_X9_220 rfl rfl (by decide) dX9_bound_66 ?_
        refine z_getI (pc := 69) C zf_X9_250 rfl rfl (by decide) dX9_bound_69 ?_
        refine w_gb 0 255 (hI 6 _ 6) (fun v6 b6x => ?_)
        refine z_aload_n (pc := 72) C dX9_bound_72 rfl ?_
        refine z_getR (pc := 73) C zf_X9_10 rfl rfl (by decide) dX9_bound_73 ?_
        refine z_callV (pc := 76) C zk_X9_252 (w_X8_allDeeds _ _  hI) rfl rfl (by decide) rfl rfl (Nat.le_of_ble_eq_true rfl) dX9_bound_76 (fun r7 g7 q7 => ?_)
        obtain ⟨⟨v7, rfl, b7x⟩, hI7, hF7q⟩ := q7
        obtain rfl := zFr_nil hF7q
        simp only [Option.toList, List.cons_append, List.nil_append]
        refine z_iand (pc := 79) C dX9_bound_79 ?_
        refine w_gb 0 255 (zand_bl b6x b7x (by decide)) (fun v8 b8x => ?_)
        exact z_iret (pc := 80) C hr dX9_bound_80 ⟨⟨_, rfl, (zB.wk (a' := (-4)) (b' := 255) b8x (by decide) (by decide))⟩, hI, hF⟩
      · skip
        by_cases hsw3 : a1 = 3
        · skip
          refine z_tabE (pc := 1) hsw3 81 C dX9_bound_1 (by decide) (by decide) rfl (by decide) ?_
          refine z_aload_n (pc := 81) C dX9_bound_81 rfl ?_
          refine z_getR (pc := 82) C zf_X9_10 rfl rfl (by decide) dX9_bound_82 ?_
          refine z_getR (pc := 85) C zf_X9_220 rfl rfl (by decide) dX9_bound_85 ?_
          refine z_getI (pc := 88) C zf_X9_232 rfl rfl (by decide) dX9_bound_88 ?_
          refine w_gb 0 5 (hI 6 _ 1) (fun v9 b9x => ?_)
          exact z_iret (pc := 91) C hr dX9_bound_91 ⟨⟨_, rfl, (zB.wk (a' := (-4)) (b' := 255) b9x (by decide) (by decide))⟩, hI, hF⟩
        · skip
          refine z_tabOut (pc := 1) 92 C dX9_bound_1 (by simp only [z32eq, Int32.reduceToInt, Int32.toInt_zero, Int32.toInt_one] at *; omega) (by decide) ?_
          refine z_iconst (pc := 92) (v := -1) C dX9_bound_92 (by decide) ?_
          exact z_iret (pc := 93) C hr dX9_bound_93 ⟨⟨_, rfl, (zB.wk (a' := (-4)) (b' := 255) (zB.of (x := (-1)) (-1) (by decide)) (by decide) (by decide))⟩, hI, hF⟩

set_option maxRecDepth 100000 in
set_option maxHeartbeats 4000000 in
theorem w_X9_lets (d : Nat) (f : zM) (a1 : Int32) (b1 : zB a1 (-2147483648) 2147483647) (hI : zInv f) : ZM (d + 3) yX9_lets cX9_lets 3 (some .int) [zr 0 0, zi a1] f (fun r g => (∃ v, r = some (zi v) ∧ zB v (-2) 255) ∧ zInv g ∧ zFr [(11, some 8), (11, some 9)] f g ∧ (∀ v : Int32, r = some (zi v) → (0 ≤ v.toInt → 0 ≤ a1.toInt ∧ a1.toInt ≤ 11))) := by
  refine ZM.intro (by decide +kernel) (Nat.le_of_ble_eq_true rfl) ?_
  intro X C hr hn
  have hF : zFr [(11, some 8), (11, some 9)] f f := zFr.rf _ _
  show Z X 0 [some (zr 0 0), some (zi a1), none] [] f
  refine z_aload_n (pc := 0) C dX9_lets_0 rfl ?_
  refine z_iload_n (pc := 1) C dX9_lets_1 rfl ?_
  refine z_callVb (pc := 2) C zk_X9_153 (m_X9_isPaper _ _ _) rfl rfl (by decide) rfl rfl (Nat.le_of_ble_eq_true rfl) dX9_lets_2 (fun h2_0 => ?_) (fun h2_0 => ?_)
  · skip
    have b2x : zB a1 0 11 := (zltc h2_0 (hI 1 0 7).2)
    refine z_if_ne (pc := 5) 10 C dX9_lets_5 (by decide) (fun _ => ?_) (fun h => absurd h (by decide))
    refine z_aload_n (pc := 10) C dX9_lets_10 rfl ?_
    refine z_getR (pc := 11) C zf_X9_10 rfl rfl (by decide) dX9_lets_11 ?_
    refine z_getR (pc := 14) C zf_X9_90 rfl rfl (by decide) dX9_lets_14 ?_
    refine z_iload_n (pc := 17) C dX9_lets_17 rfl ?_
    refine z_aald (pc := 18) C rfl ⟨rfl, by decide⟩ (by decide) (zIx b2x (by decide) (by decide)) dX9_lets_18 ?_
    refine w_gr (by have hq := zN b2x (by decide); show 12 * 0 + a1.toNatClampNeg < 36; omega) (fun m3 h3x => ?_)
    refine z_astore_n (pc := 19) C dX9_lets_19 (by rw [hn]; decide) rfl ?_
    refine z_aload_n (pc := 20) C dX9_lets_20 rfl ?_
    refine z_getI (pc := 21) C zf_X9_159 rfl rfl h3x dX9_lets_21 ?_
    refine w_gb 0 5 (hI 11 _ 1) (fun v4 b4x => ?_)
    refine z_aload_n (pc := 24) C dX9_lets_24 rfl ?_
    refine z_getR (pc := 25) C zf_X9_10 rfl rfl (by decide) dX9_lets_25 ?_
    refine z_getR (pc := 28) C zf_X9_220 rfl rfl (by decide) dX9_lets_28 ?_
    refine z_getI (pc := 31) C zf_X9_232 rfl rfl (by decide) dX9_lets_31 ?_
    refine w_gb 0 5 (hI 6 _ 1) (fun v5 b5x => ?_)
    refine z_icmp_eq (pc := 34) 40 C dX9_lets_34 (by decide) (fun h34_5 => ?_) (fun h34_5 => ?_)
    · skip
      refine z_aload_n (pc := 40) C dX9_lets_40 rfl ?_
      refine z_getR (pc := 41) C zf_X9_10 rfl rfl (by decide) dX9_lets_41 ?_
      refine z_aload_n (pc := 44) C dX9_lets_44 rfl ?_
      refine z_callV (pc := 45) C zk_X9_259 (w_X8_weigh _ _ m3 h3x hI) rfl rfl (by decide) rfl rfl (Nat.le_of_ble_eq_true rfl) dX9_lets_45 (fun r7 g7 q7 => ?_)
      obtain ⟨rfl, hI7, hF7q⟩ := q7
      have hF7 := zFr.tr hF hF7q (by decide)
      simp only [Option.toList, List.cons_append, List.nil_append]
      refine z_aload_n (pc := 48) C dX9_lets_48 rfl ?_
      refine z_getR (pc := 49) C zf_X9_10 rfl rfl (by decide) dX9_lets_49 ?_
      refine z_getR (pc := 52) C zf_X9_220 rfl rfl (by decide) dX9_lets_52 ?_
      refine z_aload_n (pc := 55) C dX9_lets_55 rfl ?_
      refine z_callV (pc := 56) C zk_X9_262 (w_X3_goesBy _ _ 0 (by decide) m3 h3x hI7) rfl rfl (by decide) rfl rfl (Nat.le_of_ble_eq_true rfl) dX9_lets_56 (fun r8 g8 q8 => ?_)
      obtain ⟨⟨v8, rfl, b8x⟩, hI8, hF8q⟩ := q8
      obtain rfl := zFr_nil hF8q
      simp only [Option.toList, List.cons_append, List.nil_append]
      exact z_iret (pc := 59) C hr dX9_lets_59 ⟨⟨_, rfl, (zB.wk (a' := (-2)) (b' := 255) b8x (by decide) (by decide))⟩, hI7, hF7, (by intro v hv; cases hv; omega)⟩
    · skip
      refine z_bipush (pc := 37) (v := -2) C dX9_lets_37 (by decide) ?_
      exact z_iret (pc := 39) C hr dX9_lets_39 ⟨⟨_, rfl, (zB.wk (a' := (-2)) (b' := 255) (zB.of (x := (-2)) (-2) (by decide)) (by decide) (by decide))⟩, hI, hF, (by intro v hv; cases hv; have qc0 : ((-2) : Int32).toInt = (-2) := (by decide); omega)⟩
  · skip
    refine z_if_ne (pc := 5) 10 C dX9_lets_5 (by decide) (fun h => absurd (by decide) h) (fun _ => ?_)
    refine z_iconst (pc := 8) (v := -1) C dX9_lets_8 (by decide) ?_
    exact z_iret (pc := 9) C hr dX9_lets_9 ⟨⟨_, rfl, (zB.wk (a' := (-2)) (b' := 255) (zB.of (x := (-1)) (-1) (by decide)) (by decide) (by decide))⟩, hI, hF, (by intro v hv; cases hv; have qc0 : ((-1) : Int32).toInt = (-1) := (by decide); omega)⟩

set_option maxRecDepth 100000 in
set_option maxHeartbeats 4000000 in
theorem w_X9_barred (d : Nat) (f : zM) (a1 : Int32) (b1 : zB a1 (-2147483648) 2147483647) (a2 : Int32) (b2 : zB a2 (-2147483648) 2147483647) (hI : zInv f) : ZM (d + 2) yX9_barred cX9_barred 3 (some .int) [zr 0 0, zi a1, zi a2] f (fun r g => (∃ v, r = some (zi v) ∧ zB v (-1) 63) ∧ zInv g ∧ zFr [] f g) := by
  refine ZM.intro (by decide +kernel) (Nat.le_of_ble_eq_true rfl) ?_
  intro X C hr hn
  have hF : zFr [] f f := zFr.rf _ _
  have J : ∀ t : Nat, (∀ g : zM, zInv g → zFr [] f g → (1 : Int) < t → Z X 44 [some (zr 0 0), some (zi a1), some (zi a2)] [] g) ∧ (∀ a45_s0 : Int32, zB a45_s0 (-1) 63 → ∀ g : zM, zInv g → zFr [] f g → (0 : Int) < t → Z X 45 [some (zr 0 0), some (zi a1), some (zi a2)] [zi a45_s0] g) := by
    intro t
    induction t with
    | zero =>
      refine ⟨?_, ?_⟩ <;> (intros; exfalso; omega)
    | succ t ih =>
      obtain ⟨ih0, ih1⟩ := ih
      refine ⟨?_, ?_⟩
      · skip
        intro g44_ hI44_ hF44_ hM44_
        refine z_iconst (pc := 44) (v := -1) C dX9_barred_44 (by decide) ?_
        exact ih1 (-1) (zB.wk (a' := (-1)) (b' := 63) (zB.of (x := (-1)) (-1) (by decide)) (by decide) (by decide)) g44_ hI44_ hF44_  (by have qc0 : ((-1) : Int32).toInt = (-1) := (by decide); omega)
      · skip
        intro a45_s0 b45_s0 g45_ hI45_ hF45_ hM45_
        exact z_iret (pc := 45) C hr dX9_barred_45 ⟨⟨_, rfl, b45_s0⟩, hI45_, hF45_⟩
  obtain ⟨J0, J1⟩ := J 13
  show Z X 0 [some (zr 0 0), some (zi a1), some (zi a2)] [] f
  refine z_aload_n (pc := 0) C dX9_barred_0 rfl ?_
  refine z_iload_n (pc := 1) C dX9_barred_1 rfl ?_
  refine z_callVb (pc := 2) C zk_X9_153 (m_X9_isPaper _ _ _) rfl rfl (by decide) rfl rfl (Nat.le_of_ble_eq_true rfl) dX9_barred_2 (fun h2_0 => ?_) (fun h2_0 => ?_)
  · skip
    have b2x : zB a1 0 11 := (zltc h2_0 (hI 1 0 7).2)
    refine z_if_eq (pc := 5) 44 C dX9_barred_5 (by decide) (fun h => absurd h (by decide)) (fun _ => ?_)
    refine z_aload_n (pc := 8) C dX9_barred_8 rfl ?_
    refine z_iload_n (pc := 9) C dX9_barred_9 rfl ?_
    refine z_callVb (pc := 10) C zk_X9_179 (m_X9_isDeed _ _ _) rfl rfl (by decide) rfl rfl (Nat.le_of_ble_eq_true rfl) dX9_barred_10 (fun h10_2 => ?_) (fun h10_2 => ?_)
    · skip
      have b4x : zB a2 0 7 := (zltc h10_2 (hI 1 0 6).2)
      refine z_if_eq (pc := 13) 44 C dX9_barred_13 (by decide) (fun h => absurd h (by decide)) (fun _ => ?_)
      refine z_aload_n (pc := 16) C dX9_barred_16 rfl ?_
      refine z_getR (pc := 17) C zf_X9_10 rfl rfl (by decide) dX9_barred_17 ?_
      refine z_aload_n (pc := 20) C dX9_barred_20 rfl ?_
      refine z_getR (pc := 21) C zf_X9_10 rfl rfl (by decide) dX9_barred_21 ?_
      refine z_getR (pc := 24) C zf_X9_90 rfl rfl (by decide) dX9_barred_24 ?_
      refine z_iload_n (pc := 27) C dX9_barred_27 rfl ?_
      refine z_aald (pc := 28) C rfl ⟨rfl, by decide⟩ (by decide) (zIx b2x (by decide) (by decide)) dX9_barred_28 ?_
      refine w_gr (by have hq := zN b2x (by decide); show 12 * 0 + a1.toNatClampNeg < 36; omega) (fun m5 h5x => ?_)
      refine z_aload_n (pc := 29) C dX9_barred_29 rfl ?_
      refine z_getR (pc := 30) C zf_X9_10 rfl rfl (by decide) dX9_barred_30 ?_
      refine z_getR (pc := 33) C zf_X9_74 rfl rfl (by decide) dX9_barred_33 ?_
      refine z_iload_n (pc := 36) C dX9_barred_36 rfl ?_
      refine z_aald (pc := 37) C rfl ⟨rfl, by decide⟩ (by decide) (zIx b4x (by decide) (by decide)) dX9_barred_37 ?_
      refine w_gr (by have hq := zN b4x (by decide); show 8 * 0 + a2.toNatClampNeg < 16; omega) (fun m6 h6x => ?_)
      refine z_callV (pc := 38) C zk_X9_265 (w_X8_barsAgainst _ _ m5 h5x m6 h6x hI) rfl rfl (by decide) rfl rfl (Nat.le_of_ble_eq_true rfl) dX9_barred_38 (fun r7 g7 q7 => ?_)
      obtain ⟨⟨v7, rfl, b7x⟩, hI7, hF7q⟩ := q7
      obtain rfl := zFr_nil hF7q
      simp only [Option.toList, List.cons_append, List.nil_append]
      refine z_goto (pc := 41) 45 C dX9_barred_41 (by decide) ?_
      exact J1 v7 (zB.wk (a' := (-1)) (b' := 63) b7x (by decide) (by decide)) f hI hF  (by omega)
    · skip
      refine z_if_eq (pc := 13) 44 C dX9_barred_13 (by decide) (fun _ => ?_) (fun h => absurd (by decide) h)
      exact J0  f hI hF  (by omega)
  · skip
    refine z_if_eq (pc := 5) 44 C dX9_barred_5 (by decide) (fun _ => ?_) (fun h => absurd (by decide) h)
    exact J0  f hI hF  (by omega)

set_option maxRecDepth 100000 in
set_option maxHeartbeats 4000000 in
theorem w_X9_send (d : Nat) (f : zM) (a1 : Int32) (b1 : zB a1 (-2147483648) 2147483647) (hI : zInv f) : ZM (d + 4) yX9_send cX9_send 3 (some .int) [zr 0 0, zi a1] f (fun r g => (∃ v, r = some (zi v) ∧ zB v (-4) 255) ∧ zInv g ∧ zFr [(6, some 1), (6, some 3), (6, some 4), (6, some 5), (6, some 6), (11, some 8), (11, some 9)] f g) := by
  refine ZM.intro (by decide +kernel) (Nat.le_of_ble_eq_true rfl) ?_
  intro X C hr hn
  have hF : zFr [(6, some 1), (6, some 3), (6, some 4), (6, some 5), (6, some 6), (11, some 8), (11, some 9)] f f := zFr.rf _ _
  show Z X 0 [some (zr 0 0), some (zi a1), none] [] f
  refine z_aload_n (pc := 0) C dX9_send_0 rfl ?_
  refine z_iload_n (pc := 1) C dX9_send_1 rfl ?_
  refine z_callV (pc := 2) C zk_X9_269 (w_X9_lets _ _ a1 b1 hI) rfl rfl (by decide) rfl rfl (Nat.le_of_ble_eq_true rfl) dX9_send_2 (fun r1 g1 q1 => ?_)
  obtain ⟨⟨v1, rfl, b1x⟩, hI1, hF1q, hp1_0⟩ := q1
  have hp1_0 := hp1_0 _ rfl
  have hF1 := zFr.tr hF hF1q (by decide)
  simp only [Option.toList, List.cons_append, List.nil_append]
  refine z_istore_n (pc := 5) C dX9_send_5 (by rw [hn]; decide) rfl ?_
  refine z_iload_n (pc := 6) C dX9_send_6 rfl ?_
  refine z_if_ge (pc := 7) 12 C dX9_send_7 (by decide) (fun h7_1 => ?_) (fun h7_1 => ?_)
  · skip
    have b3x : zB v1 0 255 := by have q1 := b1x; have q2 := (zB.of (x := 0) 0 (by decide)); simp only [z32lt, z32le, z32eq, Int32.reduceToInt, Int32.toInt_zero] at h7_1; constructor <;> omega
    have b4x : zB a1 0 11 := by first | assumption | (constructor <;> omega)
    refine z_iload_n (pc := 12) C dX9_send_12 rfl ?_
    refine z_if_ne (pc := 13) 19 C dX9_send_13 (by decide) (fun h13_4 => ?_) (fun h13_4 => ?_)
    · skip
      have b6x : zB v1 1 255 := by have q1 := b3x; have q2 := (zB.of (x := 0) 0 (by decide)); simp only [z32lt, z32le, z32eq, Int32.reduceToInt, Int32.toInt_zero] at h13_4; constructor <;> omega
      have b7x : zB a1 0 11 := by first | assumption | (constructor <;> omega)
      refine z_aload_n (pc := 19) C dX9_send_19 rfl ?_
      refine z_getR (pc := 20) C zf_X9_10 rfl rfl (by decide) dX9_send_20 ?_
      refine z_getR (pc := 23) C zf_X9_220 rfl rfl (by decide) dX9_send_23 ?_
      refine z_aload_n (pc := 26) C dX9_send_26 rfl ?_
      refine z_getR (pc := 27) C zf_X9_10 rfl rfl (by decide) dX9_send_27 ?_
      refine z_getR (pc := 30) C zf_X9_90 rfl rfl (by decide) dX9_send_30 ?_
      refine z_iload_n (pc := 33) C dX9_send_33 rfl ?_
      refine z_aald (pc := 34) C rfl ⟨rfl, by decide⟩ (by decide) (zIx b7x (by decide) (by decide)) dX9_send_34 ?_
      refine w_gr (by have hq := zN b7x (by decide); show 12 * 0 + a1.toNatClampNeg < 36; omega) (fun m8 h8x => ?_)
      refine z_iload_n (pc := 35) C dX9_send_35 rfl ?_
      refine z_callV (pc := 36) C zk_X9_272 (w_X3_go _ _ 0 (by decide) m8 h8x v1 (zB.wk (a' := 0) (b' := 255) b6x (by decide) (by decide)) hI1) rfl rfl (by decide) rfl rfl (Nat.le_of_ble_eq_true rfl) dX9_send_36 (fun r9 g9 q9 => ?_)
      obtain ⟨rfl, hI9, hF9q⟩ := q9
      have hF9 := zFr.tr hF1 hF9q (by decide)
      simp only [Option.toList, List.cons_append, List.nil_append]
      refine z_aload_n (pc := 39) C dX9_send_39 rfl ?_
      refine z_getR (pc := 40) C zf_X9_10 rfl rfl (by decide) dX9_send_40 ?_
      refine z_getR (pc := 43) C zf_X9_220 rfl rfl (by decide) dX9_send_43 ?_
      refine z_dupr (pc := 46) C dX9_send_46 ?_
      refine z_getI (pc := 47) C zf_X9_224 rfl rfl (by decide) dX9_send_47 ?_
      refine w_gb (-2147483648) 2147483647 (hI9 6 _ 3) (fun v10 b10x => ?_)
      refine z_iconst (pc := 50) (v := 1) C dX9_send_50 (by decide) ?_
      refine z_iadd (pc := 51) C dX9_send_51 ?_
      refine w_gb (-2147483648) 2147483647 (zB_any _) (fun v11 b11x => ?_)
      refine z_putI (pc := 52) C zf_X9_224 zp_3_3 rfl rfl (by decide) dX9_send_52 ?_
      refine w_mem hI9 hF9 b11x rfl (fun g12 hI12 hF12 => ?_)
      refine z_iload_n (pc := 55) C dX9_send_55 rfl ?_
      exact z_iret (pc := 56) C hr dX9_send_56 ⟨⟨_, rfl, (zB.wk (a' := (-4)) (b' := 255) b6x (by decide) (by decide))⟩, hI12, hF12⟩
    · skip
      have b13x : zB v1 0 0 := by have q1 := b3x; have q2 := (zB.of (x := 0) 0 (by decide)); simp only [z32lt, z32le, z32eq, Int32.reduceToInt, Int32.toInt_zero] at h13_4; constructor <;> omega
      have b14x : zB a1 0 11 := by first | assumption | (constructor <;> omega)
      refine z_bipush (pc := 16) (v := -4) C dX9_send_16 (by decide) ?_
      exact z_iret (pc := 18) C hr dX9_send_18 ⟨⟨_, rfl, (zB.wk (a' := (-4)) (b' := 255) (zB.of (x := (-4)) (-4) (by decide)) (by decide) (by decide))⟩, hI1, hF1⟩
  · skip
    have b15x : zB v1 (-2) (-1) := by have q1 := b1x; have q2 := (zB.of (x := 0) 0 (by decide)); simp only [z32lt, z32le, z32eq, Int32.reduceToInt, Int32.toInt_zero] at h7_1; constructor <;> omega
    refine z_iload_n (pc := 10) C dX9_send_10 rfl ?_
    exact z_iret (pc := 11) C hr dX9_send_11 ⟨⟨_, rfl, (zB.wk (a' := (-4)) (b' := 255) b15x (by decide) (by decide))⟩, hI1, hF1⟩

set_option maxRecDepth 100000 in
set_option maxHeartbeats 4000000 in
theorem w_X9_tried (d : Nat) (f : zM)  (hI : zInv f) : ZM (d + 2) yX9_tried cX9_tried 1 (some .int) [zr 0 0] f (fun r g => (∃ v, r = some (zi v) ∧ zB v 0 255) ∧ zInv g ∧ zFr [] f g) := by
  refine ZM.intro (by decide +kernel) (Nat.le_of_ble_eq_true rfl) ?_
  intro X C hr hn
  have hF : zFr [] f f := zFr.rf _ _
  show Z X 0 [some (zr 0 0)] [] f
  refine z_aload_n (pc := 0) C dX9_tried_0 rfl ?_
  refine z_getR (pc := 1) C zf_X9_10 rfl rfl (by decide) dX9_tried_1 ?_
  refine z_aload_n (pc := 4) C dX9_tried_4 rfl ?_
  refine z_getR (pc := 5) C zf_X9_10 rfl rfl (by decide) dX9_tried_5 ?_
  refine z_getR (pc := 8) C zf_X9_220 rfl rfl (by decide) dX9_tried_8 ?_
  refine z_callV (pc := 11) C zk_X9_276 (w_X8_triedBy _ _ 0 (by decide) hI) rfl rfl (by decide) rfl rfl (Nat.le_of_ble_eq_true rfl) dX9_tried_11 (fun r1 g1 q1 => ?_)
  obtain ⟨⟨v1, rfl, b1x⟩, hI1, hF1q⟩ := q1
  obtain rfl := zFr_nil hF1q
  simp only [Option.toList, List.cons_append, List.nil_append]
  exact z_iret (pc := 14) C hr dX9_tried_14 ⟨⟨_, rfl, b1x⟩, hI, hF⟩

set_option maxRecDepth 100000 in
set_option maxHeartbeats 4000000 in
theorem w_X9_road (d : Nat) (f : zM) (a1 : Int32) (b1 : zB a1 (-2147483648) 2147483647) (a2 : Int32) (b2 : zB a2 (-2147483648) 2147483647) (a3 : Int32) (b3 : zB a3 (-2147483648) 2147483647) (hI : zInv f) : ZM (d + 4) yX9_road cX9_road 6 (some .int) [zr 0 0, zi a1, zi a2, zi a3] f (fun r g => (∃ v, r = some (zi v) ∧ zB v (-4) 3073) ∧ zInv g ∧ zFr [(6, some 1), (6, some 4), (6, some 5), (6, some 6), (11, some 8), (11, some 9), (13, some 6), (13, some 7), (14, none), (15, none), (16, none)] f g) := by
  refine ZM.intro (by decide +kernel) (Nat.le_of_ble_eq_true rfl) ?_
  intro X C hr hn
  have hF : zFr [(6, some 1), (6, some 4), (6, some 5), (6, some 6), (11, some 8), (11, some 9), (13, some 6), (13, some 7), (14, none), (15, none), (16, none)] f f := zFr.rf _ _
  have J : ∀ t : Nat, (∀ g : zM, zInv g → zFr [(6, some 1), (6, some 4), (6, some 5), (6, some 6), (11, some 8), (11, some 9), (13, some 6), (13, some 7), (14, none), (15, none), (16, none)] f g → (1 : Int) < t → Z X 20 [some (zr 0 0), some (zi a1), some (zi a2), some (zi a3), none, none] [] g) ∧ (zB a1 0 5 → zB a2 0 7 → zB a3 0 2147483647 → ∀ a93_4 : Int32, zB a93_4 0 3072 → ∀ a93_5 : Int32, zB a93_5 0 3073 → ∀ a93_s0 : Int32, zB a93_s0 (-4) 11 → ∀ g : zM, zInv g → zFr [(6, some 1), (6, some 4), (6, some 5), (6, some 6), (11, some 8), (11, some 9), (13, some 6), (13, some 7), (14, none), (15, none), (16, none)] f g → (0 : Int) < t → Z X 93 [some (zr 0 0), some (zi a1), some (zi a2), some (zi a3), some (zi a93_4), some (zi a93_5)] [zi a93_s0] g) := by
    intro t
    induction t with
    | zero =>
      refine ⟨?_, ?_⟩ <;> (intros; exfalso; omega)
    | succ t ih =>
      obtain ⟨ih0, ih1⟩ := ih
      refine ⟨?_, ?_⟩
      · skip
        intro g20_ hI20_ hF20_ hM20_
        refine z_iconst (pc := 20) (v := -1) C dX9_road_20 (by decide) ?_
        exact z_iret (pc := 21) C hr dX9_road_21 ⟨⟨_, rfl, (zB.wk (a' := (-4)) (b' := 3073) (zB.of (x := (-1)) (-1) (by decide)) (by decide) (by decide))⟩, hI20_, hF20_⟩
      · skip
        intro b93_1 b93_2 b93_3 a93_4 b93_4 a93_5 b93_5 a93_s0 b93_s0 g93_ hI93_ hF93_ hM93_
        exact z_iret (pc := 93) C hr dX9_road_93 ⟨⟨_, rfl, (zB.wk (a' := (-4)) (b' := 3073) b93_s0 (by decide) (by decide))⟩, hI93_, hF93_⟩
  obtain ⟨J0, J1⟩ := J 13
  show Z X 0 [some (zr 0 0), some (zi a1), some (zi a2), some (zi a3), none, none] [] f
  refine z_iload_n (pc := 0) C dX9_road_0 rfl ?_
  refine z_callSb (pc := 1) C zk_X9_46 (m_X9_isLand _ _ _) rfl rfl (Nat.le_of_ble_eq_true rfl) dX9_road_1 (fun h1_0 => ?_) (fun h1_0 => ?_)
  · skip
    have b2x : zB a1 0 5 := h1_0
    refine z_if_eq (pc := 4) 20 C dX9_road_4 (by decide) (fun h => absurd h (by decide)) (fun _ => ?_)
    refine z_aload_n (pc := 7) C dX9_road_7 rfl ?_
    refine z_iload_n (pc := 8) C dX9_road_8 rfl ?_
    refine z_callVb (pc := 9) C zk_X9_179 (m_X9_isDeed _ _ _) rfl rfl (by decide) rfl rfl (Nat.le_of_ble_eq_true rfl) dX9_road_9 (fun h9_2 => ?_) (fun h9_2 => ?_)
    · skip
      have b4x : zB a2 0 7 := (zltc h9_2 (hI 1 0 6).2)
      refine z_if_eq (pc := 12) 20 C dX9_road_12 (by decide) (fun h => absurd h (by decide)) (fun _ => ?_)
      refine z_iload_n (pc := 15) C dX9_road_15 rfl ?_
      refine z_iconst (pc := 16) (v := -1) C dX9_road_16 (by decide) ?_
      refine z_icmp_ge (pc := 17) 22 C dX9_road_17 (by decide) (fun h17_4 => ?_) (fun h17_4 => ?_)
      · skip
        have b6x : zB a3 (-1) 2147483647 := by have q1 := b3; have q2 := (zB.of (x := (-1)) (-1) (by decide)); simp only [z32lt, z32le, z32eq, Int32.reduceToInt, Int32.toInt_zero] at h17_4; constructor <;> omega
        refine z_aload_n (pc := 22) C dX9_road_22 rfl ?_
        refine z_getR (pc := 23) C zf_X9_10 rfl rfl (by decide) dX9_road_23 ?_
        refine z_callV (pc := 26) C zk_X9_280 (w_X8_weighAll _ _  hI) rfl rfl (by decide) rfl rfl (Nat.le_of_ble_eq_true rfl) dX9_road_26 (fun r7 g7 q7 => ?_)
        obtain ⟨rfl, hI7, hF7q⟩ := q7
        have hF7 := zFr.tr hF hF7q (by decide)
        simp only [Option.toList, List.cons_append, List.nil_append]
        refine z_aload_n (pc := 29) C dX9_road_29 rfl ?_
        refine z_getR (pc := 30) C zf_X9_24 rfl rfl (by decide) dX9_road_30 ?_
        refine z_iload_n (pc := 33) C dX9_road_33 rfl ?_
        refine z_iload_n (pc := 34) C dX9_road_34 rfl ?_
        refine z_callV (pc := 35) C zk_X9_283 (w_X5_find _ _ a1 b2x a2 b4x hI7) rfl rfl (by decide) rfl rfl (Nat.le_of_ble_eq_true rfl) dX9_road_35 (fun r8 g8 q8 => ?_)
        obtain ⟨⟨v8, rfl, b8x⟩, hI8, hF8q⟩ := q8
        have hF8 := zFr.tr hF7 hF8q (by decide)
        simp only [Option.toList, List.cons_append, List.nil_append]
        refine z_istore (pc := 38) C dX9_road_38 (by rw [hn]; decide) rfl ?_
        refine z_iload (pc := 40) C dX9_road_40 rfl ?_
        refine z_if_ge (pc := 42) 48 C dX9_road_42 (by decide) (fun h42_8 => ?_) (fun h42_8 => ?_)
        · skip
          have b10x : zB v8 0 3072 := by have q1 := b8x; have q2 := (zB.of (x := 0) 0 (by decide)); simp only [z32lt, z32le, z32eq, Int32.reduceToInt, Int32.toInt_zero] at h42_8; constructor <;> omega
          refine z_aload_n (pc := 48) C dX9_road_48 rfl ?_
          refine z_getR (pc := 49) C zf_X9_24 rfl rfl (by decide) dX9_road_49 ?_
          refine z_iload (pc := 52) C dX9_road_52 rfl ?_
          refine z_callV (pc := 54) C zk_X9_287 (w_X5_lengthTo _ _ v8 b10x hI8) rfl rfl (by decide) rfl rfl (Nat.le_of_ble_eq_true rfl) dX9_road_54 (fun r11 g11 q11 => ?_)
          obtain ⟨⟨v11, rfl, b11x⟩, hI11, hF11q⟩ := q11
          obtain rfl := zFr_nil hF11q
          simp only [Option.toList, List.cons_append, List.nil_append]
          refine z_istore (pc := 57) C dX9_road_57 (by rw [hn]; decide) rfl ?_
          refine z_iload_n (pc := 59) C dX9_road_59 rfl ?_
          refine z_iconst (pc := 60) (v := -1) C dX9_road_60 (by decide) ?_
          refine z_icmp_ne (pc := 61) 67 C dX9_road_61 (by decide) (fun h61_11 => ?_) (fun h61_11 => ?_)
          · skip
            have b13x : zB a3 0 2147483647 := by have q1 := b6x; have q2 := (zB.of (x := (-1)) (-1) (by decide)); simp only [z32lt, z32le, z32eq, Int32.reduceToInt, Int32.toInt_zero] at h61_11; constructor <;> omega
            refine z_iload_n (pc := 67) C dX9_road_67 rfl ?_
            refine z_iload (pc := 68) C dX9_road_68 rfl ?_
            refine z_icmp_ge (pc := 70) 91 C dX9_road_70 (by decide) (fun h70_13 => ?_) (fun h70_13 => ?_)
            · skip
              refine z_bipush (pc := 91) (v := -4) C dX9_road_91 (by decide) ?_
              exact J1 b2x b4x b13x v8 b10x v11 b11x (-4) (zB.wk (a' := (-4)) (b' := 11) (zB.of (x := (-4)) (-4) (by decide)) (by decide) (by decide)) g8 hI8 hF8  (by have qc0 : ((-4) : Int32).toInt = (-4) := (by decide); omega)
            · skip
              have b15x : zB a3 0 3072 := by have q1 := b13x; have q2 := b11x; simp only [z32lt, z32le, z32eq, Int32.reduceToInt, Int32.toInt_zero] at h70_13; constructor <;> omega
              have b16x : zB v11 1 3073 := by have q1 := b13x; have q2 := b11x; simp only [z32lt, z32le, z32eq, Int32.reduceToInt, Int32.toInt_zero] at h70_13; constructor <;> omega
              refine z_aload_n (pc := 73) C dX9_road_73 rfl ?_
              refine z_getR (pc := 74) C zf_X9_24 rfl rfl (by decide) dX9_road_74 ?_
              refine z_iload (pc := 77) C dX9_road_77 rfl ?_
              refine z_iload (pc := 79) C dX9_road_79 rfl ?_
              refine z_iconst (pc := 81) (v := 1) C dX9_road_81 (by decide) ?_
              refine z_isub (pc := 82) C dX9_road_82 ?_
              refine w_gp (fun v => v.toInt = v11.toInt - 1) (zsub_eb b16x (zB.of (x := 1) 1 (by decide)) (by decide) (by decide)) (fun v17 e17 => ?_)
              have b17x : zB v17 0 3072 := by have q1 := b16x; have q2 := (zB.of (x := 1) 1 (by decide)); constructor <;> omega
              refine z_iload_n (pc := 83) C dX9_road_83 rfl ?_
              refine z_isub (pc := 84) C dX9_road_84 ?_
              refine w_gp (fun v => v.toInt = v17.toInt - a3.toInt) (zsub_eb b17x b15x (by decide) (by decide)) (fun v18 e18 => ?_)
              have b18x : zB v18 (-3072) 3072 := by have q1 := b17x; have q2 := b15x; constructor <;> omega
              refine z_callV (pc := 85) C zk_X9_290 (w_X5_paperOn _ _ v8 b10x v18 (zB.wk (a' := (-4000)) (b' := 4000) b18x (by decide) (by decide)) hI8) rfl rfl (by decide) rfl rfl (Nat.le_of_ble_eq_true rfl) dX9_road_85 (fun r19 g19 q19 => ?_)
              obtain ⟨⟨v19, rfl, b19x⟩, hI19, hF19q⟩ := q19
              obtain rfl := zFr_nil hF19q
              simp only [Option.toList, List.cons_append, List.nil_append]
              refine z_goto (pc := 88) 93 C dX9_road_88 (by decide) ?_
              exact J1 b2x b4x (zB.wk (a' := 0) (b' := 2147483647) b15x (by decide) (by decide)) v8 b10x v11 (zB.wk (a' := 0) (b' := 3073) b16x (by decide) (by decide)) v19 (zB.wk (a' := (-4)) (b' := 11) b19x (by decide) (by decide)) g8 hI8 hF8  (by omega)
          · skip
            have b20x : zB a3 (-1) (-1) := by have q1 := b6x; have q2 := (zB.of (x := (-1)) (-1) (by decide)); simp only [z32lt, z32le, z32eq, Int32.reduceToInt, Int32.toInt_zero] at h61_11; constructor <;> omega
            refine z_iload (pc := 64) C dX9_road_64 rfl ?_
            exact z_iret (pc := 66) C hr dX9_road_66 ⟨⟨_, rfl, (zB.wk (a' := (-4)) (b' := 3073) b11x (by decide) (by decide))⟩, hI8, hF8⟩
        · skip
          have b21x : zB v8 (-4) (-1) := by have q1 := b8x; have q2 := (zB.of (x := 0) 0 (by decide)); simp only [z32lt, z32le, z32eq, Int32.reduceToInt, Int32.toInt_zero] at h42_8; constructor <;> omega
          refine z_bipush (pc := 45) (v := -4) C dX9_road_45 (by decide) ?_
          exact z_iret (pc := 47) C hr dX9_road_47 ⟨⟨_, rfl, (zB.wk (a' := (-4)) (b' := 3073) (zB.of (x := (-4)) (-4) (by decide)) (by decide) (by decide))⟩, hI8, hF8⟩
      · skip
        have b22x : zB a3 (-2147483648) (-2) := by have q1 := b3; have q2 := (zB.of (x := (-1)) (-1) (by decide)); simp only [z32lt, z32le, z32eq, Int32.reduceToInt, Int32.toInt_zero] at h17_4; constructor <;> omega
        exact J0  f hI hF  (by omega)
    · skip
      refine z_if_eq (pc := 12) 20 C dX9_road_12 (by decide) (fun _ => ?_) (fun h => absurd (by decide) h)
      exact J0  f hI hF  (by omega)
  · skip
    refine z_if_eq (pc := 4) 20 C dX9_road_4 (by decide) (fun _ => ?_) (fun h => absurd (by decide) h)
    exact J0  f hI hF  (by omega)

set_option maxRecDepth 100000 in
set_option maxHeartbeats 4000000 in
theorem w_X9_lands (d : Nat) (f : zM)  (hI : zInv f) : ZM (d + 4) yX9_lands cX9_lands 1 (some .int) [zr 0 0] f (fun r g => (∃ v, r = some (zi v) ∧ zB v 0 63) ∧ zInv g ∧ zFr [(6, some 1), (6, some 4), (6, some 5), (6, some 6), (11, some 8), (11, some 9), (13, some 6), (13, some 7), (14, none), (15, none), (16, none)] f g) := by
  refine ZM.intro (by decide +kernel) (Nat.le_of_ble_eq_true rfl) ?_
  intro X C hr hn
  have hF : zFr [(6, some 1), (6, some 4), (6, some 5), (6, some 6), (11, some 8), (11, some 9), (13, some 6), (13, some 7), (14, none), (15, none), (16, none)] f f := zFr.rf _ _
  show Z X 0 [some (zr 0 0)] [] f
  refine z_aload_n (pc := 0) C dX9_lands_0 rfl ?_
  refine z_getR (pc := 1) C zf_X9_10 rfl rfl (by decide) dX9_lands_1 ?_
  refine z_callV (pc := 4) C zk_X9_280 (w_X8_weighAll _ _  hI) rfl rfl (by decide) rfl rfl (Nat.le_of_ble_eq_true rfl) dX9_lands_4 (fun r1 g1 q1 => ?_)
  obtain ⟨rfl, hI1, hF1q⟩ := q1
  have hF1 := zFr.tr hF hF1q (by decide)
  simp only [Option.toList, List.cons_append, List.nil_append]
  refine z_aload_n (pc := 7) C dX9_lands_7 rfl ?_
  refine z_getR (pc := 8) C zf_X9_24 rfl rfl (by decide) dX9_lands_8 ?_
  refine z_callV (pc := 11) C zk_X9_293 (w_X5_reach _ _  hI1) rfl rfl (by decide) rfl rfl (Nat.le_of_ble_eq_true rfl) dX9_lands_11 (fun r2 g2 q2 => ?_)
  obtain ⟨⟨v2, rfl, b2x⟩, hI2, hF2q⟩ := q2
  have hF2 := zFr.tr hF1 hF2q (by decide)
  simp only [Option.toList, List.cons_append, List.nil_append]
  exact z_iret (pc := 14) C hr dX9_lands_14 ⟨⟨_, rfl, b2x⟩, hI2, hF2⟩

set_option maxRecDepth 100000 in
set_option maxHeartbeats 4000000 in
theorem w_X9_safe (d : Nat) (f : zM) (a1 : Int32) (b1 : zB a1 (-2147483648) 2147483647) (hI : zInv f) : ZM (d + 4) yX9_safe cX9_safe 2 (some .int) [zr 0 0, zi a1] f (fun r g => (∃ v, r = some (zi v) ∧ zB v (-1) 63) ∧ zInv g ∧ zFr [(6, some 1), (6, some 4), (6, some 5), (6, some 6), (11, some 8), (11, some 9)] f g) := by
  refine ZM.intro (by decide +kernel) (Nat.le_of_ble_eq_true rfl) ?_
  intro X C hr hn
  have hF : zFr [(6, some 1), (6, some 4), (6, some 5), (6, some 6), (11, some 8), (11, some 9)] f f := zFr.rf _ _
  have J : ∀ t : Nat, (∀ g : zM, zInv g → zFr [(6, some 1), (6, some 4), (6, some 5), (6, some 6), (11, some 8), (11, some 9)] f g → (1 : Int) < t → Z X 9 [some (zr 0 0), some (zi a1)] [] g) ∧ (zB a1 0 1 → ∀ a32_s1 : Int32, zB a32_s1 0 1 → ∀ g : zM, zInv g → zFr [(6, some 1), (6, some 4), (6, some 5), (6, some 6), (11, some 8), (11, some 9)] f g → (0 : Int) < t → Z X 32 [some (zr 0 0), some (zi a1)] [zi a32_s1, zr 13 0] g) := by
    intro t
    induction t with
    | zero =>
      refine ⟨?_, ?_⟩ <;> (intros; exfalso; omega)
    | succ t ih =>
      obtain ⟨ih0, ih1⟩ := ih
      refine ⟨?_, ?_⟩
      · skip
        intro g9_ hI9_ hF9_ hM9_
        refine z_iconst (pc := 9) (v := -1) C dX9_safe_9 (by decide) ?_
        exact z_iret (pc := 10) C hr dX9_safe_10 ⟨⟨_, rfl, (zB.wk (a' := (-1)) (b' := 63) (zB.of (x := (-1)) (-1) (by decide)) (by decide) (by decide))⟩, hI9_, hF9_⟩
      · skip
        intro b32_1 a32_s1 b32_s1 g32_ hI32_ hF32_ hM32_
        refine z_callV (pc := 32) C zk_X9_296 (w_X5_safeLands _ _ a32_s1 b32_s1 hI32_) rfl rfl (by decide) rfl rfl (Nat.le_of_ble_eq_true rfl) dX9_safe_32 (fun r1 g1 q1 => ?_)
        obtain ⟨⟨v1, rfl, b1x⟩, hI1, hF1q⟩ := q1
        have hF1 := zFr.tr hF32_ hF1q (by decide)
        simp only [Option.toList, List.cons_append, List.nil_append]
        exact z_iret (pc := 35) C hr dX9_safe_35 ⟨⟨_, rfl, (zB.wk (a' := (-1)) (b' := 63) b1x (by decide) (by decide))⟩, hI1, hF1⟩
  obtain ⟨J0, J1⟩ := J 13
  show Z X 0 [some (zr 0 0), some (zi a1)] [] f
  refine z_iload_n (pc := 0) C dX9_safe_0 rfl ?_
  refine z_if_lt (pc := 1) 9 C dX9_safe_1 (by decide) (fun h1_1 => ?_) (fun h1_1 => ?_)
  · skip
    have b3x : zB a1 (-2147483648) (-1) := by have q1 := b1; have q2 := (zB.of (x := 0) 0 (by decide)); simp only [z32lt, z32le, z32eq, Int32.reduceToInt, Int32.toInt_zero] at h1_1; constructor <;> omega
    exact J0  f hI hF  (by omega)
  · skip
    have b4x : zB a1 0 2147483647 := by have q1 := b1; have q2 := (zB.of (x := 0) 0 (by decide)); simp only [z32lt, z32le, z32eq, Int32.reduceToInt, Int32.toInt_zero] at h1_1; constructor <;> omega
    refine z_iload_n (pc := 4) C dX9_safe_4 rfl ?_
    refine z_iconst (pc := 5) (v := 1) C dX9_safe_5 (by decide) ?_
    refine z_icmp_le (pc := 6) 11 C dX9_safe_6 (by decide) (fun h6_4 => ?_) (fun h6_4 => ?_)
    · skip
      have b6x : zB a1 0 1 := by have q1 := b4x; have q2 := (zB.of (x := 1) 1 (by decide)); simp only [z32lt, z32le, z32eq, Int32.reduceToInt, Int32.toInt_zero] at h6_4; constructor <;> omega
      refine z_aload_n (pc := 11) C dX9_safe_11 rfl ?_
      refine z_getR (pc := 12) C zf_X9_10 rfl rfl (by decide) dX9_safe_12 ?_
      refine z_callV (pc := 15) C zk_X9_280 (w_X8_weighAll _ _  hI) rfl rfl (by decide) rfl rfl (Nat.le_of_ble_eq_true rfl) dX9_safe_15 (fun r7 g7 q7 => ?_)
      obtain ⟨rfl, hI7, hF7q⟩ := q7
      have hF7 := zFr.tr hF hF7q (by decide)
      simp only [Option.toList, List.cons_append, List.nil_append]
      refine z_aload_n (pc := 18) C dX9_safe_18 rfl ?_
      refine z_getR (pc := 19) C zf_X9_24 rfl rfl (by decide) dX9_safe_19 ?_
      refine z_iload_n (pc := 22) C dX9_safe_22 rfl ?_
      refine z_iconst (pc := 23) (v := 1) C dX9_safe_23 (by decide) ?_
      refine z_icmp_ne (pc := 24) 31 C dX9_safe_24 (by decide) (fun h24_7 => ?_) (fun h24_7 => ?_)
      · skip
        have b9x : zB a1 0 0 := by have q1 := b6x; have q2 := (zB.of (x := 1) 1 (by decide)); simp only [z32lt, z32le, z32eq, Int32.reduceToInt, Int32.toInt_zero] at h24_7; constructor <;> omega
        refine z_iconst (pc := 31) (v := 0) C dX9_safe_31 (by decide) ?_
        exact J1 (zB.wk (a' := 0) (b' := 1) b9x (by decide) (by decide)) 0 (zB.wk (a' := 0) (b' := 1) (zB.of (x := 0) 0 (by decide)) (by decide) (by decide)) g7 hI7 hF7  (by have qc0 : (0 : Int32).toInt = 0 := (by decide); omega)
      · skip
        have b10x : zB a1 1 1 := by have q1 := b6x; have q2 := (zB.of (x := 1) 1 (by decide)); simp only [z32lt, z32le, z32eq, Int32.reduceToInt, Int32.toInt_zero] at h24_7; constructor <;> omega
        refine z_iconst (pc := 27) (v := 1) C dX9_safe_27 (by decide) ?_
        refine z_goto (pc := 28) 32 C dX9_safe_28 (by decide) ?_
        exact J1 (zB.wk (a' := 0) (b' := 1) b10x (by decide) (by decide)) 1 (zB.wk (a' := 0) (b' := 1) (zB.of (x := 1) 1 (by decide)) (by decide) (by decide)) g7 hI7 hF7  (by have qc0 : (1 : Int32).toInt = 1 := (by decide); omega)
    · skip
      have b11x : zB a1 2 2147483647 := by have q1 := b4x; have q2 := (zB.of (x := 1) 1 (by decide)); simp only [z32lt, z32le, z32eq, Int32.reduceToInt, Int32.toInt_zero] at h6_4; constructor <;> omega
      exact J0  f hI hF  (by omega)

set_option maxRecDepth 100000 in
set_option maxHeartbeats 4000000 in
theorem w_X9_ahead (d : Nat) (f : zM) (a1 : Int32) (b1 : zB a1 (-2147483648) 2147483647) (hI : zInv f) : ZM (d + 4) yX9_ahead cX9_ahead 3 (some .int) [zr 0 0, zi a1] f (fun r g => (∃ v, r = some (zi v) ∧ zB v (-4) 7) ∧ zInv g ∧ zFr [(11, some 8), (11, some 9), (12, some 3), (12, some 4), (12, some 5)] f g) := by
  refine ZM.intro (by decide +kernel) (Nat.le_of_ble_eq_true rfl) ?_
  intro X C hr hn
  have hF : zFr [(11, some 8), (11, some 9), (12, some 3), (12, some 4), (12, some 5)] f f := zFr.rf _ _
  have J : ∀ t : Nat, (zB a1 0 2147483647 → ∀ a22_2 : Int32, zB a22_2 0 8 → ∀ g : zM, zInv g → zFr [(11, some 8), (11, some 9), (12, some 3), (12, some 4), (12, some 5)] f g → (1 + 4 * (8 - a22_2.toInt) : Int) < t → Z X 22 [some (zr 0 0), some (zi a1), some (zi a22_2)] [] g) ∧ (zB a1 0 2147483647 → ∀ a62_2 : Int32, zB a62_2 0 7 → ∀ g : zM, zInv g → zFr [(11, some 8), (11, some 9), (12, some 3), (12, some 4), (12, some 5)] f g → (0 + 4 * (8 - a62_2.toInt) : Int) < t → Z X 62 [some (zr 0 0), some (zi a1), some (zi a62_2)] [] g) := by
    intro t
    induction t with
    | zero =>
      refine ⟨?_, ?_⟩ <;> (intros; exfalso; omega)
    | succ t ih =>
      obtain ⟨ih0, ih1⟩ := ih
      refine ⟨?_, ?_⟩
      · skip
        intro b22_1 a22_2 b22_2 g22_ hI22_ hF22_ hM22_
        refine z_iload_n (pc := 22) C dX9_ahead_22 rfl ?_
        refine z_aload_n (pc := 23) C dX9_ahead_23 rfl ?_
        refine z_getR (pc := 24) C zf_X9_10 rfl rfl (by decide) dX9_ahead_24 ?_
        refine z_getI (pc := 27) C zf_X9_217 rfl rfl (by decide) dX9_ahead_27 ?_
        refine w_gb 0 8 (hI22_ 1 _ 8) (fun v1 b1x => ?_)
        refine z_icmp_ge (pc := 30) 68 C dX9_ahead_30 (by decide) (fun h30_1 => ?_) (fun h30_1 => ?_)
        · skip
          refine z_bipush (pc := 68) (v := -4) C dX9_ahead_68 (by decide) ?_
          exact z_iret (pc := 70) C hr dX9_ahead_70 ⟨⟨_, rfl, (zB.wk (a' := (-4)) (b' := 7) (zB.of (x := (-4)) (-4) (by decide)) (by decide) (by decide))⟩, hI22_, hF22_⟩
        · skip
          have b3x : zB a22_2 0 7 := by have q1 := b22_2; have q2 := b1x; simp only [z32lt, z32le, z32eq, Int32.reduceToInt, Int32.toInt_zero] at h30_1; constructor <;> omega
          have b4x : zB v1 1 8 := by have q1 := b22_2; have q2 := b1x; simp only [z32lt, z32le, z32eq, Int32.reduceToInt, Int32.toInt_zero] at h30_1; constructor <;> omega
          refine z_aload_n (pc := 33) C dX9_ahead_33 rfl ?_
          refine z_getR (pc := 34) C zf_X9_10 rfl rfl (by decide) dX9_ahead_34 ?_
          refine z_getR (pc := 37) C zf_X9_300 rfl rfl (by decide) dX9_ahead_37 ?_
          refine z_iload_n (pc := 40) C dX9_ahead_40 rfl ?_
          refine z_aald (pc := 41) C rfl ⟨rfl, by decide⟩ (by decide) (zIx b3x (by decide) (by decide)) dX9_ahead_41 ?_
          refine w_gr (by have hq := zN b3x (by decide); show 8 * 0 + a22_2.toNatClampNeg < 16; omega) (fun m5 h5x => ?_)
          refine z_getI (pc := 42) C zf_X9_311 rfl rfl h5x dX9_ahead_42 ?_
          refine w_gb 0 255 (hI22_ 12 _ 3) (fun v6 b6x => ?_)
          refine z_if_eq (pc := 45) 62 C dX9_ahead_45 (by decide) (fun h45_6 => ?_) (fun h45_6 => ?_)
          · skip
            have b8x : zB v6 0 0 := by have q1 := b6x; have q2 := (zB.of (x := 0) 0 (by decide)); simp only [z32lt, z32le, z32eq, Int32.reduceToInt, Int32.toInt_zero] at h45_6; constructor <;> omega
            exact ih1 b22_1 a22_2 b3x g22_ hI22_ hF22_  (by omega)
          · skip
            have b9x : zB v6 1 255 := by have q1 := b6x; have q2 := (zB.of (x := 0) 0 (by decide)); simp only [z32lt, z32le, z32eq, Int32.reduceToInt, Int32.toInt_zero] at h45_6; constructor <;> omega
            refine z_aload_n (pc := 48) C dX9_ahead_48 rfl ?_
            refine z_getR (pc := 49) C zf_X9_10 rfl rfl (by decide) dX9_ahead_49 ?_
            refine z_iload_n (pc := 52) C dX9_ahead_52 rfl ?_
            refine z_callV (pc := 53) C zk_X9_314 (w_X8_placeOf _ _ a22_2 b3x hI22_) rfl rfl (by decide) rfl rfl (Nat.le_of_ble_eq_true rfl) dX9_ahead_53 (fun r10 g10 q10 => ?_)
            obtain ⟨⟨v10, rfl, b10x⟩, hI10, hF10q⟩ := q10
            obtain rfl := zFr_nil hF10q
            simp only [Option.toList, List.cons_append, List.nil_append]
            refine z_iload_n (pc := 56) C dX9_ahead_56 rfl ?_
            refine z_icmp_ne (pc := 57) 62 C dX9_ahead_57 (by decide) (fun h57_10 => ?_) (fun h57_10 => ?_)
            · skip
              exact ih1 b22_1 a22_2 b3x g22_ hI22_ hF22_  (by omega)
            · skip
              have b12x : zB v10 0 2147483647 := by have q1 := b10x; have q2 := b22_1; simp only [z32lt, z32le, z32eq, Int32.reduceToInt, Int32.toInt_zero] at h57_10; constructor <;> omega
              refine z_iload_n (pc := 60) C dX9_ahead_60 rfl ?_
              exact z_iret (pc := 61) C hr dX9_ahead_61 ⟨⟨_, rfl, (zB.wk (a' := (-4)) (b' := 7) b3x (by decide) (by decide))⟩, hI22_, hF22_⟩
      · skip
        intro b62_1 a62_2 b62_2 g62_ hI62_ hF62_ hM62_
        refine z_iinc (pc := 62) (v := 1) C dX9_ahead_62 rfl (by decide) (by rw [hn]; decide) rfl ?_
        obtain ⟨v13, hv13, e13⟩ : ∃ v : Int32, v = a62_2 + 1 ∧ v.toInt = a62_2.toInt + 1 := ⟨_, rfl, zadd_eb b62_2 (zB.of (x := 1) 1 (by decide)) (by decide) (by decide)⟩
        rw [← hv13]
        have b13x : zB v13 1 8 := by have q9 := b62_2; constructor <;> omega
        refine z_goto (pc := 65) 22 C dX9_ahead_65 (by decide) ?_
        exact ih0 b62_1 v13 (zB.wk (a' := 0) (b' := 8) b13x (by decide) (by decide)) g62_ hI62_ hF62_  (by omega)
  obtain ⟨J0, J1⟩ := J 49
  show Z X 0 [some (zr 0 0), some (zi a1), none] [] f
  refine z_iload_n (pc := 0) C dX9_ahead_0 rfl ?_
  refine z_if_ge (pc := 1) 6 C dX9_ahead_1 (by decide) (fun h1_13 => ?_) (fun h1_13 => ?_)
  · skip
    have b15x : zB a1 0 2147483647 := by have q1 := b1; have q2 := (zB.of (x := 0) 0 (by decide)); simp only [z32lt, z32le, z32eq, Int32.reduceToInt, Int32.toInt_zero] at h1_13; constructor <;> omega
    refine z_aload_n (pc := 6) C dX9_ahead_6 rfl ?_
    refine z_getR (pc := 7) C zf_X9_10 rfl rfl (by decide) dX9_ahead_7 ?_
    refine z_callV (pc := 10) C zk_X9_280 (w_X8_weighAll _ _  hI) rfl rfl (by decide) rfl rfl (Nat.le_of_ble_eq_true rfl) dX9_ahead_10 (fun r16 g16 q16 => ?_)
    obtain ⟨rfl, hI16, hF16q⟩ := q16
    have hF16 := zFr.tr hF hF16q (by decide)
    simp only [Option.toList, List.cons_append, List.nil_append]
    refine z_aload_n (pc := 13) C dX9_ahead_13 rfl ?_
    refine z_getR (pc := 14) C zf_X9_10 rfl rfl (by decide) dX9_ahead_14 ?_
    refine z_callV (pc := 17) C zk_X9_308 (w_X8_weighDemands _ _  hI16) rfl rfl (by decide) rfl rfl (Nat.le_of_ble_eq_true rfl) dX9_ahead_17 (fun r17 g17 q17 => ?_)
    obtain ⟨rfl, hI17, hF17q⟩ := q17
    have hF17 := zFr.tr hF16 hF17q (by decide)
    simp only [Option.toList, List.cons_append, List.nil_append]
    refine z_iconst (pc := 20) (v := 0) C dX9_ahead_20 (by decide) ?_
    refine z_istore_n (pc := 21) C dX9_ahead_21 (by rw [hn]; decide) rfl ?_
    exact J0 b15x 0 (zB.wk (a' := 0) (b' := 8) (zB.of (x := 0) 0 (by decide)) (by decide) (by decide)) g17 hI17 hF17  (by have qc0 : (0 : Int32).toInt = 0 := (by decide); omega)
  · skip
    have b18x : zB a1 (-2147483648) (-1) := by have q1 := b1; have q2 := (zB.of (x := 0) 0 (by decide)); simp only [z32lt, z32le, z32eq, Int32.reduceToInt, Int32.toInt_zero] at h1_13; constructor <;> omega
    refine z_iconst (pc := 4) (v := -1) C dX9_ahead_4 (by decide) ?_
    exact z_iret (pc := 5) C hr dX9_ahead_5 ⟨⟨_, rfl, (zB.wk (a' := (-4)) (b' := 7) (zB.of (x := (-1)) (-1) (by decide)) (by decide) (by decide))⟩, hI, hF⟩

set_option maxRecDepth 100000 in
set_option maxHeartbeats 4000000 in
theorem w_X9_promises (d : Nat) (f : zM) (a1 : Int32) (b1 : zB a1 (-2147483648) 2147483647) (a2 : Int32) (b2 : zB a2 (-2147483648) 2147483647) (hI : zInv f) : ZM (d + 4) yX9_promises cX9_promises 6 (some .int) [zr 0 0, zi a1, zi a2] f (fun r g => (∃ v, r = some (zi v) ∧ zB v (-4) 7) ∧ zInv g ∧ zFr [(11, some 8), (11, some 9)] f g) := by
  refine ZM.intro (by decide +kernel) (Nat.le_of_ble_eq_true rfl) ?_
  intro X C hr hn
  have hF : zFr [(11, some 8), (11, some 9)] f f := zFr.rf _ _
  have J : ∀ t : Nat, (∀ g : zM, zInv g → zFr [(11, some 8), (11, some 9)] f g → (67 : Int) < t → Z X 15 [some (zr 0 0), some (zi a1), some (zi a2), none, none, none] [] g) ∧ (zB a1 0 5 → zB a2 0 7 → ∀ a30_3 : Int32, zB a30_3 (-4) 7 → ∀ a30_4 : Int32, zB a30_4 0 12 → ∀ g : zM, zInv g → zFr [(11, some 8), (11, some 9)] f g → (1 + 5 * (12 - a30_4.toInt) : Int) < t → Z X 30 [some (zr 0 0), some (zi a1), some (zi a2), some (zi a30_3), some (zi a30_4), none] [] g) ∧ (zB a1 0 5 → zB a2 0 7 → ∀ a100_3 : Int32, zB a100_3 (-4) 7 → ∀ a100_4 : Int32, zB a100_4 0 11 → ∀ m100_5 : Nat, m100_5 < zcnt 11 → ∀ g : zM, zInv g → zFr [(11, some 8), (11, some 9)] f g → (0 + 5 * (12 - a100_4.toInt) : Int) < t → Z X 100 [some (zr 0 0), some (zi a1), some (zi a2), some (zi a100_3), some (zi a100_4), some (zr 11 m100_5)] [] g) := by
    intro t
    induction t with
    | zero =>
      refine ⟨?_, ?_, ?_⟩ <;> (intros; exfalso; omega)
    | succ t ih =>
      obtain ⟨ih0, ih1, ih2⟩ := ih
      refine ⟨?_, ?_, ?_⟩
      · skip
        intro g15_ hI15_ hF15_ hM15_
        refine z_iconst (pc := 15) (v := -1) C dX9_promises_15 (by decide) ?_
        exact z_iret (pc := 16) C hr dX9_promises_16 ⟨⟨_, rfl, (zB.wk (a' := (-4)) (b' := 7) (zB.of (x := (-1)) (-1) (by decide)) (by decide) (by decide))⟩, hI15_, hF15_⟩
      · skip
        intro b30_1 b30_2 a30_3 b30_3 a30_4 b30_4 g30_ hI30_ hF30_ hM30_
        refine z_iload (pc := 30) C dX9_promises_30 rfl ?_
        refine z_aload_n (pc := 32) C dX9_promises_32 rfl ?_
        refine z_getR (pc := 33) C zf_X9_10 rfl rfl (by decide) dX9_promises_33 ?_
        refine z_getI (pc := 36) C zf_X9_119 rfl rfl (by decide) dX9_promises_36 ?_
        refine w_gb 0 12 (hI30_ 1 _ 7) (fun v1 b1x => ?_)
        refine z_icmp_ge (pc := 39) 106 C dX9_promises_39 (by decide) (fun h39_1 => ?_) (fun h39_1 => ?_)
        · skip
          refine z_iload_n (pc := 106) C dX9_promises_106 rfl ?_
          exact z_iret (pc := 107) C hr dX9_promises_107 ⟨⟨_, rfl, b30_3⟩, hI30_, hF30_⟩
        · skip
          have b3x : zB a30_4 0 11 := by have q1 := b30_4; have q2 := b1x; simp only [z32lt, z32le, z32eq, Int32.reduceToInt, Int32.toInt_zero] at h39_1; constructor <;> omega
          have b4x : zB v1 1 12 := by have q1 := b30_4; have q2 := b1x; simp only [z32lt, z32le, z32eq, Int32.reduceToInt, Int32.toInt_zero] at h39_1; constructor <;> omega
          refine z_aload_n (pc := 42) C dX9_promises_42 rfl ?_
          refine z_getR (pc := 43) C zf_X9_10 rfl rfl (by decide) dX9_promises_43 ?_
          refine z_getR (pc := 46) C zf_X9_90 rfl rfl (by decide) dX9_promises_46 ?_
          refine z_iload (pc := 49) C dX9_promises_49 rfl ?_
          refine z_aald (pc := 51) C rfl ⟨rfl, by decide⟩ (by decide) (zIx b3x (by decide) (by decide)) dX9_promises_51 ?_
          refine w_gr (by have hq := zN b3x (by decide); show 12 * 0 + a30_4.toNatClampNeg < 36; omega) (fun m5 h5x => ?_)
          refine z_astore (pc := 52) C dX9_promises_52 (by rw [hn]; decide) rfl ?_
          refine z_aload (pc := 54) C dX9_promises_54 rfl ?_
          refine z_getI (pc := 56) C zf_X9_162 rfl rfl h5x dX9_promises_56 ?_
          refine w_gb 0 5 (hI30_ 11 _ 2) (fun v6 b6x => ?_)
          refine z_iload_n (pc := 59) C dX9_promises_59 rfl ?_
          refine z_icmp_ne (pc := 60) 100 C dX9_promises_60 (by decide) (fun h60_6 => ?_) (fun h60_6 => ?_)
          · skip
            exact ih2 b30_1 b30_2 a30_3 b30_3 a30_4 b3x m5 h5x g30_ hI30_ hF30_  (by omega)
          · skip
            refine z_aload_n (pc := 63) C dX9_promises_63 rfl ?_
            refine z_getR (pc := 64) C zf_X9_10 rfl rfl (by decide) dX9_promises_64 ?_
            refine z_getR (pc := 67) C zf_X9_220 rfl rfl (by decide) dX9_promises_67 ?_
            refine z_aload (pc := 70) C dX9_promises_70 rfl ?_
            refine z_callV (pc := 72) C zk_X9_262 (w_X3_goesBy _ _ 0 (by decide) m5 h5x hI30_) rfl rfl (by decide) rfl rfl (Nat.le_of_ble_eq_true rfl) dX9_promises_72 (fun r8 g8 q8 => ?_)
            obtain ⟨⟨v8, rfl, b8x⟩, hI8, hF8q⟩ := q8
            obtain rfl := zFr_nil hF8q
            simp only [Option.toList, List.cons_append, List.nil_append]
            refine z_iload_n (pc := 75) C dX9_promises_75 rfl ?_
            refine z_ishr (pc := 76) C dX9_promises_76 ?_
            refine w_gb (-2147483648) 2147483647 (zB_any _) (fun v9 b9x => ?_)
            refine z_iconst (pc := 77) (v := 1) C dX9_promises_77 (by decide) ?_
            refine z_iand (pc := 78) C dX9_promises_78 ?_
            refine w_gb 0 1 (zand_b b9x (zB.of (x := 1) 1 (by decide)) (by decide)) (fun v10 b10x => ?_)
            refine z_if_eq (pc := 79) 100 C dX9_promises_79 (by decide) (fun h79_10 => ?_) (fun h79_10 => ?_)
            · skip
              have b12x : zB v10 0 0 := by have q1 := b10x; have q2 := (zB.of (x := 0) 0 (by decide)); simp only [z32lt, z32le, z32eq, Int32.reduceToInt, Int32.toInt_zero] at h79_10; constructor <;> omega
              exact ih2 b30_1 b30_2 a30_3 b30_3 a30_4 b3x m5 h5x g30_ hI30_ hF30_  (by omega)
            · skip
              have b13x : zB v10 1 1 := by have q1 := b10x; have q2 := (zB.of (x := 0) 0 (by decide)); simp only [z32lt, z32le, z32eq, Int32.reduceToInt, Int32.toInt_zero] at h79_10; constructor <;> omega
              refine z_aload (pc := 82) C dX9_promises_82 rfl ?_
              refine z_getI (pc := 84) C zf_X9_176 rfl rfl h5x dX9_promises_84 ?_
              refine w_gb 0 7 (hI30_ 11 _ 7) (fun v14 b14x => ?_)
              refine z_iload_n (pc := 87) C dX9_promises_87 rfl ?_
              refine z_callS (pc := 88) C zk_X9_317 (w_X9_isLess _ _ v14 (zB.wk (a' := (-2147483648)) (b' := 2147483647) b14x (by decide) (by decide)) a30_3 (zB.wk (a' := (-2147483648)) (b' := 2147483647) b30_3 (by decide) (by decide)) hI30_) rfl rfl (Nat.le_of_ble_eq_true rfl) dX9_promises_88 (fun r15 g15 q15 => ?_)
              obtain ⟨⟨v15, rfl, b15x⟩, hI15, hF15q⟩ := q15
              obtain rfl := zFr_nil hF15q
              simp only [Option.toList, List.cons_append, List.nil_append]
              refine z_if_eq (pc := 91) 100 C dX9_promises_91 (by decide) (fun h91_15 => ?_) (fun h91_15 => ?_)
              · skip
                have b17x : zB v15 0 0 := by have q1 := b15x; have q2 := (zB.of (x := 0) 0 (by decide)); simp only [z32lt, z32le, z32eq, Int32.reduceToInt, Int32.toInt_zero] at h91_15; constructor <;> omega
                exact ih2 b30_1 b30_2 a30_3 b30_3 a30_4 b3x m5 h5x g30_ hI30_ hF30_  (by omega)
              · skip
                have b18x : zB v15 1 1 := by have q1 := b15x; have q2 := (zB.of (x := 0) 0 (by decide)); simp only [z32lt, z32le, z32eq, Int32.reduceToInt, Int32.toInt_zero] at h91_15; constructor <;> omega
                refine z_aload (pc := 94) C dX9_promises_94 rfl ?_
                refine z_getI (pc := 96) C zf_X9_176 rfl rfl h5x dX9_promises_96 ?_
                refine w_gb 0 7 (hI30_ 11 _ 7) (fun v19 b19x => ?_)
                refine z_istore_n (pc := 99) C dX9_promises_99 (by rw [hn]; decide) rfl ?_
                exact ih2 b30_1 b30_2 v19 (zB.wk (a' := (-4)) (b' := 7) b19x (by decide) (by decide)) a30_4 b3x m5 h5x g30_ hI30_ hF30_  (by omega)
      · skip
        intro b100_1 b100_2 a100_3 b100_3 a100_4 b100_4 m100_5 h100_5 g100_ hI100_ hF100_ hM100_
        refine z_iinc (pc := 100) (v := 1) C dX9_promises_100 rfl (by decide) (by rw [hn]; decide) rfl ?_
        obtain ⟨v20, hv20, e20⟩ : ∃ v : Int32, v = a100_4 + 1 ∧ v.toInt = a100_4.toInt + 1 := ⟨_, rfl, zadd_eb b100_4 (zB.of (x := 1) 1 (by decide)) (by decide) (by decide)⟩
        rw [← hv20]
        have b20x : zB v20 1 12 := by have q9 := b100_4; constructor <;> omega
        refine z_goto (pc := 103) 30 C dX9_promises_103 (by decide) ?_
        refine w_mask [5] ?_
        exact ih1 b100_1 b100_2 a100_3 b100_3 v20 (zB.wk (a' := 0) (b' := 12) b20x (by decide) (by decide)) g100_ hI100_ hF100_  (by omega)
  obtain ⟨J0, J1, J2⟩ := J 79
  show Z X 0 [some (zr 0 0), some (zi a1), some (zi a2), none, none, none] [] f
  refine z_iload_n (pc := 0) C dX9_promises_0 rfl ?_
  refine z_callSb (pc := 1) C zk_X9_46 (m_X9_isLand _ _ _) rfl rfl (Nat.le_of_ble_eq_true rfl) dX9_promises_1 (fun h1_20 => ?_) (fun h1_20 => ?_)
  · skip
    have b22x : zB a1 0 5 := h1_20
    refine z_if_eq (pc := 4) 15 C dX9_promises_4 (by decide) (fun h => absurd h (by decide)) (fun _ => ?_)
    refine z_aload_n (pc := 7) C dX9_promises_7 rfl ?_
    refine z_iload_n (pc := 8) C dX9_promises_8 rfl ?_
    refine z_callVb (pc := 9) C zk_X9_179 (m_X9_isDeed _ _ _) rfl rfl (by decide) rfl rfl (Nat.le_of_ble_eq_true rfl) dX9_promises_9 (fun h9_22 => ?_) (fun h9_22 => ?_)
    · skip
      have b24x : zB a2 0 7 := (zltc h9_22 (hI 1 0 6).2)
      refine z_if_ne (pc := 12) 17 C dX9_promises_12 (by decide) (fun _ => ?_) (fun h => absurd h (by decide))
      refine z_aload_n (pc := 17) C dX9_promises_17 rfl ?_
      refine z_getR (pc := 18) C zf_X9_10 rfl rfl (by decide) dX9_promises_18 ?_
      refine z_callV (pc := 21) C zk_X9_280 (w_X8_weighAll _ _  hI) rfl rfl (by decide) rfl rfl (Nat.le_of_ble_eq_true rfl) dX9_promises_21 (fun r25 g25 q25 => ?_)
      obtain ⟨rfl, hI25, hF25q⟩ := q25
      have hF25 := zFr.tr hF hF25q (by decide)
      simp only [Option.toList, List.cons_append, List.nil_append]
      refine z_bipush (pc := 24) (v := -4) C dX9_promises_24 (by decide) ?_
      refine z_istore_n (pc := 26) C dX9_promises_26 (by rw [hn]; decide) rfl ?_
      refine z_iconst (pc := 27) (v := 0) C dX9_promises_27 (by decide) ?_
      refine z_istore (pc := 28) C dX9_promises_28 (by rw [hn]; decide) rfl ?_
      exact J1 b22x b24x (-4) (zB.wk (a' := (-4)) (b' := 7) (zB.of (x := (-4)) (-4) (by decide)) (by decide) (by decide)) 0 (zB.wk (a' := 0) (b' := 12) (zB.of (x := 0) 0 (by decide)) (by decide) (by decide)) g25 hI25 hF25  (by have qc0 : ((-4) : Int32).toInt = (-4) := (by decide); have qc1 : (0 : Int32).toInt = 0 := (by decide); omega)
    · skip
      refine z_if_ne (pc := 12) 17 C dX9_promises_12 (by decide) (fun h => absurd (by decide) h) (fun _ => ?_)
      exact J0  f hI hF  (by omega)
  · skip
    refine z_if_eq (pc := 4) 15 C dX9_promises_4 (by decide) (fun _ => ?_) (fun h => absurd (by decide) h)
    exact J0  f hI hF  (by omega)

set_option maxRecDepth 100000 in
set_option maxHeartbeats 4000000 in
theorem w_X9_mended (d : Nat) (f : zM) (a1 : Int32) (b1 : zB a1 (-2147483648) 2147483647) (a2 : Int32) (b2 : zB a2 (-2147483648) 2147483647) (hI : zInv f) : ZM (d + 4) yX9_mended cX9_mended 3 (some .int) [zr 0 0, zi a1, zi a2] f (fun r g => (∃ v, r = some (zi v) ∧ zB v (-4) 999) ∧ zInv g ∧ zFr [(6, some 1), (6, some 4), (6, some 5), (6, some 6), (11, some 8), (11, some 9), (17, none)] f g) := by
  refine ZM.intro (by decide +kernel) (Nat.le_of_ble_eq_true rfl) ?_
  intro X C hr hn
  have hF : zFr [(6, some 1), (6, some 4), (6, some 5), (6, some 6), (11, some 8), (11, some 9), (17, none)] f f := zFr.rf _ _
  have J : ∀ t : Nat, (∀ g : zM, zInv g → zFr [(6, some 1), (6, some 4), (6, some 5), (6, some 6), (11, some 8), (11, some 9), (17, none)] f g → (0 : Int) < t → Z X 15 [some (zr 0 0), some (zi a1), some (zi a2)] [] g) := by
    intro t
    induction t with
    | zero =>
      intros; exfalso; omega
    | succ t ih =>
      have ih0 := ih
      intro g15_ hI15_ hF15_ hM15_
      refine z_iconst (pc := 15) (v := -1) C dX9_mended_15 (by decide) ?_
      exact z_iret (pc := 16) C hr dX9_mended_16 ⟨⟨_, rfl, (zB.wk (a' := (-4)) (b' := 999) (zB.of (x := (-1)) (-1) (by decide)) (by decide) (by decide))⟩, hI15_, hF15_⟩
  have J0 := J 12
  show Z X 0 [some (zr 0 0), some (zi a1), some (zi a2)] [] f
  refine z_iload_n (pc := 0) C dX9_mended_0 rfl ?_
  refine z_callSb (pc := 1) C zk_X9_46 (m_X9_isLand _ _ _) rfl rfl (Nat.le_of_ble_eq_true rfl) dX9_mended_1 (fun h1_0 => ?_) (fun h1_0 => ?_)
  · skip
    have b2x : zB a1 0 5 := h1_0
    refine z_if_eq (pc := 4) 15 C dX9_mended_4 (by decide) (fun h => absurd h (by decide)) (fun _ => ?_)
    refine z_aload_n (pc := 7) C dX9_mended_7 rfl ?_
    refine z_iload_n (pc := 8) C dX9_mended_8 rfl ?_
    refine z_callVb (pc := 9) C zk_X9_179 (m_X9_isDeed _ _ _) rfl rfl (by decide) rfl rfl (Nat.le_of_ble_eq_true rfl) dX9_mended_9 (fun h9_2 => ?_) (fun h9_2 => ?_)
    · skip
      have b4x : zB a2 0 7 := (zltc h9_2 (hI 1 0 6).2)
      refine z_if_ne (pc := 12) 17 C dX9_mended_12 (by decide) (fun _ => ?_) (fun h => absurd h (by decide))
      refine z_aload_n (pc := 17) C dX9_mended_17 rfl ?_
      refine z_getR (pc := 18) C zf_X9_10 rfl rfl (by decide) dX9_mended_18 ?_
      refine z_iload_n (pc := 21) C dX9_mended_21 rfl ?_
      refine z_callV (pc := 22) C zk_X9_321 (w_X8_weighAlone _ _ a2 b4x hI) rfl rfl (by decide) rfl rfl (Nat.le_of_ble_eq_true rfl) dX9_mended_22 (fun r5 g5 q5 => ?_)
      obtain ⟨rfl, hI5, hF5q⟩ := q5
      have hF5 := zFr.tr hF hF5q (by decide)
      simp only [Option.toList, List.cons_append, List.nil_append]
      refine z_aload_n (pc := 25) C dX9_mended_25 rfl ?_
      refine z_getR (pc := 26) C zf_X9_24 rfl rfl (by decide) dX9_mended_26 ?_
      refine z_iload_n (pc := 29) C dX9_mended_29 rfl ?_
      refine z_iload_n (pc := 30) C dX9_mended_30 rfl ?_
      refine z_callV (pc := 31) C zk_X9_324 (w_X5_fewestBars _ _ a1 b2x a2 b4x hI5) rfl rfl (by decide) rfl rfl (Nat.le_of_ble_eq_true rfl) dX9_mended_31 (fun r6 g6 q6 => ?_)
      obtain ⟨⟨v6, rfl, b6x⟩, hI6, hF6q⟩ := q6
      have hF6 := zFr.tr hF5 hF6q (by decide)
      simp only [Option.toList, List.cons_append, List.nil_append]
      exact z_iret (pc := 34) C hr dX9_mended_34 ⟨⟨_, rfl, b6x⟩, hI6, hF6⟩
    · skip
      refine z_if_ne (pc := 12) 17 C dX9_mended_12 (by decide) (fun h => absurd (by decide) h) (fun _ => ?_)
      exact J0  f hI hF  (by omega)
  · skip
    refine z_if_eq (pc := 4) 15 C dX9_mended_4 (by decide) (fun _ => ?_) (fun h => absurd (by decide) h)
    exact J0  f hI hF  (by omega)
