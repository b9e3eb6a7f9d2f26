set_option maxRecDepth 100000 in
set_option maxHeartbeats 4000000 in
theorem w_X9_paper (d : Nat) (f : zM) (a1 : Int32) (b1 : zB a1 (-2147483648) 2147483647) (a2 : Int32) (b2 : zB a2 (-2147483648) 2147483647) (hI : zInv f) : ZM (d + 1) yX9_paper cX9_paper 4 (some .int) [zr 0 0, zi a1, zi a2] f (fun r g => (∃ v, r = some (zi v) ∧ zB v (-2147483648) 2147483647) ∧ zInv g ∧ zFr [] f g) := by
  refine ZM.intro (by decide +kernel) (Nat.le_of_ble_eq_true rfl) ?_
  intro X C hr hn
  have hF : zFr [] f f := zFr.rf _ _
  have J : ∀ t : Nat, (zB a1 0 11 → ∀ m100_3 : Nat, m100_3 < zcnt 11 → ∀ a100_s0 : Int32, zB a100_s0 (-12) 40 → ∀ g : zM, zInv g → zFr [] f g → (1 : Int) < t → Z X 100 [some (zr 0 0), some (zi a1), some (zi a2), some (zr 11 m100_3)] [zi a100_s0] g) ∧ (zB a1 0 11 → ∀ m118_3 : Nat, m118_3 < zcnt 11 → ∀ a118_s0 : Int32, zB a118_s0 (-2147483648) 2147483647 → ∀ g : zM, zInv g → zFr [] f g → (0 : Int) < t → Z X 118 [some (zr 0 0), some (zi a1), some (zi a2), some (zr 11 m118_3)] [zi a118_s0] g) := by
    intro t
    induction t with
    | zero =>
      refine ⟨?_, ?_⟩ <;> (intros; exfalso; omega)
    | succ t ih =>
      obtain ⟨ih0, ih1⟩ := ih
      refine ⟨?_, ?_⟩
      · skip
        intro b100_1 m100_3 h100_3 a100_s0 b100_s0 g100_ hI100_ hF100_ hM100_
        exact z_iret (pc := 100) C hr dX9_paper_100 ⟨⟨_, rfl, (zB.wk (a' := (-2147483648)) (b' := 2147483647) b100_s0 (by decide) (by decide))⟩, hI100_, hF100_⟩
      · skip
        intro b118_1 m118_3 h118_3 a118_s0 b118_s0 g118_ hI118_ hF118_ hM118_
        exact z_iret (pc := 118) C hr dX9_paper_118 ⟨⟨_, rfl, b118_s0⟩, hI118_, hF118_⟩
  obtain ⟨J0, J1⟩ := J 13
  show Z X 0 [some (zr 0 0), some (zi a1), some (zi a2), none] [] f
  refine z_aload_n (pc := 0) C dX9_paper_0 rfl ?_
  refine z_iload_n (pc := 1) C dX9_paper_1 rfl ?_
  refine z_callVb (pc := 2) C zk_X9_153 (m_X9_isPaper _ _ _) rfl rfl (by decide) rfl rfl (Nat.le_of_ble_eq_true rfl) dX9_paper_2 (fun h2_0 => ?_) (fun h2_0 => ?_)
  · skip
    have b2x : zB a1 0 11 := (zltc h2_0 (hI 1 0 7).2)
    refine z_if_ne (pc := 5) 10 C dX9_paper_5 (by decide) (fun _ => ?_) (fun h => absurd h (by decide))
    refine z_aload_n (pc := 10) C dX9_paper_10 rfl ?_
    refine z_getR (pc := 11) C zf_X9_10 rfl rfl (by decide) dX9_paper_11 ?_
    refine z_getR (pc := 14) C zf_X9_90 rfl rfl (by decide) dX9_paper_14 ?_
    refine z_iload_n (pc := 17) C dX9_paper_17 rfl ?_
    refine z_aald (pc := 18) C rfl ⟨rfl, by decide⟩ (by decide) (zIx b2x (by decide) (by decide)) dX9_paper_18 ?_
    refine w_gr (by have hq := zN b2x (by decide); show 12 * 0 + a1.toNatClampNeg < 36; omega) (fun m3 h3x => ?_)
    refine z_astore_n (pc := 19) C dX9_paper_19 (by rw [hn]; decide) rfl ?_
    refine z_iload_n (pc := 20) C dX9_paper_20 rfl ?_
    by_cases hsw0 : a2 = 0
    · skip
      refine z_tabE (pc := 21) hsw0 68 C dX9_paper_21 (by decide) (by decide) rfl (by decide) ?_
      refine z_aload_n (pc := 68) C dX9_paper_68 rfl ?_
      refine z_getI (pc := 69) C zf_X9_156 rfl rfl h3x dX9_paper_69 ?_
      refine w_gb 0 2 (hI 11 _ 0) (fun v4 b4x => ?_)
      exact z_iret (pc := 72) C hr dX9_paper_72 ⟨⟨_, rfl, (zB.wk (a' := (-2147483648)) (b' := 2147483647) b4x (by decide) (by decide))⟩, hI, hF⟩
    · skip
      by_cases hsw1 : a2 = 1
      · skip
        refine z_tabE (pc := 21) hsw1 73 C dX9_paper_21 (by decide) (by decide) rfl (by decide) ?_
        refine z_aload_n (pc := 73) C dX9_paper_73 rfl ?_
        refine z_getI (pc := 74) C zf_X9_159 rfl rfl h3x dX9_paper_74 ?_
        refine w_gb 0 5 (hI 11 _ 1) (fun v5 b5x => ?_)
        exact z_iret (pc := 77) C hr dX9_paper_77 ⟨⟨_, rfl, (zB.wk (a' := (-2147483648)) (b' := 2147483647) b5x (by decide) (by decide))⟩, hI, hF⟩
      · skip
        by_cases hsw2 : a2 = 2
        · skip
          refine z_tabE (pc := 21) hsw2 78 C dX9_paper_21 (by decide) (by decide) rfl (by decide) ?_
          refine z_aload_n (pc := 78) C dX9_paper_78 rfl ?_
          refine z_getI (pc := 79) C zf_X9_162 rfl rfl h3x dX9_paper_79 ?_
          refine w_gb 0 5 (hI 11 _ 2) (fun v6 b6x => ?_)
          exact z_iret (pc := 82) C hr dX9_paper_82 ⟨⟨_, rfl, (zB.wk (a' := (-2147483648)) (b' := 2147483647) b6x (by decide) (by decide))⟩, hI, hF⟩
        · skip
          by_cases hsw3 : a2 = 3
          · skip
            refine z_tabE (pc := 21) hsw3 83 C dX9_paper_21 (by decide) (by decide) rfl (by decide) ?_
            refine z_aload_n (pc := 83) C dX9_paper_83 rfl ?_
            refine z_getI (pc := 84) C zf_X9_156 rfl rfl h3x dX9_paper_84 ?_
            refine w_gb 0 2 (hI 11 _ 0) (fun v7 b7x => ?_)
            refine z_iconst (pc := 87) (v := 2) C dX9_paper_87 (by decide) ?_
            refine z_icmp_ne (pc := 88) 96 C dX9_paper_88 (by decide) (fun h88_7 => ?_) (fun h88_7 => ?_)
            · skip
              have b9x : zB v7 0 1 := by have q1 := b7x; have q2 := (zB.of (x := 2) 2 (by decide)); simp only [z32lt, z32le, z32eq, Int32.reduceToInt, Int32.toInt_zero] at h88_7; constructor <;> omega
              refine z_aload_n (pc := 96) C dX9_paper_96 rfl ?_
              refine z_getI (pc := 97) C zf_X9_165 rfl rfl h3x dX9_paper_97 ?_
              refine w_gb 0 40 (hI 11 _ 3) (fun v10 b10x => ?_)
              exact J0 b2x m3 h3x v10 (zB.wk (a' := (-12)) (b' := 40) b10x (by decide) (by decide)) f hI hF  (by omega)
            · skip
              have b11x : zB v7 2 2 := by have q1 := b7x; have q2 := (zB.of (x := 2) 2 (by decide)); simp only [z32lt, z32le, z32eq, Int32.reduceToInt, Int32.toInt_zero] at h88_7; constructor <;> omega
              refine z_bipush (pc := 91) (v := -12) C dX9_paper_91 (by decide) ?_
              refine z_goto (pc := 93) 100 C dX9_paper_93 (by decide) ?_
              exact J0 b2x m3 h3x (-12) (zB.wk (a' := (-12)) (b' := 40) (zB.of (x := (-12)) (-12) (by decide)) (by decide) (by decide)) f hI hF  (by have qc0 : ((-12) : Int32).toInt = (-12) := (by decide); omega)
          · skip
            by_cases hsw4 : a2 = 4
            · skip
              refine z_tabE (pc := 21) hsw4 101 C dX9_paper_21 (by decide) (by decide) rfl (by decide) ?_
              refine z_aload_n (pc := 101) C dX9_paper_101 rfl ?_
              refine z_getI (pc := 102) C zf_X9_156 rfl rfl h3x dX9_paper_102 ?_
              refine w_gb 0 2 (hI 11 _ 0) (fun v12 b12x => ?_)
              refine z_iconst (pc := 105) (v := 1) C dX9_paper_105 (by decide) ?_
              refine z_icmp_ne (pc := 106) 116 C dX9_paper_106 (by decide) (fun h106_12 => ?_) (fun h106_12 => ?_)
              · skip
                refine z_bipush (pc := 116) (v := -12) C dX9_paper_116 (by decide) ?_
                exact J1 b2x m3 h3x (-12) (zB.wk (a' := (-2147483648)) (b' := 2147483647) (zB.of (x := (-12)) (-12) (by decide)) (by decide) (by decide)) f hI hF  (by have qc0 : ((-12) : Int32).toInt = (-12) := (by decide); omega)
              · skip
                have b14x : zB v12 1 1 := by have q1 := b12x; have q2 := (zB.of (x := 1) 1 (by decide)); simp only [z32lt, z32le, z32eq, Int32.reduceToInt, Int32.toInt_zero] at h106_12; constructor <;> omega
                refine z_aload_n (pc := 109) C dX9_paper_109 rfl ?_
                refine z_getI (pc := 110) C zf_X9_168 rfl rfl h3x dX9_paper_110 ?_
                refine w_gb (-2147483648) 2147483647 (hI 11 _ 4) (fun v15 b15x => ?_)
                refine z_goto (pc := 113) 118 C dX9_paper_113 (by decide) ?_
                exact J1 b2x m3 h3x v15 b15x f hI hF  (by omega)
            · skip
              by_cases hsw5 : a2 = 5
              · skip
                refine z_tabE (pc := 21) hsw5 119 C dX9_paper_21 (by decide) (by decide) rfl (by decide) ?_
                refine z_aload_n (pc := 119) C dX9_paper_119 rfl ?_
                refine z_getI (pc := 120) C zf_X9_170 rfl rfl h3x dX9_paper_120 ?_
                refine w_gb 0 31 (hI 11 _ 5) (fun v16 b16x => ?_)
                exact z_iret (pc := 123) C hr dX9_paper_123 ⟨⟨_, rfl, (zB.wk (a' := (-2147483648)) (b' := 2147483647) b16x (by decide) (by decide))⟩, hI, hF⟩
              · skip
                by_cases hsw6 : a2 = 6
                · skip
                  refine z_tabE (pc := 21) hsw6 124 C dX9_paper_21 (by decide) (by decide) rfl (by decide) ?_
                  refine z_aload_n (pc := 124) C dX9_paper_124 rfl ?_
                  refine z_getI (pc := 125) C zf_X9_173 rfl rfl h3x dX9_paper_125 ?_
                  refine w_gb 0 99 (hI 11 _ 6) (fun v17 b17x => ?_)
                  exact z_iret (pc := 128) C hr dX9_paper_128 ⟨⟨_, rfl, (zB.wk (a' := (-2147483648)) (b' := 2147483647) b17x (by decide) (by decide))⟩, hI, hF⟩
                · skip
                  by_cases hsw7 : a2 = 7
                  · skip
                    refine z_tabE (pc := 21) hsw7 129 C dX9_paper_21 (by decide) (by decide) rfl (by decide) ?_
                    refine z_aload_n (pc := 129) C dX9_paper_129 rfl ?_
                    refine z_getI (pc := 130) C zf_X9_176 rfl rfl h3x dX9_paper_130 ?_
                    refine w_gb 0 7 (hI 11 _ 7) (fun v18 b18x => ?_)
                    exact z_iret (pc := 133) C hr dX9_paper_133 ⟨⟨_, rfl, (zB.wk (a' := (-2147483648)) (b' := 2147483647) b18x (by decide) (by decide))⟩, hI, hF⟩
                  · skip
                    refine z_tabOut (pc := 21) 134 C dX9_paper_21 (by simp only [z32eq, Int32.reduceToInt, Int32.toInt_zero, Int32.toInt_one] at *; omega) (by decide) ?_
                    refine z_iconst (pc := 134) (v := -1) C dX9_paper_134 (by decide) ?_
                    exact z_iret (pc := 135) C hr dX9_paper_135 ⟨⟨_, rfl, (zB.wk (a' := (-2147483648)) (b' := 2147483647) (zB.of (x := (-1)) (-1) (by decide)) (by decide) (by decide))⟩, hI, hF⟩
  · skip
    refine z_if_ne (pc := 5) 10 C dX9_paper_5 (by decide) (fun h => absurd (by decide) h) (fun _ => ?_)
    refine z_iconst (pc := 8) (v := -1) C dX9_paper_8 (by decide) ?_
    exact z_iret (pc := 9) C hr dX9_paper_9 ⟨⟨_, rfl, (zB.wk (a' := (-2147483648)) (b' := 2147483647) (zB.of (x := (-1)) (-1) (by decide)) (by decide) (by decide))⟩, hI, hF⟩
