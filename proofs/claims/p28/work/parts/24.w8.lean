set_option maxRecDepth 100000 in
set_option maxHeartbeats 4000000 in
theorem w_X10_takes (d : Nat) (f : zM) (a1 : Int32) (b1 : zB a1 1 126) (hI : zInv f) : ZM (d + 1) yX10_takes cX10_takes 3 (some .boolean) [zr 25 0, zi a1] f (fun r g => (∃ v, r = some (zi v) ∧ zB v 0 1) ∧ zInv g ∧ zFr [(25, some 17)] f g) := by
  refine ZM.intro (by decide +kernel) (Nat.le_of_ble_eq_true rfl) ?_
  intro X C hr hn
  have hF : zFr [(25, some 17)] f f := zFr.rf _ _
  have ct25_0_17 : zB (f 25 0 17) 0 120 := hI 25 0 17
  have J : ∀ t : Nat, (∀ a13_s0 : Int32, zB a13_s0 0 1 → ∀ g : zM, zInv g → zFr [(25, some 17)] f g → zB (g 25 0 17) 0 120 → ((1 ≤ a13_s0.toInt → 0 ≤ (g 25 0 17).toInt ∧ (g 25 0 17).toInt ≤ 119)) → (1 : Int) < t → Z X 13 [some (zr 25 0), some (zi a1), none] [zi a13_s0] g) ∧ (∀ a28_2 : Int32, zB a28_2 0 1 → ∀ a28_s1 : Int32, zB a28_s1 0 120 → ∀ a28_s2 : Int32, zB a28_s2 0 1 → ∀ g : zM, zInv g → zFr [(25, some 17)] f g → zB (g 25 0 17) 0 120 → ((1 ≤ a28_s2.toInt → a28_s1.toInt ≤ 119)) → (0 : Int) < t → Z X 28 [some (zr 25 0), some (zi a1), some (zi a28_2)] [zi a28_s2, zi a28_s1, zr 25 0] g) := by
    intro t
    induction t with
    | zero =>
      refine ⟨?_, ?_⟩ <;> (intros; exfalso; omega)
    | succ t ih =>
      obtain ⟨ih0, ih1⟩ := ih
      refine ⟨?_, ?_⟩
      · skip
        intro a13_s0 b13_s0 g13_ hI13_ hF13_ f13_25_0_17 hR13_0 hM13_
        refine z_istore_n (pc := 13) C dX10_takes_13 (by rw [hn]; decide) rfl ?_
        refine z_aload_n (pc := 14) C dX10_takes_14 rfl ?_
        refine z_dupr (pc := 15) C dX10_takes_15 ?_
        refine z_getI (pc := 16) C zf_X10_211 rfl rfl (by decide) dX10_takes_16 ?_
        refine w_gp (fun v => v.toInt = (g13_ 25 0 17).toInt) rfl (fun v1 e1 => ?_)
        have b1x : zB v1 0 120 := by have q9 : zB (g13_ 25 0 17) 0 120 := f13_25_0_17; constructor <;> omega
        refine z_iload_n (pc := 19) C dX10_takes_19 rfl ?_
        refine z_if_eq (pc := 20) 27 C dX10_takes_20 (by decide) (fun h20_1 => ?_) (fun h20_1 => ?_)
        · skip
          have b3x : zB a13_s0 0 0 := by have q1 := b13_s0; have q2 := (zB.of (x := 0) 0 (by decide)); simp only [z32lt, z32le, z32eq, Int32.reduceToInt, Int32.toInt_zero] at h20_1; constructor <;> omega
          refine z_iconst (pc := 27) (v := 0) C dX10_takes_27 (by decide) ?_
          exact ih1 a13_s0 (zB.wk (a' := 0) (b' := 1) b3x (by decide) (by decide)) v1 b1x 0 (zB.wk (a' := 0) (b' := 1) (zB.of (x := 0) 0 (by decide)) (by decide) (by decide)) g13_ hI13_ hF13_ f13_25_0_17 (by have qc0 : (0 : Int32).toInt = 0 := (by decide); omega) (by have qc0 : (0 : Int32).toInt = 0 := (by decide); omega)
        · skip
          have b4x : zB a13_s0 1 1 := by have q1 := b13_s0; have q2 := (zB.of (x := 0) 0 (by decide)); simp only [z32lt, z32le, z32eq, Int32.reduceToInt, Int32.toInt_zero] at h20_1; constructor <;> omega
          have c5x : zB (g13_ 25 0 17) 0 119 := by constructor <;> omega
          have b6x : zB v1 0 119 := by constructor <;> omega
          refine z_iconst (pc := 23) (v := 1) C dX10_takes_23 (by decide) ?_
          refine z_goto (pc := 24) 28 C dX10_takes_24 (by decide) ?_
          exact ih1 a13_s0 (zB.wk (a' := 0) (b' := 1) b4x (by decide) (by decide)) v1 (zB.wk (a' := 0) (b' := 120) b6x (by decide) (by decide)) 1 (zB.wk (a' := 0) (b' := 1) (zB.of (x := 1) 1 (by decide)) (by decide) (by decide)) g13_ hI13_ hF13_ (zB.wk c5x (by decide) (by decide)) (by have qc0 : (1 : Int32).toInt = 1 := (by decide); omega) (by have qc0 : (1 : Int32).toInt = 1 := (by decide); omega)
      · skip
        intro a28_2 b28_2 a28_s1 b28_s1 a28_s2 b28_s2 g28_ hI28_ hF28_ f28_25_0_17 hR28_0 hM28_
        refine z_iadd (pc := 28) C dX10_takes_28 ?_
        refine w_gp (fun v => v.toInt = a28_s1.toInt + a28_s2.toInt) (zadd_eb b28_s1 b28_s2 (by decide) (by decide)) (fun v7 e7 => ?_)
        have b7x : zB v7 0 121 := by have q1 := b28_s1; have q2 := b28_s2; constructor <;> omega
        refine z_putI (pc := 29) C zf_X10_211 zp_10_17 rfl rfl (by decide) dX10_takes_29 ?_
        refine w_mem2 hI28_ hF28_ (show zB v7 0 120 from by constructor <;> omega) rfl (fun g8 hI8 hF8 hq8 hx8 => ?_)
        have ec8 : (g8 25 0 17).toInt = v7.toInt := by rw [hx8]
        have c8x : zB (g8 25 0 17) 0 120 := by have q9 := b7x; constructor <;> omega
        refine z_iload_n (pc := 32) C dX10_takes_32 rfl ?_
        exact z_zret (pc := 33) C hr (z01 b28_2) dX10_takes_33 ⟨⟨_, rfl, b28_2⟩, hI8, hF8⟩
  obtain ⟨J0, J1⟩ := J 13
  show Z X 0 [some (zr 25 0), some (zi a1), none] [] f
  refine z_aload_n (pc := 0) C dX10_takes_0 rfl ?_
  refine z_callV (pc := 1) C zk_X10_214 (w_X10_next _ _  hI) rfl rfl (by decide) rfl rfl (Nat.le_of_ble_eq_true rfl) dX10_takes_1 (fun r9 g9 q9 => ?_)
  obtain ⟨⟨v9, rfl, b9x⟩, hI9, hF9q, hp9_0, hp9_1, hp9_2, hp9_3⟩ := q9
  have hp9_0 := hp9_0 _ rfl
  have hp9_1 := hp9_1 _ rfl
  have hp9_2 := hp9_2 _ rfl
  have hp9_3 := hp9_3 _ rfl
  have hF9 := zFr.tr hF hF9q (by decide)
  simp only [Option.toList, List.cons_append, List.nil_append]
  have cr9_25_0_17 : zB (g9 25 0 17) 0 120 := hI9 25 0 17
  refine z_iload_n (pc := 4) C dX10_takes_4 rfl ?_
  refine z_icmp_ne (pc := 5) 12 C dX10_takes_5 (by decide) (fun h5_9 => ?_) (fun h5_9 => ?_)
  · skip
    refine z_iconst (pc := 12) (v := 0) C dX10_takes_12 (by decide) ?_
    exact J0 0 (zB.wk (a' := 0) (b' := 1) (zB.of (x := 0) 0 (by decide)) (by decide) (by decide)) g9 hI9 hF9 cr9_25_0_17 (by have qc0 : (0 : Int32).toInt = 0 := (by decide); omega) (by have qc0 : (0 : Int32).toInt = 0 := (by decide); omega)
  · skip
    have b11x : zB v9 1 126 := by have q1 := b9x; have q2 := b1; simp only [z32lt, z32le, z32eq, Int32.reduceToInt, Int32.toInt_zero] at h5_9; constructor <;> omega
    have c12x : zB (g9 25 0 17) 0 119 := by constructor <;> omega
    refine z_iconst (pc := 8) (v := 1) C dX10_takes_8 (by decide) ?_
    refine z_goto (pc := 9) 13 C dX10_takes_9 (by decide) ?_
    exact J0 1 (zB.wk (a' := 0) (b' := 1) (zB.of (x := 1) 1 (by decide)) (by decide) (by decide)) g9 hI9 hF9 (zB.wk c12x (by decide) (by decide)) (by have qc0 : (1 : Int32).toInt = 1 := (by decide); omega) (by have qc0 : (1 : Int32).toInt = 1 := (by decide); omega)

set_option maxRecDepth 100000 in
set_option maxHeartbeats 4000000 in
theorem w_X10_readNumber (d : Nat) (f : zM) (a1 : Int32) (b1 : zB a1 0 40) (a2 : Int32) (b2 : zB a2 0 99) (hI : zInv f) : ZM (d + 1) yX10_readNumber cX10_readNumber 5 (some .int) [zr 25 0, zi a1, zi a2] f (fun r g => (∃ v, r = some (zi v) ∧ zB v (-1) 99) ∧ zInv g ∧ zFr [(25, some 17)] f g ∧ (∀ v : Int32, r = some (zi v) → v.toInt ≤ a2.toInt)) := by
  refine ZM.intro (by decide +kernel) (Nat.le_of_ble_eq_true rfl) ?_
  intro X C hr hn
  have hF : zFr [(25, some 17)] f f := zFr.rf _ _
  have ct25_0_17 : zB (f 25 0 17) 0 120 := hI 25 0 17
  have ct25_0_16 : zB (f 25 0 16) 0 120 := hI 25 0 16
  have J : ∀ t : Nat, (∀ a13_3 : Int32, zB a13_3 0 120 → ∀ a13_4 : Int32, zB a13_4 (-2147483648) 2147483647 → ∀ g : zM, zInv g → zFr [(25, some 17)] f g → zB (g 25 0 16) 0 120 → zB (g 25 0 17) 0 120 → (2 + 5 * (120 - (g 25 0 17).toInt) : Int) < t → Z X 13 [some (zr 25 0), some (zi a1), some (zi a2), some (zi a13_3), some (zi a13_4)] [] g) ∧ (∀ a77_3 : Int32, zB a77_3 0 120 → ∀ a77_4 : Int32, zB a77_4 (-2147483648) 2147483647 → ∀ a77_s0 : Int32, zB a77_s0 (-2147483648) 2147483647 → ∀ g : zM, zInv g → zFr [(25, some 17)] f g → zB (g 25 0 16) 1 120 → zB (g 25 0 17) 0 119 → (1 + 5 * (120 - (g 25 0 17).toInt) : Int) < t → Z X 77 [some (zr 25 0), some (zi a1), some (zi a2), some (zi a77_3), some (zi a77_4)] [zi a77_s0] g) ∧ (∀ a92_3 : Int32, zB a92_3 0 120 → ∀ a92_4 : Int32, zB a92_4 (-2147483648) 2147483647 → ∀ g : zM, zInv g → zFr [(25, some 17)] f g → zB (g 25 0 16) 0 120 → zB (g 25 0 17) 0 120 → (0 : Int) < t → Z X 92 [some (zr 25 0), some (zi a1), some (zi a2), some (zi a92_3), some (zi a92_4)] [] g) := by
    intro t
    induction t with
    | zero =>
      refine ⟨?_, ?_, ?_⟩ <;> (intros; exfalso; omega)
    | succ t ih =>
      obtain ⟨ih0, ih1, ih2⟩ := ih
      refine ⟨?_, ?_, ?_⟩
      · skip
        intro a13_3 b13_3 a13_4 b13_4 g13_ hI13_ hF13_ f13_25_0_16 f13_25_0_17 hM13_
        refine z_aload_n (pc := 13) C dX10_readNumber_13 rfl ?_
        refine z_getI (pc := 14) C zf_X10_211 rfl rfl (by decide) dX10_readNumber_14 ?_
        refine w_gp (fun v => v.toInt = (g13_ 25 0 17).toInt) rfl (fun v1 e1 => ?_)
        have b1x : zB v1 0 120 := by have q9 : zB (g13_ 25 0 17) 0 120 := f13_25_0_17; constructor <;> omega
        refine z_aload_n (pc := 17) C dX10_readNumber_17 rfl ?_
        refine z_getI (pc := 18) C zf_X10_208 rfl rfl (by decide) dX10_readNumber_18 ?_
        refine w_gp (fun v => v.toInt = (g13_ 25 0 16).toInt) rfl (fun v2 e2 => ?_)
        have b2x : zB v2 0 120 := by have q9 : zB (g13_ 25 0 16) 0 120 := f13_25_0_16; constructor <;> omega
        refine z_icmp_ge (pc := 21) 92 C dX10_readNumber_21 (by decide) (fun h21_2 => ?_) (fun h21_2 => ?_)
        · skip
          exact ih2 a13_3 b13_3 a13_4 b13_4 g13_ hI13_ hF13_ f13_25_0_16 f13_25_0_17 (by omega)
        · skip
          have b4x : zB v1 0 119 := by have q1 := b1x; have q2 := b2x; simp only [z32lt, z32le, z32eq, Int32.reduceToInt, Int32.toInt_zero] at h21_2; constructor <;> omega
          have c5x : zB (g13_ 25 0 17) 0 119 := by constructor <;> omega
          have b6x : zB v2 1 120 := by have q1 := b1x; have q2 := b2x; simp only [z32lt, z32le, z32eq, Int32.reduceToInt, Int32.toInt_zero] at h21_2; constructor <;> omega
          have c7x : zB (g13_ 25 0 16) 1 120 := by constructor <;> omega
          refine z_aload_n (pc := 24) C dX10_readNumber_24 rfl ?_
          refine z_getR (pc := 25) C zf_X10_40 rfl rfl (by decide) dX10_readNumber_25 ?_
          refine z_aload_n (pc := 28) C dX10_readNumber_28 rfl ?_
          refine z_getI (pc := 29) C zf_X10_211 rfl rfl (by decide) dX10_readNumber_29 ?_
          refine w_gp (fun v => v.toInt = (g13_ 25 0 17).toInt) rfl (fun v8 e8 => ?_)
          have b8x : zB v8 0 119 := by have q9 : zB (g13_ 25 0 17) 0 119 := c5x; constructor <;> omega
          refine z_iald (pc := 32) C rfl (by decide) (zIx b8x (by decide) (by decide)) dX10_readNumber_32 ?_
          refine w_gb 0 255 (hI13_ 36 _ _) (fun v9 b9x => ?_)
          refine z_i2l (pc := 33) C dX10_readNumber_33 ?_
          refine z_ldc2 (pc := 34) C zw_1380 dX10_readNumber_34 ?_
          refine z_ldc2 (pc := 37) C zw_1381 dX10_readNumber_37 ?_
          refine z_callSb (pc := 40) C zk_X10_69 (m_X10_in _ _ _ _ _) rfl rfl (Nat.le_of_ble_eq_true rfl) dX10_readNumber_40 (fun h40_9 => ?_) (fun h40_9 => ?_)
          · skip
            have b11x : zB v9 48 57 := zin64 h40_9 rfl rfl
            refine z_if_eq (pc := 43) 92 C dX10_readNumber_43 (by decide) (fun h => absurd h (by decide)) (fun _ => ?_)
            refine z_iload (pc := 46) C dX10_readNumber_46 rfl ?_
            refine z_sipush (pc := 48) (v := 999) C dX10_readNumber_48 (by decide) ?_
            refine z_icmp_le (pc := 51) 59 C dX10_readNumber_51 (by decide) (fun h51_11 => ?_) (fun h51_11 => ?_)
            · skip
              have b13x : zB a13_4 (-2147483648) 999 := by have q1 := b13_4; have q2 := (zB.of (x := 999) 999 (by decide)); simp only [z32lt, z32le, z32eq, Int32.reduceToInt, Int32.toInt_zero] at h51_11; constructor <;> omega
              refine z_bipush (pc := 59) (v := 10) C dX10_readNumber_59 (by decide) ?_
              refine z_iload (pc := 61) C dX10_readNumber_61 rfl ?_
              refine z_imul (pc := 63) C dX10_readNumber_63 ?_
              refine w_gb (-2147483648) 2147483647 (zB_any _) (fun v14 b14x => ?_)
              refine z_aload_n (pc := 64) C dX10_readNumber_64 rfl ?_
              refine z_getR (pc := 65) C zf_X10_40 rfl rfl (by decide) dX10_readNumber_65 ?_
              refine z_aload_n (pc := 68) C dX10_readNumber_68 rfl ?_
              refine z_getI (pc := 69) C zf_X10_211 rfl rfl (by decide) dX10_readNumber_69 ?_
              refine w_gp (fun v => v.toInt = (g13_ 25 0 17).toInt) rfl (fun v15 e15 => ?_)
              have b15x : zB v15 0 119 := by have q9 : zB (g13_ 25 0 17) 0 119 := c5x; constructor <;> omega
              refine z_iald (pc := 72) C rfl (by decide) (zIx b15x (by decide) (by decide)) dX10_readNumber_72 ?_
              refine w_gb 0 255 (hI13_ 36 _ _) (fun v16 b16x => ?_)
              refine z_iadd (pc := 73) C dX10_readNumber_73 ?_
              refine w_gb (-2147483648) 2147483647 (zB_any _) (fun v17 b17x => ?_)
              refine z_bipush (pc := 74) (v := 48) C dX10_readNumber_74 (by decide) ?_
              refine z_isub (pc := 76) C dX10_readNumber_76 ?_
              refine w_gb (-2147483648) 2147483647 (zB_any _) (fun v18 b18x => ?_)
              exact ih1 a13_3 b13_3 a13_4 (zB.wk (a' := (-2147483648)) (b' := 2147483647) b13x (by decide) (by decide)) v18 b18x g13_ hI13_ hF13_ c7x c5x (by omega)
            · skip
              have b19x : zB a13_4 1000 2147483647 := by have q1 := b13_4; have q2 := (zB.of (x := 999) 999 (by decide)); simp only [z32lt, z32le, z32eq, Int32.reduceToInt, Int32.toInt_zero] at h51_11; constructor <;> omega
              refine z_iload (pc := 54) C dX10_readNumber_54 rfl ?_
              refine z_goto (pc := 56) 77 C dX10_readNumber_56 (by decide) ?_
              exact ih1 a13_3 b13_3 a13_4 (zB.wk (a' := (-2147483648)) (b' := 2147483647) b19x (by decide) (by decide)) a13_4 (zB.wk (a' := (-2147483648)) (b' := 2147483647) b19x (by decide) (by decide)) g13_ hI13_ hF13_ c7x c5x (by omega)
          · skip
            refine z_if_eq (pc := 43) 92 C dX10_readNumber_43 (by decide) (fun _ => ?_) (fun h => absurd (by decide) h)
            exact ih2 a13_3 b13_3 a13_4 b13_4 g13_ hI13_ hF13_ (zB.wk c7x (by decide) (by decide)) (zB.wk c5x (by decide) (by decide)) (by omega)
      · skip
        intro a77_3 b77_3 a77_4 b77_4 a77_s0 b77_s0 g77_ hI77_ hF77_ f77_25_0_16 f77_25_0_17 hM77_
        refine z_istore (pc := 77) C dX10_readNumber_77 (by rw [hn]; decide) rfl ?_
        refine z_aload_n (pc := 79) C dX10_readNumber_79 rfl ?_
        refine z_dupr (pc := 80) C dX10_readNumber_80 ?_
        refine z_getI (pc := 81) C zf_X10_211 rfl rfl (by decide) dX10_readNumber_81 ?_
        refine w_gp (fun v => v.toInt = (g77_ 25 0 17).toInt) rfl (fun v20 e20 => ?_)
        have b20x : zB v20 0 119 := by have q9 : zB (g77_ 25 0 17) 0 119 := f77_25_0_17; constructor <;> omega
        refine z_iconst (pc := 84) (v := 1) C dX10_readNumber_84 (by decide) ?_
        refine z_iadd (pc := 85) C dX10_readNumber_85 ?_
        refine w_gp (fun v => v.toInt = v20.toInt + 1) (zadd_eb b20x (zB.of (x := 1) 1 (by decide)) (by decide) (by decide)) (fun v21 e21 => ?_)
        have b21x : zB v21 1 120 := by have q1 := b20x; have q2 := (zB.of (x := 1) 1 (by decide)); constructor <;> omega
        refine z_putI (pc := 86) C zf_X10_211 zp_10_17 rfl rfl (by decide) dX10_readNumber_86 ?_
        refine w_mem2 hI77_ hF77_ (zB.wk (a' := 0) (b' := 120) b21x (by decide) (by decide)) rfl (fun g22 hI22 hF22 hq22 hx22 => ?_)
        have ec22 : (g22 25 0 17).toInt = v21.toInt := by rw [hx22]
        have c22x : zB (g22 25 0 17) 1 120 := by have q9 := b21x; constructor <;> omega
        have ek22_25_0_16 : (g22 25 0 16).toInt = (g77_ 25 0 16).toInt := by rw [hq22 25 0 16 (by omega)]
        have c22_25_0_16x : zB (g22 25 0 16) 1 120 := by have q9 := f77_25_0_16; constructor <;> omega
        refine z_goto (pc := 89) 13 C dX10_readNumber_89 (by decide) ?_
        exact ih0 a77_3 b77_3 a77_s0 b77_s0 g22 hI22 hF22 (zB.wk c22_25_0_16x (by decide) (by decide)) (zB.wk c22x (by decide) (by decide)) (by omega)
      · skip
        intro a92_3 b92_3 a92_4 b92_4 g92_ hI92_ hF92_ f92_25_0_16 f92_25_0_17 hM92_
        refine z_aload_n (pc := 92) C dX10_readNumber_92 rfl ?_
        refine z_getI (pc := 93) C zf_X10_211 rfl rfl (by decide) dX10_readNumber_93 ?_
        refine w_gp (fun v => v.toInt = (g92_ 25 0 17).toInt) rfl (fun v23 e23 => ?_)
        have b23x : zB v23 0 120 := by have q9 : zB (g92_ 25 0 17) 0 120 := f92_25_0_17; constructor <;> omega
        refine z_iload_n (pc := 96) C dX10_readNumber_96 rfl ?_
        refine z_icmp_ne (pc := 97) 102 C dX10_readNumber_97 (by decide) (fun h97_23 => ?_) (fun h97_23 => ?_)
        · skip
          refine z_iload (pc := 102) C dX10_readNumber_102 rfl ?_
          refine z_i2l (pc := 104) C dX10_readNumber_104 ?_
          refine z_iload_n (pc := 105) C dX10_readNumber_105 rfl ?_
          refine z_i2l (pc := 106) C dX10_readNumber_106 ?_
          refine z_iload_n (pc := 107) C dX10_readNumber_107 rfl ?_
          refine z_i2l (pc := 108) C dX10_readNumber_108 ?_
          refine z_callSb (pc := 109) C zk_X10_69 (m_X10_in _ _ _ _ _) rfl rfl (Nat.le_of_ble_eq_true rfl) dX10_readNumber_109 (fun h109_24 => ?_) (fun h109_24 => ?_)
          · skip
            have b26x : zB a92_4 0 99 := zin64w h109_24 b1 b2
            have b26xr := zin64r h109_24
            refine z_if_ne (pc := 112) 122 C dX10_readNumber_112 (by decide) (fun _ => ?_) (fun h => absurd h (by decide))
            refine z_iload (pc := 122) C dX10_readNumber_122 rfl ?_
            exact z_iret (pc := 124) C hr dX10_readNumber_124 ⟨⟨_, rfl, (zB.wk (a' := (-1)) (b' := 99) b26x (by decide) (by decide))⟩, hI92_, hF92_, (by intro v hv; cases hv; omega)⟩
          · skip
            refine z_if_ne (pc := 112) 122 C dX10_readNumber_112 (by decide) (fun h => absurd (by decide) h) (fun _ => ?_)
            refine z_aload_n (pc := 115) C dX10_readNumber_115 rfl ?_
            refine z_iload_n (pc := 116) C dX10_readNumber_116 rfl ?_
            refine z_putI (pc := 117) C zf_X10_211 zp_10_17 rfl rfl (by decide) dX10_readNumber_117 ?_
            refine w_mem2 hI92_ hF92_ b92_3 rfl (fun g27 hI27 hF27 hq27 hx27 => ?_)
            have ec27 : (g27 25 0 17).toInt = a92_3.toInt := by rw [hx27]
            have c27x : zB (g27 25 0 17) 0 120 := by have q9 := b92_3; constructor <;> omega
            have ek27_25_0_16 : (g27 25 0 16).toInt = (g92_ 25 0 16).toInt := by rw [hq27 25 0 16 (by omega)]
            have c27_25_0_16x : zB (g27 25 0 16) 0 120 := by have q9 := f92_25_0_16; constructor <;> omega
            refine z_iconst (pc := 120) (v := -1) C dX10_readNumber_120 (by decide) ?_
            exact z_iret (pc := 121) C hr dX10_readNumber_121 ⟨⟨_, rfl, (zB.wk (a' := (-1)) (b' := 99) (zB.of (x := (-1)) (-1) (by decide)) (by decide) (by decide))⟩, hI27, hF27, (by intro v hv; cases hv; have qc0 : ((-1) : Int32).toInt = (-1) := (by decide); omega)⟩
        · skip
          refine z_iconst (pc := 100) (v := -1) C dX10_readNumber_100 (by decide) ?_
          exact z_iret (pc := 101) C hr dX10_readNumber_101 ⟨⟨_, rfl, (zB.wk (a' := (-1)) (b' := 99) (zB.of (x := (-1)) (-1) (by decide)) (by decide) (by decide))⟩, hI92_, hF92_, (by intro v hv; cases hv; have qc0 : ((-1) : Int32).toInt = (-1) := (by decide); omega)⟩
  obtain ⟨J0, J1, J2⟩ := J 619
  show Z X 0 [some (zr 25 0), some (zi a1), some (zi a2), none, none] [] f
  refine z_aload_n (pc := 0) C dX10_readNumber_0 rfl ?_
  refine z_callV (pc := 1) C zk_X10_214 (w_X10_next _ _  hI) rfl rfl (by decide) rfl rfl (Nat.le_of_ble_eq_true rfl) dX10_readNumber_1 (fun r28 g28 q28 => ?_)
  obtain ⟨⟨v28, rfl, b28x⟩, hI28, hF28q, hp28_0, hp28_1, hp28_2, hp28_3⟩ := q28
  have hp28_0 := hp28_0 _ rfl
  have hp28_1 := hp28_1 _ rfl
  have hp28_2 := hp28_2 _ rfl
  have hp28_3 := hp28_3 _ rfl
  have hF28 := zFr.tr hF hF28q (by decide)
  simp only [Option.toList, List.cons_append, List.nil_append]
  have cr28_25_0_17 : zB (g28 25 0 17) 0 120 := hI28 25 0 17
  have ek28_25_0_16 : (g28 25 0 16).toInt = (f 25 0 16).toInt := by rw [hF28q 25 0 16 rfl]
  have c28_25_0_16x : zB (g28 25 0 16) 0 120 := by have q9 := ct25_0_16; constructor <;> omega
  refine z_pop (pc := 4) C dX10_readNumber_4 ?_
  refine z_aload_n (pc := 5) C dX10_readNumber_5 rfl ?_
  refine z_getI (pc := 6) C zf_X10_211 rfl rfl (by decide) dX10_readNumber_6 ?_
  refine w_gp (fun v => v.toInt = (g28 25 0 17).toInt) rfl (fun v29 e29 => ?_)
  have b29x : zB v29 0 120 := by have q9 : zB (g28 25 0 17) 0 120 := cr28_25_0_17; constructor <;> omega
  refine z_istore_n (pc := 9) C dX10_readNumber_9 (by rw [hn]; decide) rfl ?_
  refine z_iconst (pc := 10) (v := 0) C dX10_readNumber_10 (by decide) ?_
  refine z_istore (pc := 11) C dX10_readNumber_11 (by rw [hn]; decide) rfl ?_
  exact J0 v29 b29x 0 (zB.wk (a' := (-2147483648)) (b' := 2147483647) (zB.of (x := 0) 0 (by decide)) (by decide) (by decide)) g28 hI28 hF28 c28_25_0_16x cr28_25_0_17 (by have qc0 : (0 : Int32).toInt = 0 := (by decide); omega)

set_option maxRecDepth 100000 in
set_option maxHeartbeats 4000000 in
theorem w_X10_readMarks (d : Nat) (f : zM) (a1 : Int32) (b1 : zB a1 0 63) (hI : zInv f) : ZM (d + 1) yX10_readMarks cX10_readMarks 7 (some .int) [zr 25 0, zi a1] f (fun r g => (∃ v, r = some (zi v) ∧ zB v 0 63) ∧ zInv g ∧ zFr [(25, some 17)] f g) := by
  refine ZM.intro (by decide +kernel) (Nat.le_of_ble_eq_true rfl) ?_
  intro X C hr hn
  have hF : zFr [(25, some 17)] f f := zFr.rf _ _
  have ct25_0_17 : zB (f 25 0 17) 0 120 := hI 25 0 17
  have J : ∀ t : Nat, (∀ a7_2 : Int32, zB a7_2 0 63 → ∀ a7_3 : Int32, zB a7_3 (-98) 158 → ∀ a7_4 : Int32, zB a7_4 0 1 → ∀ g : zM, zInv g → zFr [(25, some 17)] f g → zB (g 25 0 17) 0 120 → (5 + 8 * (2 * (120 - (g 25 0 17).toInt) + a7_4.toInt) : Int) < t → Z X 7 [some (zr 25 0), some (zi a1), some (zi a7_2), some (zi a7_3), some (zi a7_4), none, none] [] g) ∧ (∀ a54_2 : Int32, zB a54_2 0 63 → ∀ a54_3 : Int32, zB a54_3 (-98) 158 → ∀ a54_4 : Int32, zB a54_4 1 1 → ∀ a54_5 : Int32, zB a54_5 (-98) 158 → ∀ a54_6 : Int32, zB a54_6 0 1 → ∀ g : zM, zInv g → zFr [(25, some 17)] f g → zB (g 25 0 17) 0 120 → ((1 ≤ a54_6.toInt → 0 ≤ a54_5.toInt ∧ a54_5.toInt ≤ 5)) → ((1 ≤ a54_6.toInt → 0 ≤ (g 25 0 17).toInt ∧ (g 25 0 17).toInt ≤ 119)) → (4 + 8 * (2 * (120 - (g 25 0 17).toInt) + a54_4.toInt) : Int) < t → Z X 54 [some (zr 25 0), some (zi a1), some (zi a54_2), some (zi a54_3), some (zi a54_4), some (zi a54_5), some (zi a54_6)] [] g) ∧ (∀ a63_2 : Int32, zB a63_2 0 63 → ∀ a63_3 : Int32, zB a63_3 (-98) 158 → ∀ a63_4 : Int32, zB a63_4 1 1 → ∀ a63_5 : Int32, zB a63_5 (-98) 158 → ∀ a63_6 : Int32, zB a63_6 0 1 → ∀ g : zM, zInv g → zFr [(25, some 17)] f g → zB (g 25 0 17) 0 120 → (3 + 8 * (2 * (120 - (g 25 0 17).toInt) + a63_4.toInt) : Int) < t → Z X 63 [some (zr 25 0), some (zi a1), some (zi a63_2), some (zi a63_3), some (zi a63_4), some (zi a63_5), some (zi a63_6)] [] g) ∧ (∀ a65_2 : Int32, zB a65_2 0 63 → ∀ a65_3 : Int32, zB a65_3 (-98) 158 → ∀ a65_4 : Int32, zB a65_4 1 1 → ∀ a65_5 : Int32, zB a65_5 (-98) 158 → ∀ a65_6 : Int32, zB a65_6 0 1 → ∀ g : zM, zInv g → zFr [(25, some 17)] f g → zB (g 25 0 17) 0 120 → ((1 ≤ a65_6.toInt → 0 ≤ a65_5.toInt ∧ a65_5.toInt ≤ 5)) → ((1 ≤ a65_6.toInt → 0 ≤ (g 25 0 17).toInt ∧ (g 25 0 17).toInt ≤ 119)) → (2 + 8 * (2 * (120 - (g 25 0 17).toInt) + a65_4.toInt) : Int) < t → Z X 65 [some (zr 25 0), some (zi a1), some (zi a65_2), some (zi a65_3), some (zi a65_4), some (zi a65_5), some (zi a65_6)] [] g) ∧ (∀ a79_2 : Int32, zB a79_2 0 63 → ∀ a79_3 : Int32, zB a79_3 (-98) 158 → ∀ a79_4 : Int32, zB a79_4 1 1 → ∀ a79_5 : Int32, zB a79_5 (-98) 158 → ∀ a79_6 : Int32, zB a79_6 0 1 → ∀ a79_s0 : Int32, zB a79_s0 0 63 → ∀ a79_s1 : Int32, zB a79_s1 0 32 → ∀ g : zM, zInv g → zFr [(25, some 17)] f g → zB (g 25 0 17) 0 120 → ((1 ≤ a79_6.toInt → 0 ≤ (g 25 0 17).toInt ∧ (g 25 0 17).toInt ≤ 119)) → (1 + 8 * (2 * (120 - (g 25 0 17).toInt) + a79_4.toInt) : Int) < t → Z X 79 [some (zr 25 0), some (zi a1), some (zi a79_2), some (zi a79_3), some (zi a79_4), some (zi a79_5), some (zi a79_6)] [zi a79_s1, zi a79_s0] g) ∧ (∀ a99_2 : Int32, zB a99_2 0 63 → ∀ a99_3 : Int32, zB a99_3 (-98) 158 → ∀ a99_4 : Int32, zB a99_4 1 1 → ∀ a99_5 : Int32, zB a99_5 (-98) 158 → ∀ a99_6 : Int32, zB a99_6 0 1 → ∀ a99_s1 : Int32, zB a99_s1 0 120 → ∀ a99_s2 : Int32, zB a99_s2 0 1 → ∀ g : zM, zInv g → zFr [(25, some 17)] f g → zB (g 25 0 17) 0 120 → ((1 ≤ a99_s2.toInt → a99_s1.toInt ≤ 119)) → (a99_s2.toInt = a99_6.toInt) → (a99_s1.toInt = (g 25 0 17).toInt) → (0 + 8 * (2 * (120 - (g 25 0 17).toInt) + a99_4.toInt) : Int) < t → Z X 99 [some (zr 25 0), some (zi a1), some (zi a99_2), some (zi a99_3), some (zi a99_4), some (zi a99_5), some (zi a99_6)] [zi a99_s2, zi a99_s1, zr 25 0] g) := by
    intro t
    induction t with
    | zero =>
      refine ⟨?_, ?_, ?_, ?_, ?_, ?_⟩ <;> (intros; exfalso; omega)
    | succ t ih =>
      obtain ⟨ih0, ih1, ih2, ih3, ih4, ih5⟩ := ih
      refine ⟨?_, ?_, ?_, ?_, ?_, ?_⟩
      · skip
        intro a7_2 b7_2 a7_3 b7_3 a7_4 b7_4 g7_ hI7_ hF7_ f7_25_0_17 hM7_
        refine z_iload (pc := 7) C dX10_readMarks_7 rfl ?_
        refine z_if_eq (pc := 9) 110 C dX10_readMarks_9 (by decide) (fun h9_0 => ?_) (fun h9_0 => ?_)
        · skip
          have b2x : zB a7_4 0 0 := by have q1 := b7_4; have q2 := (zB.of (x := 0) 0 (by decide)); simp only [z32lt, z32le, z32eq, Int32.reduceToInt, Int32.toInt_zero] at h9_0; constructor <;> omega
          refine z_iload_n (pc := 110) C dX10_readMarks_110 rfl ?_
          exact z_iret (pc := 111) C hr dX10_readMarks_111 ⟨⟨_, rfl, b7_2⟩, hI7_, hF7_⟩
        · skip
          have b3x : zB a7_4 1 1 := by have q1 := b7_4; have q2 := (zB.of (x := 0) 0 (by decide)); simp only [z32lt, z32le, z32eq, Int32.reduceToInt, Int32.toInt_zero] at h9_0; constructor <;> omega
          refine z_aload_n (pc := 12) C dX10_readMarks_12 rfl ?_
          refine z_callV (pc := 13) C zk_X10_214 (w_X10_next _ _  hI7_) rfl rfl (by decide) rfl rfl (Nat.le_of_ble_eq_true rfl) dX10_readMarks_13 (fun r4 g4 q4 => ?_)
          obtain ⟨⟨v4, rfl, b4x⟩, hI4, hF4q, hp4_0, hp4_1, hp4_2, hp4_3⟩ := q4
          have hp4_0 := hp4_0 _ rfl
          have hp4_1 := hp4_1 _ rfl
          have hp4_2 := hp4_2 _ rfl
          have hp4_3 := hp4_3 _ rfl
          have hF4 := zFr.tr hF7_ hF4q (by decide)
          simp only [Option.toList, List.cons_append, List.nil_append]
          have cr4_25_0_17 : zB (g4 25 0 17) 0 120 := hI4 25 0 17
          refine z_bipush (pc := 16) (v := 97) C dX10_readMarks_16 (by decide) ?_
          refine z_isub (pc := 18) C dX10_readMarks_18 ?_
          refine w_gp (fun v => v.toInt = v4.toInt - 97) (zsub_eb b4x (zB.of (x := 97) 97 (by decide)) (by decide) (by decide)) (fun v5 e5 => ?_)
          have b5x : zB v5 (-98) 158 := by have q1 := b4x; have q2 := (zB.of (x := 97) 97 (by decide)); constructor <;> omega
          refine z_istore (pc := 19) C dX10_readMarks_19 (by rw [hn]; decide) rfl ?_
          refine z_iload (pc := 21) C dX10_readMarks_21 rfl ?_
          refine z_i2l (pc := 23) C dX10_readMarks_23 ?_
          refine z_lconst (pc := 24) (v := 0) C dX10_readMarks_24 (by decide) ?_
          refine z_ldc2 (pc := 25) C zw_1123 dX10_readMarks_25 ?_
          refine z_callSb (pc := 28) C zk_X10_69 (m_X10_in _ _ _ _ _) rfl rfl (Nat.le_of_ble_eq_true rfl) dX10_readMarks_28 (fun h28_5 => ?_) (fun h28_5 => ?_)
          · skip
            have b7x : zB v5 0 5 := zin64 h28_5 rfl rfl
            have b8x : zB v4 97 102 := by constructor <;> omega
            have c9x : zB (g4 25 0 17) 0 119 := by constructor <;> omega
            refine z_istore (pc := 31) C dX10_readMarks_31 (by rw [hn]; decide) rfl ?_
            refine z_iload (pc := 33) C dX10_readMarks_33 rfl ?_
            refine z_if_eq (pc := 35) 54 C dX10_readMarks_35 (by decide) (fun h35_9 => absurd h35_9 (by decide)) (fun h35_9 => ?_)
            refine z_iload (pc := 38) C dX10_readMarks_38 rfl ?_
            refine z_iload_n (pc := 40) C dX10_readMarks_40 rfl ?_
            refine z_icmp_le (pc := 41) 63 C dX10_readMarks_41 (by decide) (fun h41_10 => ?_) (fun h41_10 => ?_)
            · skip
              have b12x : zB a7_3 0 158 := by have q1 := b7x; have q2 := b7_3; simp only [z32lt, z32le, z32eq, Int32.reduceToInt, Int32.toInt_zero] at h41_10; constructor <;> omega
              exact ih2 a7_2 b7_2 a7_3 (zB.wk (a' := (-98)) (b' := 158) b12x (by decide) (by decide)) a7_4 b3x v5 (zB.wk (a' := (-98)) (b' := 158) b7x (by decide) (by decide)) 1 (zB.wk (a' := 0) (b' := 1) (zB.of (x := 1) 1 (by decide)) (by decide) (by decide)) g4 hI4 hF4 (zB.wk c9x (by decide) (by decide)) (by have qc0 : (1 : Int32).toInt = 1 := (by decide); omega)
            · skip
              have b13x : zB a7_3 (-98) 4 := by have q1 := b7x; have q2 := b7_3; simp only [z32lt, z32le, z32eq, Int32.reduceToInt, Int32.toInt_zero] at h41_10; constructor <;> omega
              refine z_iload_n (pc := 44) C dX10_readMarks_44 rfl ?_
              refine z_iload (pc := 45) C dX10_readMarks_45 rfl ?_
              refine z_ishr (pc := 47) C dX10_readMarks_47 ?_
              refine w_gb (-2147483648) 2147483647 (zB_any _) (fun v14 b14x => ?_)
              refine z_iconst (pc := 48) (v := 1) C dX10_readMarks_48 (by decide) ?_
              refine z_iand (pc := 49) C dX10_readMarks_49 ?_
              refine w_gb 0 1 (zand_b b14x (zB.of (x := 1) 1 (by decide)) (by decide)) (fun v15 b15x => ?_)
              refine z_iconst (pc := 50) (v := 1) C dX10_readMarks_50 (by decide) ?_
              refine z_icmp_eq (pc := 51) 63 C dX10_readMarks_51 (by decide) (fun h51_15 => ?_) (fun h51_15 => ?_)
              · skip
                have b17x : zB v15 1 1 := by have q1 := b15x; have q2 := (zB.of (x := 1) 1 (by decide)); simp only [z32lt, z32le, z32eq, Int32.reduceToInt, Int32.toInt_zero] at h51_15; constructor <;> omega
                exact ih2 a7_2 b7_2 a7_3 (zB.wk (a' := (-98)) (b' := 158) b13x (by decide) (by decide)) a7_4 b3x v5 (zB.wk (a' := (-98)) (b' := 158) b7x (by decide) (by decide)) 1 (zB.wk (a' := 0) (b' := 1) (zB.of (x := 1) 1 (by decide)) (by decide) (by decide)) g4 hI4 hF4 (zB.wk c9x (by decide) (by decide)) (by have qc0 : (1 : Int32).toInt = 1 := (by decide); omega)
              · skip
                have b18x : zB v15 0 0 := by have q1 := b15x; have q2 := (zB.of (x := 1) 1 (by decide)); simp only [z32lt, z32le, z32eq, Int32.reduceToInt, Int32.toInt_zero] at h51_15; constructor <;> omega
                exact ih1 a7_2 b7_2 a7_3 (zB.wk (a' := (-98)) (b' := 158) b13x (by decide) (by decide)) a7_4 b3x v5 (zB.wk (a' := (-98)) (b' := 158) b7x (by decide) (by decide)) 1 (zB.wk (a' := 0) (b' := 1) (zB.of (x := 1) 1 (by decide)) (by decide) (by decide)) g4 hI4 hF4 (zB.wk c9x (by decide) (by decide)) (by have qc0 : (1 : Int32).toInt = 1 := (by decide); omega) (by have qc0 : (1 : Int32).toInt = 1 := (by decide); omega) (by have qc0 : (1 : Int32).toInt = 1 := (by decide); omega)
          · skip
            refine z_istore (pc := 31) C dX10_readMarks_31 (by rw [hn]; decide) rfl ?_
            refine z_iload (pc := 33) C dX10_readMarks_33 rfl ?_
            refine z_if_eq (pc := 35) 54 C dX10_readMarks_35 (by decide) (fun h35_18 => ?_) (fun h35_18 => absurd h35_18 (by decide))
            exact ih1 a7_2 b7_2 a7_3 b7_3 a7_4 b3x v5 b5x 0 (zB.wk (a' := 0) (b' := 1) (zB.of (x := 0) 0 (by decide)) (by decide) (by decide)) g4 hI4 hF4 cr4_25_0_17 (by have qc0 : (0 : Int32).toInt = 0 := (by decide); omega) (by have qc0 : (0 : Int32).toInt = 0 := (by decide); omega) (by have qc0 : (0 : Int32).toInt = 0 := (by decide); omega)
      · skip
        intro a54_2 b54_2 a54_3 b54_3 a54_4 b54_4 a54_5 b54_5 a54_6 b54_6 g54_ hI54_ hF54_ f54_25_0_17 hR54_0 hR54_1 hM54_
        refine z_iload (pc := 54) C dX10_readMarks_54 rfl ?_
        refine z_if_ne (pc := 56) 65 C dX10_readMarks_56 (by decide) (fun h56_19 => ?_) (fun h56_19 => ?_)
        · skip
          have b21x : zB a54_6 1 1 := by have q1 := b54_6; have q2 := (zB.of (x := 0) 0 (by decide)); simp only [z32lt, z32le, z32eq, Int32.reduceToInt, Int32.toInt_zero] at h56_19; constructor <;> omega
          have b22x : zB a54_5 0 5 := by constructor <;> omega
          have c23x : zB (g54_ 25 0 17) 0 119 := by constructor <;> omega
          exact ih3 a54_2 b54_2 a54_3 b54_3 a54_4 b54_4 a54_5 (zB.wk (a' := (-98)) (b' := 158) b22x (by decide) (by decide)) a54_6 (zB.wk (a' := 0) (b' := 1) b21x (by decide) (by decide)) g54_ hI54_ hF54_ (zB.wk c23x (by decide) (by decide)) (by omega) (by omega) (by omega)
        · skip
          have b24x : zB a54_6 0 0 := by have q1 := b54_6; have q2 := (zB.of (x := 0) 0 (by decide)); simp only [z32lt, z32le, z32eq, Int32.reduceToInt, Int32.toInt_zero] at h56_19; constructor <;> omega
          refine z_iload_n (pc := 59) C dX10_readMarks_59 rfl ?_
          refine z_if_ne (pc := 60) 65 C dX10_readMarks_60 (by decide) (fun h60_24 => ?_) (fun h60_24 => ?_)
          · skip
            have b26x : zB a54_2 1 63 := by have q1 := b54_2; have q2 := (zB.of (x := 0) 0 (by decide)); simp only [z32lt, z32le, z32eq, Int32.reduceToInt, Int32.toInt_zero] at h60_24; constructor <;> omega
            exact ih3 a54_2 (zB.wk (a' := 0) (b' := 63) b26x (by decide) (by decide)) a54_3 b54_3 a54_4 b54_4 a54_5 b54_5 a54_6 (zB.wk (a' := 0) (b' := 1) b24x (by decide) (by decide)) g54_ hI54_ hF54_ f54_25_0_17 (by omega) (by omega) (by omega)
          · skip
            have b27x : zB a54_2 0 0 := by have q1 := b54_2; have q2 := (zB.of (x := 0) 0 (by decide)); simp only [z32lt, z32le, z32eq, Int32.reduceToInt, Int32.toInt_zero] at h60_24; constructor <;> omega
            exact ih2 a54_2 (zB.wk (a' := 0) (b' := 63) b27x (by decide) (by decide)) a54_3 b54_3 a54_4 b54_4 a54_5 b54_5 a54_6 (zB.wk (a' := 0) (b' := 1) b24x (by decide) (by decide)) g54_ hI54_ hF54_ f54_25_0_17 (by omega)
      · skip
        intro a63_2 b63_2 a63_3 b63_3 a63_4 b63_4 a63_5 b63_5 a63_6 b63_6 g63_ hI63_ hF63_ f63_25_0_17 hM63_
        refine z_iconst (pc := 63) (v := 0) C dX10_readMarks_63 (by decide) ?_
        exact z_iret (pc := 64) C hr dX10_readMarks_64 ⟨⟨_, rfl, (zB.wk (a' := 0) (b' := 63) (zB.of (x := 0) 0 (by decide)) (by decide) (by decide))⟩, hI63_, hF63_⟩
      · skip
        intro a65_2 b65_2 a65_3 b65_3 a65_4 b65_4 a65_5 b65_5 a65_6 b65_6 g65_ hI65_ hF65_ f65_25_0_17 hR65_0 hR65_1 hM65_
        refine z_iload_n (pc := 65) C dX10_readMarks_65 rfl ?_
        refine z_iload (pc := 66) C dX10_readMarks_66 rfl ?_
        refine z_if_eq (pc := 68) 78 C dX10_readMarks_68 (by decide) (fun h68_27 => ?_) (fun h68_27 => ?_)
        · skip
          have b29x : zB a65_6 0 0 := by have q1 := b65_6; have q2 := (zB.of (x := 0) 0 (by decide)); simp only [z32lt, z32le, z32eq, Int32.reduceToInt, Int32.toInt_zero] at h68_27; constructor <;> omega
          refine z_iconst (pc := 78) (v := 0) C dX10_readMarks_78 (by decide) ?_
          exact ih4 a65_2 b65_2 a65_3 b65_3 a65_4 b65_4 a65_5 b65_5 a65_6 (zB.wk (a' := 0) (b' := 1) b29x (by decide) (by decide)) a65_2 b65_2 0 (zB.wk (a' := 0) (b' := 32) (zB.of (x := 0) 0 (by decide)) (by decide) (by decide)) g65_ hI65_ hF65_ f65_25_0_17 (by have qc0 : (0 : Int32).toInt = 0 := (by decide); omega) (by have qc0 : (0 : Int32).toInt = 0 := (by decide); omega)
        · skip
          have b30x : zB a65_6 1 1 := by have q1 := b65_6; have q2 := (zB.of (x := 0) 0 (by decide)); simp only [z32lt, z32le, z32eq, Int32.reduceToInt, Int32.toInt_zero] at h68_27; constructor <;> omega
          have b31x : zB a65_5 0 5 := by constructor <;> omega
          have c32x : zB (g65_ 25 0 17) 0 119 := by constructor <;> omega
          refine z_iconst (pc := 71) (v := 1) C dX10_readMarks_71 (by decide) ?_
          refine z_iload (pc := 72) C dX10_readMarks_72 rfl ?_
          refine z_ishl (pc := 74) C dX10_readMarks_74 ?_
          refine w_gb 0 32 (zshl_b b31x 5 (by decide) (by decide)) (fun v33 b33x => ?_)
          refine z_goto (pc := 75) 79 C dX10_readMarks_75 (by decide) ?_
          exact ih4 a65_2 b65_2 a65_3 b65_3 a65_4 b65_4 a65_5 (zB.wk (a' := (-98)) (b' := 158) b31x (by decide) (by decide)) a65_6 (zB.wk (a' := 0) (b' := 1) b30x (by decide) (by decide)) a65_2 b65_2 v33 b33x g65_ hI65_ hF65_ (zB.wk c32x (by decide) (by decide)) (by omega) (by omega)
      · skip
        intro a79_2 b79_2 a79_3 b79_3 a79_4 b79_4 a79_5 b79_5 a79_6 b79_6 a79_s0 b79_s0 a79_s1 b79_s1 g79_ hI79_ hF79_ f79_25_0_17 hR79_0 hM79_
        refine z_ior (pc := 79) C dX10_readMarks_79 ?_
        refine w_gb 0 63 (zor_b 6 b79_s0 b79_s1 (by decide) (by decide) (by decide) (by decide) (by decide)) (fun v34 b34x => ?_)
        refine z_istore_n (pc := 80) C dX10_readMarks_80 (by rw [hn]; decide) rfl ?_
        refine z_iload (pc := 81) C dX10_readMarks_81 rfl ?_
        refine z_istore_n (pc := 83) C dX10_readMarks_83 (by rw [hn]; decide) rfl ?_
        refine z_aload_n (pc := 84) C dX10_readMarks_84 rfl ?_
        refine z_dupr (pc := 85) C dX10_readMarks_85 ?_
        refine z_getI (pc := 86) C zf_X10_211 rfl rfl (by decide) dX10_readMarks_86 ?_
        refine w_gp (fun v => v.toInt = (g79_ 25 0 17).toInt) rfl (fun v35 e35 => ?_)
        have b35x : zB v35 0 120 := by have q9 : zB (g79_ 25 0 17) 0 120 := f79_25_0_17; constructor <;> omega
        refine z_iload (pc := 89) C dX10_readMarks_89 rfl ?_
        refine z_if_eq (pc := 91) 98 C dX10_readMarks_91 (by decide) (fun h91_35 => ?_) (fun h91_35 => ?_)
        · skip
          have b37x : zB a79_6 0 0 := by have q1 := b79_6; have q2 := (zB.of (x := 0) 0 (by decide)); simp only [z32lt, z32le, z32eq, Int32.reduceToInt, Int32.toInt_zero] at h91_35; constructor <;> omega
          refine z_iconst (pc := 98) (v := 0) C dX10_readMarks_98 (by decide) ?_
          exact ih5 v34 b34x a79_5 b79_5 a79_4 b79_4 a79_5 b79_5 a79_6 (zB.wk (a' := 0) (b' := 1) b37x (by decide) (by decide)) v35 b35x 0 (zB.wk (a' := 0) (b' := 1) (zB.of (x := 0) 0 (by decide)) (by decide) (by decide)) g79_ hI79_ hF79_ f79_25_0_17 (by have qc0 : (0 : Int32).toInt = 0 := (by decide); omega) (by have qc0 : (0 : Int32).toInt = 0 := (by decide); omega) (by have qc0 : (0 : Int32).toInt = 0 := (by decide); omega) (by have qc0 : (0 : Int32).toInt = 0 := (by decide); omega)
        · skip
          have b38x : zB a79_6 1 1 := by have q1 := b79_6; have q2 := (zB.of (x := 0) 0 (by decide)); simp only [z32lt, z32le, z32eq, Int32.reduceToInt, Int32.toInt_zero] at h91_35; constructor <;> omega
          have c39x : zB (g79_ 25 0 17) 0 119 := by constructor <;> omega
          have b40x : zB v35 0 119 := by constructor <;> omega
          refine z_iconst (pc := 94) (v := 1) C dX10_readMarks_94 (by decide) ?_
          refine z_goto (pc := 95) 99 C dX10_readMarks_95 (by decide) ?_
          exact ih5 v34 b34x a79_5 b79_5 a79_4 b79_4 a79_5 b79_5 a79_6 (zB.wk (a' := 0) (b' := 1) b38x (by decide) (by decide)) v35 (zB.wk (a' := 0) (b' := 120) b40x (by decide) (by decide)) 1 (zB.wk (a' := 0) (b' := 1) (zB.of (x := 1) 1 (by decide)) (by decide) (by decide)) g79_ hI79_ hF79_ (zB.wk c39x (by decide) (by decide)) (by have qc0 : (1 : Int32).toInt = 1 := (by decide); omega) (by have qc0 : (1 : Int32).toInt = 1 := (by decide); omega) (by have qc0 : (1 : Int32).toInt = 1 := (by decide); omega) (by have qc0 : (1 : Int32).toInt = 1 := (by decide); omega)
      · skip
        intro a99_2 b99_2 a99_3 b99_3 a99_4 b99_4 a99_5 b99_5 a99_6 b99_6 a99_s1 b99_s1 a99_s2 b99_s2 g99_ hI99_ hF99_ f99_25_0_17 hR99_0 hR99_1 hR99_2 hM99_
        refine z_iadd (pc := 99) C dX10_readMarks_99 ?_
        refine w_gp (fun v => v.toInt = a99_s1.toInt + a99_s2.toInt) (zadd_eb b99_s1 b99_s2 (by decide) (by decide)) (fun v41 e41 => ?_)
        have b41x : zB v41 0 121 := by have q1 := b99_s1; have q2 := b99_s2; constructor <;> omega
        refine z_putI (pc := 100) C zf_X10_211 zp_10_17 rfl rfl (by decide) dX10_readMarks_100 ?_
        refine w_mem2 hI99_ hF99_ (show zB v41 0 120 from by constructor <;> omega) rfl (fun g42 hI42 hF42 hq42 hx42 => ?_)
        have ec42 : (g42 25 0 17).toInt = v41.toInt := by rw [hx42]
        have c42x : zB (g42 25 0 17) 0 120 := by have q9 := b41x; constructor <;> omega
        refine z_iload (pc := 103) C dX10_readMarks_103 rfl ?_
        refine z_istore (pc := 105) C dX10_readMarks_105 (by rw [hn]; decide) rfl ?_
        refine z_goto (pc := 107) 7 C dX10_readMarks_107 (by decide) ?_
        refine w_mask [5, 6] ?_
        exact ih0 a99_2 b99_2 a99_3 b99_3 a99_6 b99_6 g42 hI42 hF42 c42x (by omega)
  obtain ⟨J0, J1, J2, J3, J4, J5⟩ := J 1953
  show Z X 0 [some (zr 25 0), some (zi a1), none, none, none, none, none] [] f
  refine z_iconst (pc := 0) (v := 0) C dX10_readMarks_0 (by decide) ?_
  refine z_istore_n (pc := 1) C dX10_readMarks_1 (by rw [hn]; decide) rfl ?_
  refine z_iconst (pc := 2) (v := -1) C dX10_readMarks_2 (by decide) ?_
  refine z_istore_n (pc := 3) C dX10_readMarks_3 (by rw [hn]; decide) rfl ?_
  refine z_iconst (pc := 4) (v := 1) C dX10_readMarks_4 (by decide) ?_
  refine z_istore (pc := 5) C dX10_readMarks_5 (by rw [hn]; decide) rfl ?_
  exact J0 0 (zB.wk (a' := 0) (b' := 63) (zB.of (x := 0) 0 (by decide)) (by decide) (by decide)) (-1) (zB.wk (a' := (-98)) (b' := 158) (zB.of (x := (-1)) (-1) (by decide)) (by decide) (by decide)) 1 (zB.wk (a' := 0) (b' := 1) (zB.of (x := 1) 1 (by decide)) (by decide) (by decide)) f hI hF ct25_0_17 (by have qc0 : ((-1) : Int32).toInt = (-1) := (by decide); have qc1 : (0 : Int32).toInt = 0 := (by decide); have qc2 : (1 : Int32).toInt = 1 := (by decide); omega)

set_option maxRecDepth 100000 in
set_option maxHeartbeats 4000000 in
theorem w_X10_barOf (d : Nat) (f : zM) (a0 : Int32) (b0 : zB a0 (-1) 255) (hI : zInv f) : ZM d yX10_barOf cX10_barOf 1 (some .int) [zi a0] f (fun r g => (∃ v, r = some (zi v) ∧ zB v 0 16) ∧ zInv g ∧ zFr [] f g ∧ (∀ v : Int32, r = some (zi v) → (1 ≤ v.toInt → 0 ≤ a0.toInt ∧ a0.toInt ≤ 255))) := by
  refine ZM.intro (by decide +kernel) (Nat.le_of_ble_eq_true rfl) ?_
  intro X C hr hn
  have hF : zFr [] f f := zFr.rf _ _
  have J : ∀ t : Nat, (∀ a53_s0 : Int32, zB a53_s0 0 16 → ∀ g : zM, zInv g → zFr [] f g → ((1 ≤ a53_s0.toInt → 0 ≤ a0.toInt ∧ a0.toInt ≤ 255)) → (0 : Int) < t → Z X 53 [some (zi a0)] [zi a53_s0] g) := by
    intro t
    induction t with
    | zero =>
      intros; exfalso; omega
    | succ t ih =>
      have ih0 := ih
      intro a53_s0 b53_s0 g53_ hI53_ hF53_ hR53_0 hM53_
      exact z_iret (pc := 53) C hr dX10_barOf_53 ⟨⟨_, rfl, b53_s0⟩, hI53_, hF53_, (by intro v hv; cases hv; omega)⟩
  have J0 := J 12
  show Z X 0 [some (zi a0)] [] f
  refine z_iload_n (pc := 0) C dX10_barOf_0 rfl ?_
  refine z_bipush (pc := 1) (v := 111) C dX10_barOf_1 (by decide) ?_
  refine z_icmp_ne (pc := 3) 10 C dX10_barOf_3 (by decide) (fun h3_0 => ?_) (fun h3_0 => ?_)
  · skip
    refine z_iload_n (pc := 10) C dX10_barOf_10 rfl ?_
    refine z_bipush (pc := 11) (v := 106) C dX10_barOf_11 (by decide) ?_
    refine z_icmp_ne (pc := 13) 20 C dX10_barOf_13 (by decide) (fun h13_1 => ?_) (fun h13_1 => ?_)
    · skip
      refine z_iload_n (pc := 20) C dX10_barOf_20 rfl ?_
      refine z_bipush (pc := 21) (v := 112) C dX10_barOf_21 (by decide) ?_
      refine z_icmp_ne (pc := 23) 30 C dX10_barOf_23 (by decide) (fun h23_2 => ?_) (fun h23_2 => ?_)
      · skip
        refine z_iload_n (pc := 30) C dX10_barOf_30 rfl ?_
        refine z_bipush (pc := 31) (v := 107) C dX10_barOf_31 (by decide) ?_
        refine z_icmp_ne (pc := 33) 41 C dX10_barOf_33 (by decide) (fun h33_3 => ?_) (fun h33_3 => ?_)
        · skip
          refine z_iload_n (pc := 41) C dX10_barOf_41 rfl ?_
          refine z_bipush (pc := 42) (v := 104) C dX10_barOf_42 (by decide) ?_
          refine z_icmp_ne (pc := 44) 52 C dX10_barOf_44 (by decide) (fun h44_4 => ?_) (fun h44_4 => ?_)
          · skip
            refine z_iconst (pc := 52) (v := 0) C dX10_barOf_52 (by decide) ?_
            exact J0 0 (zB.wk (a' := 0) (b' := 16) (zB.of (x := 0) 0 (by decide)) (by decide) (by decide)) f hI hF (by have qc0 : (0 : Int32).toInt = 0 := (by decide); omega) (by have qc0 : (0 : Int32).toInt = 0 := (by decide); omega)
          · skip
            have b6x : zB a0 104 104 := by have q1 := b0; have q2 := (zB.of (x := 104) 104 (by decide)); simp only [z32lt, z32le, z32eq, Int32.reduceToInt, Int32.toInt_zero] at h44_4; constructor <;> omega
            refine z_bipush (pc := 47) (v := 16) C dX10_barOf_47 (by decide) ?_
            refine z_goto (pc := 49) 53 C dX10_barOf_49 (by decide) ?_
            exact J0 16 (zB.wk (a' := 0) (b' := 16) (zB.of (x := 16) 16 (by decide)) (by decide) (by decide)) f hI hF (by have qc0 : (16 : Int32).toInt = 16 := (by decide); omega) (by have qc0 : (16 : Int32).toInt = 16 := (by decide); omega)
        · skip
          have b7x : zB a0 107 107 := by have q1 := b0; have q2 := (zB.of (x := 107) 107 (by decide)); simp only [z32lt, z32le, z32eq, Int32.reduceToInt, Int32.toInt_zero] at h33_3; constructor <;> omega
          refine z_bipush (pc := 36) (v := 8) C dX10_barOf_36 (by decide) ?_
          refine z_goto (pc := 38) 53 C dX10_barOf_38 (by decide) ?_
          exact J0 8 (zB.wk (a' := 0) (b' := 16) (zB.of (x := 8) 8 (by decide)) (by decide) (by decide)) f hI hF (by have qc0 : (8 : Int32).toInt = 8 := (by decide); omega) (by have qc0 : (8 : Int32).toInt = 8 := (by decide); omega)
      · skip
        have b8x : zB a0 112 112 := by have q1 := b0; have q2 := (zB.of (x := 112) 112 (by decide)); simp only [z32lt, z32le, z32eq, Int32.reduceToInt, Int32.toInt_zero] at h23_2; constructor <;> omega
        refine z_iconst (pc := 26) (v := 4) C dX10_barOf_26 (by decide) ?_
        refine z_goto (pc := 27) 53 C dX10_barOf_27 (by decide) ?_
        exact J0 4 (zB.wk (a' := 0) (b' := 16) (zB.of (x := 4) 4 (by decide)) (by decide) (by decide)) f hI hF (by have qc0 : (4 : Int32).toInt = 4 := (by decide); omega) (by have qc0 : (4 : Int32).toInt = 4 := (by decide); omega)
    · skip
      have b9x : zB a0 106 106 := by have q1 := b0; have q2 := (zB.of (x := 106) 106 (by decide)); simp only [z32lt, z32le, z32eq, Int32.reduceToInt, Int32.toInt_zero] at h13_1; constructor <;> omega
      refine z_iconst (pc := 16) (v := 2) C dX10_barOf_16 (by decide) ?_
      refine z_goto (pc := 17) 53 C dX10_barOf_17 (by decide) ?_
      exact J0 2 (zB.wk (a' := 0) (b' := 16) (zB.of (x := 2) 2 (by decide)) (by decide) (by decide)) f hI hF (by have qc0 : (2 : Int32).toInt = 2 := (by decide); omega) (by have qc0 : (2 : Int32).toInt = 2 := (by decide); omega)
  · skip
    have b10x : zB a0 111 111 := by have q1 := b0; have q2 := (zB.of (x := 111) 111 (by decide)); simp only [z32lt, z32le, z32eq, Int32.reduceToInt, Int32.toInt_zero] at h3_0; constructor <;> omega
    refine z_iconst (pc := 6) (v := 1) C dX10_barOf_6 (by decide) ?_
    refine z_goto (pc := 7) 53 C dX10_barOf_7 (by decide) ?_
    exact J0 1 (zB.wk (a' := 0) (b' := 16) (zB.of (x := 1) 1 (by decide)) (by decide) (by decide)) f hI hF (by have qc0 : (1 : Int32).toInt = 1 := (by decide); omega) (by have qc0 : (1 : Int32).toInt = 1 := (by decide); omega)

set_option maxRecDepth 100000 in
set_option maxHeartbeats 4000000 in
theorem w_X10_promiseOf (d : Nat) (f : zM) (a0 : Int32) (b0 : zB a0 (-1) 255) (hI : zInv f) : ZM d yX10_promiseOf cX10_promiseOf 1 (some .int) [zi a0] f (fun r g => (∃ v, r = some (zi v) ∧ zB v 0 4) ∧ zInv g ∧ zFr [] f g ∧ (∀ v : Int32, r = some (zi v) → (1 ≤ v.toInt → 0 ≤ a0.toInt ∧ a0.toInt ≤ 255))) := by
  refine ZM.intro (by decide +kernel) (Nat.le_of_ble_eq_true rfl) ?_
  intro X C hr hn
  have hF : zFr [] f f := zFr.rf _ _
  have J : ∀ t : Nat, (∀ a31_s0 : Int32, zB a31_s0 0 4 → ∀ g : zM, zInv g → zFr [] f g → ((1 ≤ a31_s0.toInt → 0 ≤ a0.toInt ∧ a0.toInt ≤ 255)) → (0 : Int) < t → Z X 31 [some (zi a0)] [zi a31_s0] g) := by
    intro t
    induction t with
    | zero =>
      intros; exfalso; omega
    | succ t ih =>
      have ih0 := ih
      intro a31_s0 b31_s0 g31_ hI31_ hF31_ hR31_0 hM31_
      exact z_iret (pc := 31) C hr dX10_promiseOf_31 ⟨⟨_, rfl, b31_s0⟩, hI31_, hF31_, (by intro v hv; cases hv; omega)⟩
  have J0 := J 12
  show Z X 0 [some (zi a0)] [] f
  refine z_iload_n (pc := 0) C dX10_promiseOf_0 rfl ?_
  refine z_bipush (pc := 1) (v := 68) C dX10_promiseOf_1 (by decide) ?_
  refine z_icmp_ne (pc := 3) 10 C dX10_promiseOf_3 (by decide) (fun h3_0 => ?_) (fun h3_0 => ?_)
  · skip
    refine z_iload_n (pc := 10) C dX10_promiseOf_10 rfl ?_
    refine z_bipush (pc := 11) (v := 83) C dX10_promiseOf_11 (by decide) ?_
    refine z_icmp_ne (pc := 13) 20 C dX10_promiseOf_13 (by decide) (fun h13_1 => ?_) (fun h13_1 => ?_)
    · skip
      refine z_iload_n (pc := 20) C dX10_promiseOf_20 rfl ?_
      refine z_bipush (pc := 21) (v := 79) C dX10_promiseOf_21 (by decide) ?_
      refine z_icmp_ne (pc := 23) 30 C dX10_promiseOf_23 (by decide) (fun h23_2 => ?_) (fun h23_2 => ?_)
      · skip
        refine z_iconst (pc := 30) (v := 0) C dX10_promiseOf_30 (by decide) ?_
        exact J0 0 (zB.wk (a' := 0) (b' := 4) (zB.of (x := 0) 0 (by decide)) (by decide) (by decide)) f hI hF (by have qc0 : (0 : Int32).toInt = 0 := (by decide); omega) (by have qc0 : (0 : Int32).toInt = 0 := (by decide); omega)
      · skip
        have b4x : zB a0 79 79 := by have q1 := b0; have q2 := (zB.of (x := 79) 79 (by decide)); simp only [z32lt, z32le, z32eq, Int32.reduceToInt, Int32.toInt_zero] at h23_2; constructor <;> omega
        refine z_iconst (pc := 26) (v := 4) C dX10_promiseOf_26 (by decide) ?_
        refine z_goto (pc := 27) 31 C dX10_promiseOf_27 (by decide) ?_
        exact J0 4 (zB.wk (a' := 0) (b' := 4) (zB.of (x := 4) 4 (by decide)) (by decide) (by decide)) f hI hF (by have qc0 : (4 : Int32).toInt = 4 := (by decide); omega) (by have qc0 : (4 : Int32).toInt = 4 := (by decide); omega)
    · skip
      have b5x : zB a0 83 83 := by have q1 := b0; have q2 := (zB.of (x := 83) 83 (by decide)); simp only [z32lt, z32le, z32eq, Int32.reduceToInt, Int32.toInt_zero] at h13_1; constructor <;> omega
      refine z_iconst (pc := 16) (v := 2) C dX10_promiseOf_16 (by decide) ?_
      refine z_goto (pc := 17) 31 C dX10_promiseOf_17 (by decide) ?_
      exact J0 2 (zB.wk (a' := 0) (b' := 4) (zB.of (x := 2) 2 (by decide)) (by decide) (by decide)) f hI hF (by have qc0 : (2 : Int32).toInt = 2 := (by decide); omega) (by have qc0 : (2 : Int32).toInt = 2 := (by decide); omega)
  · skip
    have b6x : zB a0 68 68 := by have q1 := b0; have q2 := (zB.of (x := 68) 68 (by decide)); simp only [z32lt, z32le, z32eq, Int32.reduceToInt, Int32.toInt_zero] at h3_0; constructor <;> omega
    refine z_iconst (pc := 6) (v := 1) C dX10_promiseOf_6 (by decide) ?_
    refine z_goto (pc := 7) 31 C dX10_promiseOf_7 (by decide) ?_
    exact J0 1 (zB.wk (a' := 0) (b' := 4) (zB.of (x := 1) 1 (by decide)) (by decide) (by decide)) f hI hF (by have qc0 : (1 : Int32).toInt = 1 := (by decide); omega) (by have qc0 : (1 : Int32).toInt = 1 := (by decide); omega)
