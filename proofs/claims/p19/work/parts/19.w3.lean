set_option maxRecDepth 100000 in
set_option maxHeartbeats 4000000 in
theorem w_X5_begin (d : Nat) (f : zM)  (hI : zInv f) : ZM d yX5_begin cX5_begin 1 none [zr 13 0] f (fun r g => r = none ∧ zInv g ∧ zFr [(13, some 6), (13, some 7)] f g) := by
  refine ZM.intro (by decide +kernel) (Nat.le_of_ble_eq_true rfl) ?_
  intro X C hr hn
  have hF : zFr [(13, some 6), (13, some 7)] f f := zFr.rf _ _
  show Z X 0 [some (zr 13 0)] [] f
  refine z_aload_n (pc := 0) C dX5_begin_0 rfl ?_
  refine z_dupr (pc := 1) C dX5_begin_1 ?_
  refine z_getI (pc := 2) C zf_X5_58 rfl rfl (by decide) dX5_begin_2 ?_
  refine w_gb (-2147483648) 2147483647 (hI 13 _ 7) (fun v1 b1x => ?_)
  refine z_iconst (pc := 5) (v := 1) C dX5_begin_5 (by decide) ?_
  refine z_iadd (pc := 6) C dX5_begin_6 ?_
  refine w_gb (-2147483648) 2147483647 (zB_any _) (fun v2 b2x => ?_)
  refine z_putI (pc := 7) C zf_X5_58 zp_5_7 rfl rfl (by decide) dX5_begin_7 ?_
  refine w_mem hI hF b2x rfl (fun g3 hI3 hF3 => ?_)
  refine z_aload_n (pc := 10) C dX5_begin_10 rfl ?_
  refine z_iconst (pc := 11) (v := 1) C dX5_begin_11 (by decide) ?_
  refine z_putI (pc := 12) C zf_X5_38 zp_5_6 rfl rfl (by decide) dX5_begin_12 ?_
  refine w_mem hI3 hF3 (zB.wk (a' := 0) (b' := 3073) (zB.of (x := 1) 1 (by decide)) (by decide) (by decide)) rfl (fun g4 hI4 hF4 => ?_)
  exact z_vret (pc := 15) C hr dX5_begin_15 ⟨rfl, hI4, hF4⟩

set_option maxRecDepth 100000 in
set_option maxHeartbeats 4000000 in
theorem w_X5_placeWalker (d : Nat) (f : zM) (a1 : Int32) (b1 : zB a1 0 3072) (hI : zInv f) : ZM (d + 2) yX5_placeWalker cX5_placeWalker 2 none [zr 13 0, zi a1] f (fun r g => r = none ∧ zInv g ∧ zFr [(6, some 1), (6, some 4), (6, some 5), (6, some 6)] f g) := by
  refine ZM.intro (by decide +kernel) (Nat.le_of_ble_eq_true rfl) ?_
  intro X C hr hn
  have hF : zFr [(6, some 1), (6, some 4), (6, some 5), (6, some 6)] f f := zFr.rf _ _
  have J : ∀ t : Nat, (∀ g : zM, zInv g → zFr [(6, some 1), (6, some 4), (6, some 5), (6, some 6)] f g → (0 : Int) < t → Z X 56 [some (zr 13 0), some (zi a1)] [] g) := by
    intro t
    induction t with
    | zero =>
      intros; exfalso; omega
    | succ t ih =>
      have ih0 := ih
      intro g56_ hI56_ hF56_ hM56_
      exact z_vret (pc := 56) C hr dX5_placeWalker_56 ⟨rfl, hI56_, hF56_⟩
  have J0 := J 12
  show Z X 0 [some (zr 13 0), some (zi a1)] [] f
  refine z_iload_n (pc := 0) C dX5_placeWalker_0 rfl ?_
  refine z_if_ne (pc := 1) 21 C dX5_placeWalker_1 (by decide) (fun h1_0 => ?_) (fun h1_0 => ?_)
  · skip
    have b2x : zB a1 1 3072 := by have q1 := b1; have q2 := (zB.of (x := 0) 0 (by decide)); simp only [z32lt, z32le, z32eq, Int32.reduceToInt, Int32.toInt_zero] at h1_0; constructor <;> omega
    refine z_aload_n (pc := 21) C dX5_placeWalker_21 rfl ?_
    refine z_getR (pc := 22) C zf_X5_12 rfl rfl (by decide) dX5_placeWalker_22 ?_
    refine z_aload_n (pc := 25) C dX5_placeWalker_25 rfl ?_
    refine z_getR (pc := 26) C zf_X5_31 rfl rfl (by decide) dX5_placeWalker_26 ?_
    refine z_getR (pc := 29) C zf_X5_68 rfl rfl (by decide) dX5_placeWalker_29 ?_
    refine z_aload_n (pc := 32) C dX5_placeWalker_32 rfl ?_
    refine z_getR (pc := 33) C zf_X5_22 rfl rfl (by decide) dX5_placeWalker_33 ?_
    refine z_iload_n (pc := 36) C dX5_placeWalker_36 rfl ?_
    refine z_iald (pc := 37) C rfl (by decide) (zIx b2x (by decide) (by decide)) dX5_placeWalker_37 ?_
    refine w_gb 0 3071 (hI 15 _ _) (fun v3 b3x => ?_)
    refine z_sipush (pc := 38) (v := 256) C dX5_placeWalker_38 (by decide) ?_
    refine z_idiv (pc := 41) C dX5_placeWalker_41 (by decide) ?_
    refine w_gb 0 11 (zdiv_b 256 b3x (by decide) (by decide) (by decide)) (fun v4 b4x => ?_)
    refine z_aald (pc := 42) C rfl ⟨rfl, by decide⟩ (by decide) (zIx b4x (by decide) (by decide)) dX5_placeWalker_42 ?_
    refine w_gr (by have hq := zN b4x (by decide); show 12 * 0 + v4.toNatClampNeg < 36; omega) (fun m5 h5x => ?_)
    refine z_aload_n (pc := 43) C dX5_placeWalker_43 rfl ?_
    refine z_getR (pc := 44) C zf_X5_22 rfl rfl (by decide) dX5_placeWalker_44 ?_
    refine z_iload_n (pc := 47) C dX5_placeWalker_47 rfl ?_
    refine z_iald (pc := 48) C rfl (by decide) (zIx b2x (by decide) (by decide)) dX5_placeWalker_48 ?_
    refine w_gb 0 3071 (hI 15 _ _) (fun v6 b6x => ?_)
    refine z_sipush (pc := 49) (v := 256) C dX5_placeWalker_49 (by decide) ?_
    refine z_irem (pc := 52) C dX5_placeWalker_52 (by decide) ?_
    refine w_gb 0 255 (zrem_b 256 b6x (by decide) (by decide) (by decide)) (fun v7 b7x => ?_)
    refine z_callV (pc := 53) C zk_X5_72 (w_X3_go _ _ 2 (by decide) m5 h5x v7 b7x hI) rfl rfl (by decide) rfl rfl (Nat.le_of_ble_eq_true rfl) dX5_placeWalker_53 (fun r8 g8 q8 => ?_)
    obtain ⟨rfl, hI8, hF8q⟩ := q8
    have hF8 := zFr.tr hF hF8q (by decide)
    simp only [Option.toList, List.cons_append, List.nil_append]
    exact J0  g8 hI8 hF8  (by omega)
  · skip
    have b9x : zB a1 0 0 := by have q1 := b1; have q2 := (zB.of (x := 0) 0 (by decide)); simp only [z32lt, z32le, z32eq, Int32.reduceToInt, Int32.toInt_zero] at h1_0; constructor <;> omega
    refine z_aload_n (pc := 4) C dX5_placeWalker_4 rfl ?_
    refine z_getR (pc := 5) C zf_X5_12 rfl rfl (by decide) dX5_placeWalker_5 ?_
    refine z_aload_n (pc := 8) C dX5_placeWalker_8 rfl ?_
    refine z_getR (pc := 9) C zf_X5_31 rfl rfl (by decide) dX5_placeWalker_9 ?_
    refine z_getR (pc := 12) C zf_X5_61 rfl rfl (by decide) dX5_placeWalker_12 ?_
    refine z_callV (pc := 15) C zk_X5_64 (w_X3_stand _ _ 2 (by decide) 0 (by decide) hI) rfl rfl (by decide) rfl rfl (Nat.le_of_ble_eq_true rfl) dX5_placeWalker_15 (fun r10 g10 q10 => ?_)
    obtain ⟨rfl, hI10, hF10q⟩ := q10
    have hF10 := zFr.tr hF hF10q (by decide)
    simp only [Option.toList, List.cons_append, List.nil_append]
    refine z_goto (pc := 18) 56 C dX5_placeWalker_18 (by decide) ?_
    exact J0  g10 hI10 hF10  (by omega)

set_option maxRecDepth 100000 in
set_option maxHeartbeats 4000000 in
theorem w_X5_spread (d : Nat) (f : zM) (a1 : Int32) (b1 : zB a1 0 3072) (hI : zInv f) : ZM (d + 2) yX5_spread cX5_spread 5 none [zr 13 0, zi a1] f (fun r g => r = none ∧ zInv g ∧ zFr [(13, some 6), (14, none), (15, none), (16, none)] f g) := by
  refine ZM.intro (by decide +kernel) (Nat.le_of_ble_eq_true rfl) ?_
  intro X C hr hn
  have hF : zFr [(13, some 6), (14, none), (15, none), (16, none)] f f := zFr.rf _ _
  have ct13_0_6 : zB (f 13 0 6) 0 3073 := hI 13 0 6
  have J : ∀ t : Nat, (∀ a2_2 : Int32, zB a2_2 0 12 → ∀ g : zM, zInv g → zFr [(13, some 6), (14, none), (15, none), (16, none)] f g → zB (g 13 0 6) 0 3073 → (2 + 5 * (12 - a2_2.toInt) : Int) < t → Z X 2 [some (zr 13 0), some (zi a1), some (zi a2_2), none, none] [] g) ∧ (∀ a58_2 : Int32, zB a58_2 0 11 → ∀ a58_3 : Int32, zB a58_3 0 255 → ∀ a58_s0 : Int32, zB a58_s0 0 2816 → ∀ a58_s1 : Int32, zB a58_s1 0 255 → ∀ g : zM, zInv g → zFr [(13, some 6), (14, none), (15, none), (16, none)] f g → zB (g 13 0 6) 0 3073 → (1 + 5 * (12 - a58_2.toInt) : Int) < t → Z X 58 [some (zr 13 0), some (zi a1), some (zi a58_2), some (zi a58_3), none] [zi a58_s1, zi a58_s0] g) ∧ (∀ a133_2 : Int32, zB a133_2 0 11 → ∀ a133_3 : Int32, zB a133_3 0 255 → ∀ a133_4 : Int32, zB a133_4 0 3071 → ∀ g : zM, zInv g → zFr [(13, some 6), (14, none), (15, none), (16, none)] f g → zB (g 13 0 6) 0 3073 → (0 + 5 * (12 - a133_2.toInt) : Int) < t → Z X 133 [some (zr 13 0), some (zi a1), some (zi a133_2), some (zi a133_3), some (zi a133_4)] [] g) := by
    intro t
    induction t with
    | zero =>
      refine ⟨?_, ?_, ?_⟩ <;> (intros; exfalso; omega)
    | succ t ih =>
      obtain ⟨ih0, ih1, ih2⟩ := ih
      refine ⟨?_, ?_, ?_⟩
      · skip
        intro a2_2 b2_2 g2_ hI2_ hF2_ f2_13_0_6 hM2_
        refine z_iload_n (pc := 2) C dX5_spread_2 rfl ?_
        refine z_aload_n (pc := 3) C dX5_spread_3 rfl ?_
        refine z_getR (pc := 4) C zf_X5_31 rfl rfl (by decide) dX5_spread_4 ?_
        refine z_getI (pc := 7) C zf_X5_76 rfl rfl (by decide) dX5_spread_7 ?_
        refine w_gb 0 12 (hI2_ 1 _ 7) (fun v1 b1x => ?_)
        refine z_icmp_ge (pc := 10) 139 C dX5_spread_10 (by decide) (fun h10_1 => ?_) (fun h10_1 => ?_)
        · skip
          exact z_vret (pc := 139) C hr dX5_spread_139 ⟨rfl, hI2_, hF2_⟩
        · skip
          have b3x : zB a2_2 0 11 := by have q1 := b2_2; have q2 := b1x; simp only [z32lt, z32le, z32eq, Int32.reduceToInt, Int32.toInt_zero] at h10_1; constructor <;> omega
          have b4x : zB v1 1 12 := by have q1 := b2_2; have q2 := b1x; simp only [z32lt, z32le, z32eq, Int32.reduceToInt, Int32.toInt_zero] at h10_1; constructor <;> omega
          refine z_aload_n (pc := 13) C dX5_spread_13 rfl ?_
          refine z_getR (pc := 14) C zf_X5_12 rfl rfl (by decide) dX5_spread_14 ?_
          refine z_aload_n (pc := 17) C dX5_spread_17 rfl ?_
          refine z_getR (pc := 18) C zf_X5_31 rfl rfl (by decide) dX5_spread_18 ?_
          refine z_getR (pc := 21) C zf_X5_68 rfl rfl (by decide) dX5_spread_21 ?_
          refine z_iload_n (pc := 24) C dX5_spread_24 rfl ?_
          refine z_aald (pc := 25) C rfl ⟨rfl, by decide⟩ (by decide) (zIx b3x (by decide) (by decide)) dX5_spread_25 ?_
          refine w_gr (by have hq := zN b3x (by decide); show 12 * 0 + a2_2.toNatClampNeg < 36; omega) (fun m5 h5x => ?_)
          refine z_callV (pc := 26) C zk_X5_79 (w_X3_goesBy _ _ 2 (by decide) m5 h5x hI2_) rfl rfl (by decide) rfl rfl (Nat.le_of_ble_eq_true rfl) dX5_spread_26 (fun r6 g6 q6 => ?_)
          obtain ⟨⟨v6, rfl, b6x⟩, hI6, hF6q⟩ := q6
          obtain rfl := zFr_nil hF6q
          simp only [Option.toList, List.cons_append, List.nil_append]
          refine z_istore_n (pc := 29) C dX5_spread_29 (by rw [hn]; decide) rfl ?_
          refine z_iload_n (pc := 30) C dX5_spread_30 rfl ?_
          refine z_sipush (pc := 31) (v := 256) C dX5_spread_31 (by decide) ?_
          refine z_imul (pc := 34) C dX5_spread_34 ?_
          refine w_gp (fun v => v.toInt = 256 * a2_2.toInt) (by rw [Int32.mul_comm]; exact zmul_kb 256 (by decide) (by decide) b3x (by decide) (by decide)) (fun v7 e7 => ?_)
          have b7x : zB v7 0 2816 := zmul_bb e7 (by decide) b3x
          refine z_aload_n (pc := 35) C dX5_spread_35 rfl ?_
          refine z_getR (pc := 36) C zf_X5_31 rfl rfl (by decide) dX5_spread_36 ?_
          refine z_getR (pc := 39) C zf_X5_68 rfl rfl (by decide) dX5_spread_39 ?_
          refine z_iload_n (pc := 42) C dX5_spread_42 rfl ?_
          refine z_aald (pc := 43) C rfl ⟨rfl, by decide⟩ (by decide) (zIx b3x (by decide) (by decide)) dX5_spread_43 ?_
          refine w_gr (by have hq := zN b3x (by decide); show 12 * 0 + a2_2.toNatClampNeg < 36; omega) (fun m8 h8x => ?_)
          refine z_iconst (pc := 44) (v := 2) C dX5_spread_44 (by decide) ?_
          refine z_callV (pc := 45) C zk_X5_83 (w_X4_pledges _ _ m8 h8x 2 (zB.wk (a' := (-2147483648)) (b' := 2147483647) (zB.of (x := 2) 2 (by decide)) (by decide) (by decide)) hI2_) rfl rfl h8x rfl rfl (Nat.le_of_ble_eq_true rfl) dX5_spread_45 (fun r9 g9 q9 => ?_)
          obtain ⟨⟨v9, rfl, b9x⟩, hI9, hF9q⟩ := q9
          obtain rfl := zFr_nil hF9q
          simp only [Option.toList, List.cons_append, List.nil_append]
          refine z_if_eq (pc := 48) 55 C dX5_spread_48 (by decide) (fun h48_9 => ?_) (fun h48_9 => ?_)
          · skip
            have b11x : zB v9 0 0 := by have q1 := b9x; have q2 := (zB.of (x := 0) 0 (by decide)); simp only [z32lt, z32le, z32eq, Int32.reduceToInt, Int32.toInt_zero] at h48_9; constructor <;> omega
            refine z_sipush (pc := 55) (v := 255) C dX5_spread_55 (by decide) ?_
            exact ih1 a2_2 b3x v6 b6x v7 b7x 255 (zB.wk (a' := 0) (b' := 255) (zB.of (x := 255) 255 (by decide)) (by decide) (by decide)) g2_ hI2_ hF2_ f2_13_0_6 (by have qc0 : (255 : Int32).toInt = 255 := (by decide); omega)
          · skip
            have b12x : zB v9 1 1 := by have q1 := b9x; have q2 := (zB.of (x := 0) 0 (by decide)); simp only [z32lt, z32le, z32eq, Int32.reduceToInt, Int32.toInt_zero] at h48_9; constructor <;> omega
            refine z_iload_n (pc := 51) C dX5_spread_51 rfl ?_
            refine z_goto (pc := 52) 58 C dX5_spread_52 (by decide) ?_
            exact ih1 a2_2 b3x v6 b6x v7 b7x v6 b6x g2_ hI2_ hF2_ f2_13_0_6 (by omega)
      · skip
        intro a58_2 b58_2 a58_3 b58_3 a58_s0 b58_s0 a58_s1 b58_s1 g58_ hI58_ hF58_ f58_13_0_6 hM58_
        refine z_iadd (pc := 58) C dX5_spread_58 ?_
        refine w_gp (fun v => v.toInt = a58_s0.toInt + a58_s1.toInt) (zadd_eb b58_s0 b58_s1 (by decide) (by decide)) (fun v13 e13 => ?_)
        have b13x : zB v13 0 3071 := by have q1 := b58_s0; have q2 := b58_s1; constructor <;> omega
        refine z_istore (pc := 59) C dX5_spread_59 (by rw [hn]; decide) rfl ?_
        refine z_iload_n (pc := 61) C dX5_spread_61 rfl ?_
        refine z_if_eq (pc := 62) 133 C dX5_spread_62 (by decide) (fun h62_13 => ?_) (fun h62_13 => ?_)
        · skip
          have b15x : zB a58_3 0 0 := by have q1 := b58_3; have q2 := (zB.of (x := 0) 0 (by decide)); simp only [z32lt, z32le, z32eq, Int32.reduceToInt, Int32.toInt_zero] at h62_13; constructor <;> omega
          exact ih2 a58_2 b58_2 a58_3 (zB.wk (a' := 0) (b' := 255) b15x (by decide) (by decide)) v13 b13x g58_ hI58_ hF58_ f58_13_0_6 (by omega)
        · skip
          have b16x : zB a58_3 1 255 := by have q1 := b58_3; have q2 := (zB.of (x := 0) 0 (by decide)); simp only [z32lt, z32le, z32eq, Int32.reduceToInt, Int32.toInt_zero] at h62_13; constructor <;> omega
          refine z_aload_n (pc := 65) C dX5_spread_65 rfl ?_
          refine z_getR (pc := 66) C zf_X5_18 rfl rfl (by decide) dX5_spread_66 ?_
          refine z_iload (pc := 69) C dX5_spread_69 rfl ?_
          refine z_iald (pc := 71) C rfl (by decide) (zIx b13x (by decide) (by decide)) dX5_spread_71 ?_
          refine w_gb (-2147483648) 2147483647 (hI58_ 14 _ _) (fun v17 b17x => ?_)
          refine z_aload_n (pc := 72) C dX5_spread_72 rfl ?_
          refine z_getI (pc := 73) C zf_X5_58 rfl rfl (by decide) dX5_spread_73 ?_
          refine w_gb (-2147483648) 2147483647 (hI58_ 13 _ 7) (fun v18 b18x => ?_)
          refine z_icmp_eq (pc := 76) 133 C dX5_spread_76 (by decide) (fun h76_18 => ?_) (fun h76_18 => ?_)
          · skip
            exact ih2 a58_2 b58_2 a58_3 (zB.wk (a' := 0) (b' := 255) b16x (by decide) (by decide)) v13 b13x g58_ hI58_ hF58_ f58_13_0_6 (by omega)
          · skip
            refine z_aload_n (pc := 79) C dX5_spread_79 rfl ?_
            refine z_getI (pc := 80) C zf_X5_38 rfl rfl (by decide) dX5_spread_80 ?_
            refine w_gp (fun v => v.toInt = (g58_ 13 0 6).toInt) rfl (fun v20 e20 => ?_)
            have b20x : zB v20 0 3073 := by have q9 : zB (g58_ 13 0 6) 0 3073 := f58_13_0_6; constructor <;> omega
            refine z_aload_n (pc := 83) C dX5_spread_83 rfl ?_
            refine z_getR (pc := 84) C zf_X5_22 rfl rfl (by decide) dX5_spread_84 ?_
            refine z_alenI (pc := 87) (v := 3073) C rfl (by decide) rfl dX5_spread_87 ?_
            refine z_icmp_ge (pc := 88) 133 C dX5_spread_88 (by decide) (fun h88_20 => ?_) (fun h88_20 => ?_)
            · skip
              have b22x : zB v20 3073 3073 := by have q1 := b20x; have q2 := (zB.of (x := 3073) 3073 (by decide)); simp only [z32lt, z32le, z32eq, Int32.reduceToInt, Int32.toInt_zero] at h88_20; constructor <;> omega
              have c23x : zB (g58_ 13 0 6) 3073 3073 := by first | assumption | (constructor <;> omega)
              exact ih2 a58_2 b58_2 a58_3 (zB.wk (a' := 0) (b' := 255) b16x (by decide) (by decide)) v13 b13x g58_ hI58_ hF58_ (zB.wk c23x (by decide) (by decide)) (by omega)
            · skip
              have b24x : zB v20 0 3072 := by have q1 := b20x; have q2 := (zB.of (x := 3073) 3073 (by decide)); simp only [z32lt, z32le, z32eq, Int32.reduceToInt, Int32.toInt_zero] at h88_20; constructor <;> omega
              have c25x : zB (g58_ 13 0 6) 0 3072 := by first | assumption | (constructor <;> omega)
              refine z_aload_n (pc := 91) C dX5_spread_91 rfl ?_
              refine z_getR (pc := 92) C zf_X5_18 rfl rfl (by decide) dX5_spread_92 ?_
              refine z_iload (pc := 95) C dX5_spread_95 rfl ?_
              refine z_aload_n (pc := 97) C dX5_spread_97 rfl ?_
              refine z_getI (pc := 98) C zf_X5_58 rfl rfl (by decide) dX5_spread_98 ?_
              refine w_gb (-2147483648) 2147483647 (hI58_ 13 _ 7) (fun v26 b26x => ?_)
              refine z_iast (pc := 101) C rfl (by decide) (zIx b13x (by decide) (by decide)) dX5_spread_101 ?_
              refine w_mem2 hI58_ hF58_ b26x rfl (fun g27 hI27 hF27 hq27 hx27 => ?_)
              have ek27_13_0_6 : (g27 13 0 6).toInt = (g58_ 13 0 6).toInt := by rw [hq27 13 0 6 (by omega)]
              have c27_13_0_6x : zB (g27 13 0 6) 0 3072 := by first | exact zB.eqv ek27_13_0_6 c25x | (have q9 := c25x; constructor <;> omega)
              refine z_aload_n (pc := 102) C dX5_spread_102 rfl ?_
              refine z_getR (pc := 103) C zf_X5_22 rfl rfl (by decide) dX5_spread_103 ?_
              refine z_aload_n (pc := 106) C dX5_spread_106 rfl ?_
              refine z_getI (pc := 107) C zf_X5_38 rfl rfl (by decide) dX5_spread_107 ?_
              refine w_gp (fun v => v.toInt = (g27 13 0 6).toInt) rfl (fun v28 e28 => ?_)
              have b28x : zB v28 0 3072 := by have q9 : zB (g27 13 0 6) 0 3072 := c27_13_0_6x; constructor <;> omega
              refine z_iload (pc := 110) C dX5_spread_110 rfl ?_
              refine z_iast (pc := 112) C rfl (by decide) (zIx b28x (by decide) (by decide)) dX5_spread_112 ?_
              refine w_mem2 hI27 hF27 b13x rfl (fun g29 hI29 hF29 hq29 hx29 => ?_)
              have ek29_13_0_6 : (g29 13 0 6).toInt = (g27 13 0 6).toInt := by rw [hq29 13 0 6 (by omega)]
              have c29_13_0_6x : zB (g29 13 0 6) 0 3072 := by first | exact zB.eqv ek29_13_0_6 c27_13_0_6x | (have q9 := c27_13_0_6x; constructor <;> omega)
              refine z_aload_n (pc := 113) C dX5_spread_113 rfl ?_
              refine z_getR (pc := 114) C zf_X5_25 rfl rfl (by decide) dX5_spread_114 ?_
              refine z_aload_n (pc := 117) C dX5_spread_117 rfl ?_
              refine z_getI (pc := 118) C zf_X5_38 rfl rfl (by decide) dX5_spread_118 ?_
              refine w_gp (fun v => v.toInt = (g29 13 0 6).toInt) rfl (fun v30 e30 => ?_)
              have b30x : zB v30 0 3072 := by have q9 : zB (g29 13 0 6) 0 3072 := c29_13_0_6x; constructor <;> omega
              refine z_iload_n (pc := 121) C dX5_spread_121 rfl ?_
              refine z_iast (pc := 122) C rfl (by decide) (zIx b30x (by decide) (by decide)) dX5_spread_122 ?_
              refine w_mem2 hI29 hF29 b1 rfl (fun g31 hI31 hF31 hq31 hx31 => ?_)
              have ek31_13_0_6 : (g31 13 0 6).toInt = (g29 13 0 6).toInt := by rw [hq31 13 0 6 (by omega)]
              have c31_13_0_6x : zB (g31 13 0 6) 0 3072 := by first | exact zB.eqv ek31_13_0_6 c29_13_0_6x | (have q9 := c29_13_0_6x; constructor <;> omega)
              refine z_aload_n (pc := 123) C dX5_spread_123 rfl ?_
              refine z_dupr (pc := 124) C dX5_spread_124 ?_
              refine z_getI (pc := 125) C zf_X5_38 rfl rfl (by decide) dX5_spread_125 ?_
              refine w_gp (fun v => v.toInt = (g31 13 0 6).toInt) rfl (fun v32 e32 => ?_)
              have b32x : zB v32 0 3072 := by have q9 : zB (g31 13 0 6) 0 3072 := c31_13_0_6x; constructor <;> omega
              refine z_iconst (pc := 128) (v := 1) C dX5_spread_128 (by decide) ?_
              refine z_iadd (pc := 129) C dX5_spread_129 ?_
              refine w_gp (fun v => v.toInt = v32.toInt + 1) (zadd_eb b32x (zB.of (x := 1) 1 (by decide)) (by decide) (by decide)) (fun v33 e33 => ?_)
              have b33x : zB v33 1 3073 := by have q1 := b32x; have q2 := (zB.of (x := 1) 1 (by decide)); constructor <;> omega
              refine z_putI (pc := 130) C zf_X5_38 zp_5_6 rfl rfl (by decide) dX5_spread_130 ?_
              refine w_mem2 hI31 hF31 (zB.wk (a' := 0) (b' := 3073) b33x (by decide) (by decide)) rfl (fun g34 hI34 hF34 hq34 hx34 => ?_)
              have ec34 : (g34 13 0 6).toInt = v33.toInt := by rw [hx34]
              have c34x : zB (g34 13 0 6) 1 3073 := by first | exact zB.eqv ec34 b33x | (have q9 := b33x; constructor <;> omega)
              exact ih2 a58_2 b58_2 a58_3 (zB.wk (a' := 0) (b' := 255) b16x (by decide) (by decide)) v13 b13x g34 hI34 hF34 (zB.wk c34x (by decide) (by decide)) (by omega)
      · skip
        intro a133_2 b133_2 a133_3 b133_3 a133_4 b133_4 g133_ hI133_ hF133_ f133_13_0_6 hM133_
        refine z_iinc (pc := 133) (v := 1) C dX5_spread_133 rfl (by decide) (by rw [hn]; decide) rfl ?_
        obtain ⟨v35, hv35, e35⟩ : ∃ v : Int32, v = a133_2 + 1 ∧ v.toInt = a133_2.toInt + 1 := ⟨_, rfl, zadd_eb b133_2 (zB.of (x := 1) 1 (by decide)) (by decide) (by decide)⟩
        rw [← hv35]
        have b35x : zB v35 1 12 := by have q9 := b133_2; constructor <;> omega
        refine z_goto (pc := 136) 2 C dX5_spread_136 (by decide) ?_
        refine w_mask [3, 4] ?_
        exact ih0 v35 (zB.wk (a' := 0) (b' := 12) b35x (by decide) (by decide)) g133_ hI133_ hF133_ f133_13_0_6 (by omega)
  obtain ⟨J0, J1, J2⟩ := J 79
  show Z X 0 [some (zr 13 0), some (zi a1), none, none, none] [] f
  refine z_iconst (pc := 0) (v := 0) C dX5_spread_0 (by decide) ?_
  refine z_istore_n (pc := 1) C dX5_spread_1 (by rw [hn]; decide) rfl ?_
  exact J0 0 (zB.wk (a' := 0) (b' := 12) (zB.of (x := 0) 0 (by decide)) (by decide) (by decide)) f hI hF ct13_0_6 (by have qc0 : (0 : Int32).toInt = 0 := (by decide); omega)

set_option maxRecDepth 100000 in
set_option maxHeartbeats 4000000 in
theorem w_X5_find (d : Nat) (f : zM) (a1 : Int32) (b1 : zB a1 0 5) (a2 : Int32) (b2 : zB a2 0 7) (hI : zInv f) : ZM (d + 3) yX5_find cX5_find 4 (some .int) [zr 13 0, zi a1, zi a2] f (fun r g => (∃ v, r = some (zi v) ∧ zB v (-4) 3072) ∧ zInv g ∧ zFr [(6, some 1), (6, some 4), (6, some 5), (6, some 6), (13, some 6), (13, some 7), (14, none), (15, none), (16, none)] f g) := by
  refine ZM.intro (by decide +kernel) (Nat.le_of_ble_eq_true rfl) ?_
  intro X C hr hn
  have hF : zFr [(6, some 1), (6, some 4), (6, some 5), (6, some 6), (13, some 6), (13, some 7), (14, none), (15, none), (16, none)] f f := zFr.rf _ _
  have J : ∀ t : Nat, (∀ a6_3 : Int32, zB a6_3 0 3073 → ∀ g : zM, zInv g → zFr [(6, some 1), (6, some 4), (6, some 5), (6, some 6), (13, some 6), (13, some 7), (14, none), (15, none), (16, none)] f g → (2 + 5 * (3073 - a6_3.toInt) : Int) < t → Z X 6 [some (zr 13 0), some (zi a1), some (zi a2), some (zi a6_3)] [] g) ∧ (∀ a59_3 : Int32, zB a59_3 0 3072 → ∀ g : zM, zInv g → zFr [(6, some 1), (6, some 4), (6, some 5), (6, some 6), (13, some 6), (13, some 7), (14, none), (15, none), (16, none)] f g → (1 + 5 * (3073 - a59_3.toInt) : Int) < t → Z X 59 [some (zr 13 0), some (zi a1), some (zi a2), some (zi a59_3)] [] g) ∧ (∀ a70_3 : Int32, zB a70_3 0 3073 → ∀ g : zM, zInv g → zFr [(6, some 1), (6, some 4), (6, some 5), (6, some 6), (13, some 6), (13, some 7), (14, none), (15, none), (16, none)] f g → (0 : Int) < t → Z X 70 [some (zr 13 0), some (zi a1), some (zi a2), some (zi a70_3)] [] g) := by
    intro t
    induction t with
    | zero =>
      refine ⟨?_, ?_, ?_⟩ <;> (intros; exfalso; omega)
    | succ t ih =>
      obtain ⟨ih0, ih1, ih2⟩ := ih
      refine ⟨?_, ?_, ?_⟩
      · skip
        intro a6_3 b6_3 g6_ hI6_ hF6_ hM6_
        refine z_iload_n (pc := 6) C dX5_find_6 rfl ?_
        refine z_aload_n (pc := 7) C dX5_find_7 rfl ?_
        refine z_getR (pc := 8) C zf_X5_22 rfl rfl (by decide) dX5_find_8 ?_
        refine z_alenI (pc := 11) (v := 3073) C rfl (by decide) rfl dX5_find_11 ?_
        refine z_icmp_ge (pc := 12) 70 C dX5_find_12 (by decide) (fun h12_0 => ?_) (fun h12_0 => ?_)
        · skip
          have b2x : zB a6_3 3073 3073 := by have q1 := b6_3; have q2 := (zB.of (x := 3073) 3073 (by decide)); simp only [z32lt, z32le, z32eq, Int32.reduceToInt, Int32.toInt_zero] at h12_0; constructor <;> omega
          exact ih2 a6_3 (zB.wk (a' := 0) (b' := 3073) b2x (by decide) (by decide)) g6_ hI6_ hF6_  (by omega)
        · skip
          have b3x : zB a6_3 0 3072 := by have q1 := b6_3; have q2 := (zB.of (x := 3073) 3073 (by decide)); simp only [z32lt, z32le, z32eq, Int32.reduceToInt, Int32.toInt_zero] at h12_0; constructor <;> omega
          refine z_iload_n (pc := 15) C dX5_find_15 rfl ?_
          refine z_aload_n (pc := 16) C dX5_find_16 rfl ?_
          refine z_getI (pc := 17) C zf_X5_38 rfl rfl (by decide) dX5_find_17 ?_
          refine w_gb 0 3073 (hI6_ 13 _ 6) (fun v4 b4x => ?_)
          refine z_icmp_ge (pc := 20) 70 C dX5_find_20 (by decide) (fun h20_4 => ?_) (fun h20_4 => ?_)
          · skip
            have b6x : zB v4 0 3072 := by have q1 := b3x; have q2 := b4x; simp only [z32lt, z32le, z32eq, Int32.reduceToInt, Int32.toInt_zero] at h20_4; constructor <;> omega
            exact ih2 a6_3 (zB.wk (a' := 0) (b' := 3073) b3x (by decide) (by decide)) g6_ hI6_ hF6_  (by omega)
          · skip
            have b7x : zB v4 1 3073 := by have q1 := b3x; have q2 := b4x; simp only [z32lt, z32le, z32eq, Int32.reduceToInt, Int32.toInt_zero] at h20_4; constructor <;> omega
            refine z_aload_n (pc := 23) C dX5_find_23 rfl ?_
            refine z_iload_n (pc := 24) C dX5_find_24 rfl ?_
            refine z_callV (pc := 25) C zk_X5_42 (w_X5_placeWalker _ _ a6_3 b3x hI6_) rfl rfl (by decide) rfl rfl (Nat.le_of_ble_eq_true rfl) dX5_find_25 (fun r8 g8 q8 => ?_)
            obtain ⟨rfl, hI8, hF8q⟩ := q8
            have hF8 := zFr.tr hF6_ hF8q (by decide)
            simp only [Option.toList, List.cons_append, List.nil_append]
            refine z_aload_n (pc := 28) C dX5_find_28 rfl ?_
            refine z_getR (pc := 29) C zf_X5_12 rfl rfl (by decide) dX5_find_29 ?_
            refine z_getI (pc := 32) C zf_X5_46 rfl rfl (by decide) dX5_find_32 ?_
            refine w_gb 0 5 (hI8 6 _ 1) (fun v9 b9x => ?_)
            refine z_iload_n (pc := 35) C dX5_find_35 rfl ?_
            refine z_icmp_ne (pc := 36) 59 C dX5_find_36 (by decide) (fun h36_9 => ?_) (fun h36_9 => ?_)
            · skip
              exact ih1 a6_3 b3x g8 hI8 hF8  (by omega)
            · skip
              refine z_aload_n (pc := 39) C dX5_find_39 rfl ?_
              refine z_getR (pc := 40) C zf_X5_31 rfl rfl (by decide) dX5_find_40 ?_
              refine z_aload_n (pc := 43) C dX5_find_43 rfl ?_
              refine z_getR (pc := 44) C zf_X5_12 rfl rfl (by decide) dX5_find_44 ?_
              refine z_callV (pc := 47) C zk_X5_49 (w_X8_triedBy _ _ 2 (by decide) hI8) rfl rfl (by decide) rfl rfl (Nat.le_of_ble_eq_true rfl) dX5_find_47 (fun r11 g11 q11 => ?_)
              obtain ⟨⟨v11, rfl, b11x⟩, hI11, hF11q⟩ := q11
              obtain rfl := zFr_nil hF11q
              simp only [Option.toList, List.cons_append, List.nil_append]
              refine z_iload_n (pc := 50) C dX5_find_50 rfl ?_
              refine z_ishr (pc := 51) C dX5_find_51 ?_
              refine w_gb (-2147483648) 2147483647 (zB_any _) (fun v12 b12x => ?_)
              refine z_iconst (pc := 52) (v := 1) C dX5_find_52 (by decide) ?_
              refine z_iand (pc := 53) C dX5_find_53 ?_
              refine w_gb 0 1 (zand_b b12x (zB.of (x := 1) 1 (by decide)) (by decide)) (fun v13 b13x => ?_)
              refine z_if_eq (pc := 54) 59 C dX5_find_54 (by decide) (fun h54_13 => ?_) (fun h54_13 => ?_)
              · skip
                have b15x : zB v13 0 0 := by have q1 := b13x; have q2 := (zB.of (x := 0) 0 (by decide)); simp only [z32lt, z32le, z32eq, Int32.reduceToInt, Int32.toInt_zero] at h54_13; constructor <;> omega
                exact ih1 a6_3 b3x g8 hI8 hF8  (by omega)
              · skip
                have b16x : zB v13 1 1 := by have q1 := b13x; have q2 := (zB.of (x := 0) 0 (by decide)); simp only [z32lt, z32le, z32eq, Int32.reduceToInt, Int32.toInt_zero] at h54_13; constructor <;> omega
                refine z_iload_n (pc := 57) C dX5_find_57 rfl ?_
                exact z_iret (pc := 58) C hr dX5_find_58 ⟨⟨_, rfl, (zB.wk (a' := (-4)) (b' := 3072) b3x (by decide) (by decide))⟩, hI8, hF8⟩
      · skip
        intro a59_3 b59_3 g59_ hI59_ hF59_ hM59_
        refine z_aload_n (pc := 59) C dX5_find_59 rfl ?_
        refine z_iload_n (pc := 60) C dX5_find_60 rfl ?_
        refine z_callV (pc := 61) C zk_X5_55 (w_X5_spread _ _ a59_3 b59_3 hI59_) rfl rfl (by decide) rfl rfl (Nat.le_of_ble_eq_true rfl) dX5_find_61 (fun r17 g17 q17 => ?_)
        obtain ⟨rfl, hI17, hF17q⟩ := q17
        have hF17 := zFr.tr hF59_ hF17q (by decide)
        simp only [Option.toList, List.cons_append, List.nil_append]
        refine z_iinc (pc := 64) (v := 1) C dX5_find_64 rfl (by decide) (by rw [hn]; decide) rfl ?_
        obtain ⟨v18, hv18, e18⟩ : ∃ v : Int32, v = a59_3 + 1 ∧ v.toInt = a59_3.toInt + 1 := ⟨_, rfl, zadd_eb b59_3 (zB.of (x := 1) 1 (by decide)) (by decide) (by decide)⟩
        rw [← hv18]
        have b18x : zB v18 1 3073 := by have q9 := b59_3; constructor <;> omega
        refine z_goto (pc := 67) 6 C dX5_find_67 (by decide) ?_
        exact ih0 v18 (zB.wk (a' := 0) (b' := 3073) b18x (by decide) (by decide)) g17 hI17 hF17  (by omega)
      · skip
        intro a70_3 b70_3 g70_ hI70_ hF70_ hM70_
        refine z_bipush (pc := 70) (v := -4) C dX5_find_70 (by decide) ?_
        exact z_iret (pc := 72) C hr dX5_find_72 ⟨⟨_, rfl, (zB.wk (a' := (-4)) (b' := 3072) (zB.of (x := (-4)) (-4) (by decide)) (by decide) (by decide))⟩, hI70_, hF70_⟩
  obtain ⟨J0, J1, J2⟩ := J 15384
  show Z X 0 [some (zr 13 0), some (zi a1), some (zi a2), none] [] f
  refine z_aload_n (pc := 0) C dX5_find_0 rfl ?_
  refine z_callV (pc := 1) C zk_X5_35 (w_X5_begin _ _  hI) rfl rfl (by decide) rfl rfl (Nat.le_of_ble_eq_true rfl) dX5_find_1 (fun r19 g19 q19 => ?_)
  obtain ⟨rfl, hI19, hF19q⟩ := q19
  have hF19 := zFr.tr hF hF19q (by decide)
  simp only [Option.toList, List.cons_append, List.nil_append]
  refine z_iconst (pc := 4) (v := 0) C dX5_find_4 (by decide) ?_
  refine z_istore_n (pc := 5) C dX5_find_5 (by rw [hn]; decide) rfl ?_
  exact J0 0 (zB.wk (a' := 0) (b' := 3073) (zB.of (x := 0) 0 (by decide)) (by decide) (by decide)) g19 hI19 hF19  (by have qc0 : (0 : Int32).toInt = 0 := (by decide); omega)

set_option maxRecDepth 100000 in
set_option maxHeartbeats 4000000 in
theorem w_X5_reach (d : Nat) (f : zM)  (hI : zInv f) : ZM (d + 3) yX5_reach cX5_reach 3 (some .int) [zr 13 0] f (fun r g => (∃ v, r = some (zi v) ∧ zB v 0 63) ∧ zInv g ∧ zFr [(6, some 1), (6, some 4), (6, some 5), (6, some 6), (13, some 6), (13, some 7), (14, none), (15, none), (16, none)] f g) := by
  refine ZM.intro (by decide +kernel) (Nat.le_of_ble_eq_true rfl) ?_
  intro X C hr hn
  have hF : zFr [(6, some 1), (6, some 4), (6, some 5), (6, some 6), (13, some 6), (13, some 7), (14, none), (15, none), (16, none)] f f := zFr.rf _ _
  have J : ∀ t : Nat, (∀ a8_1 : Int32, zB a8_1 0 63 → ∀ a8_2 : Int32, zB a8_2 0 3073 → ∀ g : zM, zInv g → zFr [(6, some 1), (6, some 4), (6, some 5), (6, some 6), (13, some 6), (13, some 7), (14, none), (15, none), (16, none)] f g → (1 + 4 * (3073 - a8_2.toInt) : Int) < t → Z X 8 [some (zr 13 0), some (zi a8_1), some (zi a8_2)] [] g) ∧ (∀ a53_1 : Int32, zB a53_1 0 63 → ∀ a53_2 : Int32, zB a53_2 0 3073 → ∀ g : zM, zInv g → zFr [(6, some 1), (6, some 4), (6, some 5), (6, some 6), (13, some 6), (13, some 7), (14, none), (15, none), (16, none)] f g → (0 : Int) < t → Z X 53 [some (zr 13 0), some (zi a53_1), some (zi a53_2)] [] g) := by
    intro t
    induction t with
    | zero =>
      refine ⟨?_, ?_⟩ <;> (intros; exfalso; omega)
    | succ t ih =>
      obtain ⟨ih0, ih1⟩ := ih
      refine ⟨?_, ?_⟩
      · skip
        intro a8_1 b8_1 a8_2 b8_2 g8_ hI8_ hF8_ hM8_
        refine z_iload_n (pc := 8) C dX5_reach_8 rfl ?_
        refine z_aload_n (pc := 9) C dX5_reach_9 rfl ?_
        refine z_getR (pc := 10) C zf_X5_22 rfl rfl (by decide) dX5_reach_10 ?_
        refine z_alenI (pc := 13) (v := 3073) C rfl (by decide) rfl dX5_reach_13 ?_
        refine z_icmp_ge (pc := 14) 53 C dX5_reach_14 (by decide) (fun h14_0 => ?_) (fun h14_0 => ?_)
        · skip
          have b2x : zB a8_2 3073 3073 := by have q1 := b8_2; have q2 := (zB.of (x := 3073) 3073 (by decide)); simp only [z32lt, z32le, z32eq, Int32.reduceToInt, Int32.toInt_zero] at h14_0; constructor <;> omega
          exact ih1 a8_1 b8_1 a8_2 (zB.wk (a' := 0) (b' := 3073) b2x (by decide) (by decide)) g8_ hI8_ hF8_  (by omega)
        · skip
          have b3x : zB a8_2 0 3072 := by have q1 := b8_2; have q2 := (zB.of (x := 3073) 3073 (by decide)); simp only [z32lt, z32le, z32eq, Int32.reduceToInt, Int32.toInt_zero] at h14_0; constructor <;> omega
          refine z_iload_n (pc := 17) C dX5_reach_17 rfl ?_
          refine z_aload_n (pc := 18) C dX5_reach_18 rfl ?_
          refine z_getI (pc := 19) C zf_X5_38 rfl rfl (by decide) dX5_reach_19 ?_
          refine w_gb 0 3073 (hI8_ 13 _ 6) (fun v4 b4x => ?_)
          refine z_icmp_ge (pc := 22) 53 C dX5_reach_22 (by decide) (fun h22_4 => ?_) (fun h22_4 => ?_)
          · skip
            have b6x : zB v4 0 3072 := by have q1 := b3x; have q2 := b4x; simp only [z32lt, z32le, z32eq, Int32.reduceToInt, Int32.toInt_zero] at h22_4; constructor <;> omega
            exact ih1 a8_1 b8_1 a8_2 (zB.wk (a' := 0) (b' := 3073) b3x (by decide) (by decide)) g8_ hI8_ hF8_  (by omega)
          · skip
            have b7x : zB v4 1 3073 := by have q1 := b3x; have q2 := b4x; simp only [z32lt, z32le, z32eq, Int32.reduceToInt, Int32.toInt_zero] at h22_4; constructor <;> omega
            refine z_aload_n (pc := 25) C dX5_reach_25 rfl ?_
            refine z_iload_n (pc := 26) C dX5_reach_26 rfl ?_
            refine z_callV (pc := 27) C zk_X5_42 (w_X5_placeWalker _ _ a8_2 b3x hI8_) rfl rfl (by decide) rfl rfl (Nat.le_of_ble_eq_true rfl) dX5_reach_27 (fun r8 g8 q8 => ?_)
            obtain ⟨rfl, hI8, hF8q⟩ := q8
            have hF8 := zFr.tr hF8_ hF8q (by decide)
            simp only [Option.toList, List.cons_append, List.nil_append]
            refine z_iload_n (pc := 30) C dX5_reach_30 rfl ?_
            refine z_iconst (pc := 31) (v := 1) C dX5_reach_31 (by decide) ?_
            refine z_aload_n (pc := 32) C dX5_reach_32 rfl ?_
            refine z_getR (pc := 33) C zf_X5_12 rfl rfl (by decide) dX5_reach_33 ?_
            refine z_getI (pc := 36) C zf_X5_46 rfl rfl (by decide) dX5_reach_36 ?_
            refine w_gb 0 5 (hI8 6 _ 1) (fun v9 b9x => ?_)
            refine z_ishl (pc := 39) C dX5_reach_39 ?_
            refine w_gb 0 32 (zshl_b b9x 5 (by decide) (by decide)) (fun v10 b10x => ?_)
            refine z_ior (pc := 40) C dX5_reach_40 ?_
            refine w_gb 0 63 (zor_b 6 b8_1 b10x (by decide) (by decide) (by decide) (by decide) (by decide)) (fun v11 b11x => ?_)
            refine z_istore_n (pc := 41) C dX5_reach_41 (by rw [hn]; decide) rfl ?_
            refine z_aload_n (pc := 42) C dX5_reach_42 rfl ?_
            refine z_iload_n (pc := 43) C dX5_reach_43 rfl ?_
            refine z_callV (pc := 44) C zk_X5_55 (w_X5_spread _ _ a8_2 b3x hI8) rfl rfl (by decide) rfl rfl (Nat.le_of_ble_eq_true rfl) dX5_reach_44 (fun r12 g12 q12 => ?_)
            obtain ⟨rfl, hI12, hF12q⟩ := q12
            have hF12 := zFr.tr hF8 hF12q (by decide)
            simp only [Option.toList, List.cons_append, List.nil_append]
            refine z_iinc (pc := 47) (v := 1) C dX5_reach_47 rfl (by decide) (by rw [hn]; decide) rfl ?_
            obtain ⟨v13, hv13, e13⟩ : ∃ v : Int32, v = a8_2 + 1 ∧ v.toInt = a8_2.toInt + 1 := ⟨_, rfl, zadd_eb b3x (zB.of (x := 1) 1 (by decide)) (by decide) (by decide)⟩
            rw [← hv13]
            have b13x : zB v13 1 3073 := by have q9 := b3x; constructor <;> omega
            refine z_goto (pc := 50) 8 C dX5_reach_50 (by decide) ?_
            exact ih0 v11 b11x v13 (zB.wk (a' := 0) (b' := 3073) b13x (by decide) (by decide)) g12 hI12 hF12  (by omega)
      · skip
        intro a53_1 b53_1 a53_2 b53_2 g53_ hI53_ hF53_ hM53_
        refine z_iload_n (pc := 53) C dX5_reach_53 rfl ?_
        exact z_iret (pc := 54) C hr dX5_reach_54 ⟨⟨_, rfl, b53_1⟩, hI53_, hF53_⟩
  obtain ⟨J0, J1⟩ := J 12309
  show Z X 0 [some (zr 13 0), none, none] [] f
  refine z_iconst (pc := 0) (v := 0) C dX5_reach_0 (by decide) ?_
  refine z_istore_n (pc := 1) C dX5_reach_1 (by rw [hn]; decide) rfl ?_
  refine z_aload_n (pc := 2) C dX5_reach_2 rfl ?_
  refine z_callV (pc := 3) C zk_X5_35 (w_X5_begin _ _  hI) rfl rfl (by decide) rfl rfl (Nat.le_of_ble_eq_true rfl) dX5_reach_3 (fun r14 g14 q14 => ?_)
  obtain ⟨rfl, hI14, hF14q⟩ := q14
  have hF14 := zFr.tr hF hF14q (by decide)
  simp only [Option.toList, List.cons_append, List.nil_append]
  refine z_iconst (pc := 6) (v := 0) C dX5_reach_6 (by decide) ?_
  refine z_istore_n (pc := 7) C dX5_reach_7 (by rw [hn]; decide) rfl ?_
  exact J0 0 (zB.wk (a' := 0) (b' := 63) (zB.of (x := 0) 0 (by decide)) (by decide) (by decide)) 0 (zB.wk (a' := 0) (b' := 3073) (zB.of (x := 0) 0 (by decide)) (by decide) (by decide)) g14 hI14 hF14  (by have qc0 : (0 : Int32).toInt = 0 := (by decide); omega)

set_option maxRecDepth 100000 in
set_option maxHeartbeats 4000000 in
theorem w_X5_lengthTo (d : Nat) (f : zM) (a1 : Int32) (b1 : zB a1 0 3072) (hI : zInv f) : ZM d yX5_lengthTo cX5_lengthTo 4 (some .int) [zr 13 0, zi a1] f (fun r g => (∃ v, r = some (zi v) ∧ zB v 0 3073) ∧ zInv g ∧ zFr [] f g) := by
  refine ZM.intro (by decide +kernel) (Nat.le_of_ble_eq_true rfl) ?_
  intro X C hr hn
  have hF : zFr [] f f := zFr.rf _ _
  have J : ∀ t : Nat, (∀ a4_2 : Int32, zB a4_2 0 3073 → ∀ a4_3 : Int32, zB a4_3 0 3072 → ∀ g : zM, zInv g → zFr [] f g → (1 + 4 * (3073 - a4_2.toInt) : Int) < t → Z X 4 [some (zr 13 0), some (zi a1), some (zi a4_2), some (zi a4_3)] [] g) ∧ (∀ a30_2 : Int32, zB a30_2 0 3073 → ∀ a30_3 : Int32, zB a30_3 0 3072 → ∀ g : zM, zInv g → zFr [] f g → (0 : Int) < t → Z X 30 [some (zr 13 0), some (zi a1), some (zi a30_2), some (zi a30_3)] [] g) := by
    intro t
    induction t with
    | zero =>
      refine ⟨?_, ?_⟩ <;> (intros; exfalso; omega)
    | succ t ih =>
      obtain ⟨ih0, ih1⟩ := ih
      refine ⟨?_, ?_⟩
      · skip
        intro a4_2 b4_2 a4_3 b4_3 g4_ hI4_ hF4_ hM4_
        refine z_iload_n (pc := 4) C dX5_lengthTo_4 rfl ?_
        refine z_if_le (pc := 5) 30 C dX5_lengthTo_5 (by decide) (fun h5_0 => ?_) (fun h5_0 => ?_)
        · skip
          have b2x : zB a4_3 0 0 := by have q1 := b4_3; have q2 := (zB.of (x := 0) 0 (by decide)); simp only [z32lt, z32le, z32eq, Int32.reduceToInt, Int32.toInt_zero] at h5_0; constructor <;> omega
          exact ih1 a4_2 b4_2 a4_3 (zB.wk (a' := 0) (b' := 3072) b2x (by decide) (by decide)) g4_ hI4_ hF4_  (by omega)
        · skip
          have b3x : zB a4_3 1 3072 := by have q1 := b4_3; have q2 := (zB.of (x := 0) 0 (by decide)); simp only [z32lt, z32le, z32eq, Int32.reduceToInt, Int32.toInt_zero] at h5_0; constructor <;> omega
          refine z_iload_n (pc := 8) C dX5_lengthTo_8 rfl ?_
          refine z_aload_n (pc := 9) C dX5_lengthTo_9 rfl ?_
          refine z_getR (pc := 10) C zf_X5_22 rfl rfl (by decide) dX5_lengthTo_10 ?_
          refine z_alenI (pc := 13) (v := 3073) C rfl (by decide) rfl dX5_lengthTo_13 ?_
          refine z_icmp_ge (pc := 14) 30 C dX5_lengthTo_14 (by decide) (fun h14_3 => ?_) (fun h14_3 => ?_)
          · skip
            have b5x : zB a4_2 3073 3073 := by have q1 := b4_2; have q2 := (zB.of (x := 3073) 3073 (by decide)); simp only [z32lt, z32le, z32eq, Int32.reduceToInt, Int32.toInt_zero] at h14_3; constructor <;> omega
            exact ih1 a4_2 (zB.wk (a' := 0) (b' := 3073) b5x (by decide) (by decide)) a4_3 (zB.wk (a' := 0) (b' := 3072) b3x (by decide) (by decide)) g4_ hI4_ hF4_  (by omega)
          · skip
            have b6x : zB a4_2 0 3072 := by have q1 := b4_2; have q2 := (zB.of (x := 3073) 3073 (by decide)); simp only [z32lt, z32le, z32eq, Int32.reduceToInt, Int32.toInt_zero] at h14_3; constructor <;> omega
            refine z_iinc (pc := 17) (v := 1) C dX5_lengthTo_17 rfl (by decide) (by rw [hn]; decide) rfl ?_
            obtain ⟨v7, hv7, e7⟩ : ∃ v : Int32, v = a4_2 + 1 ∧ v.toInt = a4_2.toInt + 1 := ⟨_, rfl, zadd_eb b6x (zB.of (x := 1) 1 (by decide)) (by decide) (by decide)⟩
            rw [← hv7]
            have b7x : zB v7 1 3073 := by have q9 := b6x; constructor <;> omega
            refine z_aload_n (pc := 20) C dX5_lengthTo_20 rfl ?_
            refine z_getR (pc := 21) C zf_X5_25 rfl rfl (by decide) dX5_lengthTo_21 ?_
            refine z_iload_n (pc := 24) C dX5_lengthTo_24 rfl ?_
            refine z_iald (pc := 25) C rfl (by decide) (zIx b3x (by decide) (by decide)) dX5_lengthTo_25 ?_
            refine w_gb 0 3072 (hI4_ 16 _ _) (fun v8 b8x => ?_)
            refine z_istore_n (pc := 26) C dX5_lengthTo_26 (by rw [hn]; decide) rfl ?_
            refine z_goto (pc := 27) 4 C dX5_lengthTo_27 (by decide) ?_
            exact ih0 v7 (zB.wk (a' := 0) (b' := 3073) b7x (by decide) (by decide)) v8 b8x g4_ hI4_ hF4_  (by omega)
      · skip
        intro a30_2 b30_2 a30_3 b30_3 g30_ hI30_ hF30_ hM30_
        refine z_iload_n (pc := 30) C dX5_lengthTo_30 rfl ?_
        exact z_iret (pc := 31) C hr dX5_lengthTo_31 ⟨⟨_, rfl, b30_2⟩, hI30_, hF30_⟩
  obtain ⟨J0, J1⟩ := J 12309
  show Z X 0 [some (zr 13 0), some (zi a1), none, none] [] f
  refine z_iconst (pc := 0) (v := 0) C dX5_lengthTo_0 (by decide) ?_
  refine z_istore_n (pc := 1) C dX5_lengthTo_1 (by rw [hn]; decide) rfl ?_
  refine z_iload_n (pc := 2) C dX5_lengthTo_2 rfl ?_
  refine z_istore_n (pc := 3) C dX5_lengthTo_3 (by rw [hn]; decide) rfl ?_
  exact J0 0 (zB.wk (a' := 0) (b' := 3073) (zB.of (x := 0) 0 (by decide)) (by decide) (by decide)) a1 b1 f hI hF  (by have qc0 : (0 : Int32).toInt = 0 := (by decide); omega)

set_option maxRecDepth 100000 in
set_option maxHeartbeats 4000000 in
theorem w_X5_paperOn (d : Nat) (f : zM) (a1 : Int32) (b1 : zB a1 0 3072) (a2 : Int32) (b2 : zB a2 (-4000) 4000) (hI : zInv f) : ZM d yX5_paperOn cX5_paperOn 5 (some .int) [zr 13 0, zi a1, zi a2] f (fun r g => (∃ v, r = some (zi v) ∧ zB v 0 11) ∧ zInv g ∧ zFr [] f g) := by
  refine ZM.intro (by decide +kernel) (Nat.le_of_ble_eq_true rfl) ?_
  intro X C hr hn
  have hF : zFr [] f f := zFr.rf _ _
  have J : ∀ t : Nat, (∀ a5_3 : Int32, zB a5_3 0 3072 → ∀ a5_4 : Int32, zB a5_4 0 4000 → ∀ g : zM, zInv g → zFr [] f g → (0 + 3 * (4000 - a5_4.toInt) : Int) < t → Z X 5 [some (zr 13 0), some (zi a1), some (zi a2), some (zi a5_3), some (zi a5_4)] [] g) := by
    intro t
    induction t with
    | zero =>
      intros; exfalso; omega
    | succ t ih =>
      have ih0 := ih
      intro a5_3 b5_3 a5_4 b5_4 g5_ hI5_ hF5_ hM5_
      refine z_iload (pc := 5) C dX5_paperOn_5 rfl ?_
      refine z_iload_n (pc := 7) C dX5_paperOn_7 rfl ?_
      refine z_icmp_ge (pc := 8) 24 C dX5_paperOn_8 (by decide) (fun h8_0 => ?_) (fun h8_0 => ?_)
      · skip
        refine z_aload_n (pc := 24) C dX5_paperOn_24 rfl ?_
        refine z_getR (pc := 25) C zf_X5_22 rfl rfl (by decide) dX5_paperOn_25 ?_
        refine z_iload_n (pc := 28) C dX5_paperOn_28 rfl ?_
        refine z_iald (pc := 29) C rfl (by decide) (zIx b5_3 (by decide) (by decide)) dX5_paperOn_29 ?_
        refine w_gb 0 3071 (hI5_ 15 _ _) (fun v2 b2x => ?_)
        refine z_sipush (pc := 30) (v := 256) C dX5_paperOn_30 (by decide) ?_
        refine z_idiv (pc := 33) C dX5_paperOn_33 (by decide) ?_
        refine w_gb 0 11 (zdiv_b 256 b2x (by decide) (by decide) (by decide)) (fun v3 b3x => ?_)
        exact z_iret (pc := 34) C hr dX5_paperOn_34 ⟨⟨_, rfl, b3x⟩, hI5_, hF5_⟩
      · skip
        have b4x : zB a5_4 0 3999 := by have q1 := b5_4; have q2 := b2; simp only [z32lt, z32le, z32eq, Int32.reduceToInt, Int32.toInt_zero] at h8_0; constructor <;> omega
        have b5x : zB a2 1 4000 := by have q1 := b5_4; have q2 := b2; simp only [z32lt, z32le, z32eq, Int32.reduceToInt, Int32.toInt_zero] at h8_0; constructor <;> omega
        refine z_aload_n (pc := 11) C dX5_paperOn_11 rfl ?_
        refine z_getR (pc := 12) C zf_X5_25 rfl rfl (by decide) dX5_paperOn_12 ?_
        refine z_iload_n (pc := 15) C dX5_paperOn_15 rfl ?_
        refine z_iald (pc := 16) C rfl (by decide) (zIx b5_3 (by decide) (by decide)) dX5_paperOn_16 ?_
        refine w_gb 0 3072 (hI5_ 16 _ _) (fun v6 b6x => ?_)
        refine z_istore_n (pc := 17) C dX5_paperOn_17 (by rw [hn]; decide) rfl ?_
        refine z_iinc (pc := 18) (v := 1) C dX5_paperOn_18 rfl (by decide) (by rw [hn]; decide) rfl ?_
        obtain ⟨v7, hv7, e7⟩ : ∃ v : Int32, v = a5_4 + 1 ∧ v.toInt = a5_4.toInt + 1 := ⟨_, rfl, zadd_eb b4x (zB.of (x := 1) 1 (by decide)) (by decide) (by decide)⟩
        rw [← hv7]
        have b7x : zB v7 1 4000 := by have q9 := b4x; constructor <;> omega
        refine z_goto (pc := 21) 5 C dX5_paperOn_21 (by decide) ?_
        exact ih0 v6 b6x v7 (zB.wk (a' := 0) (b' := 4000) b7x (by decide) (by decide)) g5_ hI5_ hF5_  (by omega)
  have J0 := J 12015
  show Z X 0 [some (zr 13 0), some (zi a1), some (zi a2), none, none] [] f
  refine z_iload_n (pc := 0) C dX5_paperOn_0 rfl ?_
  refine z_istore_n (pc := 1) C dX5_paperOn_1 (by rw [hn]; decide) rfl ?_
  refine z_iconst (pc := 2) (v := 0) C dX5_paperOn_2 (by decide) ?_
  refine z_istore (pc := 3) C dX5_paperOn_3 (by rw [hn]; decide) rfl ?_
  exact J0 a1 b1 0 (zB.wk (a' := 0) (b' := 4000) (zB.of (x := 0) 0 (by decide)) (by decide) (by decide)) f hI hF  (by have qc0 : (0 : Int32).toInt = 0 := (by decide); omega)

set_option maxRecDepth 100000 in
set_option maxHeartbeats 4000000 in
theorem w_X5_safeLands (d : Nat) (f : zM) (a1 : Int32) (b1 : zB a1 0 1) (hI : zInv f) : ZM (d + 2) yX5_safeLands cX5_safeLands 6 (some .int) [zr 13 0, zi a1] f (fun r g => (∃ v, r = some (zi v) ∧ zB v 0 63) ∧ zInv g ∧ zFr [(6, some 1), (6, some 4), (6, some 5), (6, some 6)] f g) := by
  refine ZM.intro (by decide +kernel) (Nat.le_of_ble_eq_true rfl) ?_
  intro X C hr hn
  have hF : zFr [(6, some 1), (6, some 4), (6, some 5), (6, some 6)] f f := zFr.rf _ _
  have J : ∀ t : Nat, (∀ a4_2 : Int32, zB a4_2 0 63 → ∀ a4_3 : Int32, zB a4_3 0 6 → ∀ g : zM, zInv g → zFr [(6, some 1), (6, some 4), (6, some 5), (6, some 6)] f g → (123 + 126 * (6 - a4_3.toInt) : Int) < t → Z X 4 [some (zr 13 0), some (zi a1), some (zi a4_2), some (zi a4_3), none, none] [] g) ∧ (∀ a36_2 : Int32, zB a36_2 0 63 → ∀ a36_3 : Int32, zB a36_3 0 5 → ∀ g : zM, zInv g → zFr [(6, some 1), (6, some 4), (6, some 5), (6, some 6)] f g → (122 + 126 * (6 - a36_3.toInt) : Int) < t → Z X 36 [some (zr 13 0), some (zi a1), some (zi a36_2), some (zi a36_3), none, none] [] g) ∧ (∀ a41_2 : Int32, zB a41_2 0 63 → ∀ a41_3 : Int32, zB a41_3 0 5 → ∀ a41_s0 : Int32, zB a41_s0 0 1 → ∀ g : zM, zInv g → zFr [(6, some 1), (6, some 4), (6, some 5), (6, some 6)] f g → (121 + 126 * (6 - a41_3.toInt) : Int) < t → Z X 41 [some (zr 13 0), some (zi a1), some (zi a41_2), some (zi a41_3), none, none] [zi a41_s0] g) ∧ (∀ a46_2 : Int32, zB a46_2 0 63 → ∀ a46_3 : Int32, zB a46_3 0 5 → ∀ a46_4 : Int32, zB a46_4 0 1 → ∀ a46_5 : Int32, zB a46_5 0 12 → ∀ g : zM, zInv g → zFr [(6, some 1), (6, some 4), (6, some 5), (6, some 6)] f g → (3 + 9 * (12 - a46_5.toInt) + 126 * (6 - a46_3.toInt) : Int) < t → Z X 46 [some (zr 13 0), some (zi a1), some (zi a46_2), some (zi a46_3), some (zi a46_4), some (zi a46_5)] [] g) ∧ (∀ a87_2 : Int32, zB a87_2 0 63 → ∀ a87_3 : Int32, zB a87_3 0 5 → ∀ a87_4 : Int32, zB a87_4 0 1 → ∀ a87_5 : Int32, zB a87_5 0 11 → ∀ g : zM, zInv g → zFr [(6, some 1), (6, some 4), (6, some 5), (6, some 6)] f g → (2 + 9 * (12 - a87_5.toInt) + 126 * (6 - a87_3.toInt) : Int) < t → Z X 87 [some (zr 13 0), some (zi a1), some (zi a87_2), some (zi a87_3), some (zi a87_4), some (zi a87_5)] [] g) ∧ (∀ a88_2 : Int32, zB a88_2 0 63 → ∀ a88_3 : Int32, zB a88_3 0 5 → ∀ a88_4 : Int32, zB a88_4 0 1 → ∀ a88_5 : Int32, zB a88_5 0 11 → ∀ a88_s0 : Int32, zB a88_s0 0 1 → ∀ g : zM, zInv g → zFr [(6, some 1), (6, some 4), (6, some 5), (6, some 6)] f g → (1 + 9 * (12 - a88_5.toInt) + 126 * (6 - a88_3.toInt) : Int) < t → Z X 88 [some (zr 13 0), some (zi a1), some (zi a88_2), some (zi a88_3), some (zi a88_4), some (zi a88_5)] [zi a88_s0] g) ∧ (∀ a109_2 : Int32, zB a109_2 0 63 → ∀ a109_3 : Int32, zB a109_3 0 5 → ∀ a109_4 : Int32, zB a109_4 0 1 → ∀ a109_5 : Int32, zB a109_5 0 12 → ∀ a109_s0 : Int32, zB a109_s0 0 63 → ∀ a109_s1 : Int32, zB a109_s1 0 32 → ∀ g : zM, zInv g → zFr [(6, some 1), (6, some 4), (6, some 5), (6, some 6)] f g → (0 + 126 * (6 - a109_3.toInt) : Int) < t → Z X 109 [some (zr 13 0), some (zi a1), some (zi a109_2), some (zi a109_3), some (zi a109_4), some (zi a109_5)] [zi a109_s1, zi a109_s0] g) := by
    intro t
    induction t with
    | zero =>
      refine ⟨?_, ?_, ?_, ?_, ?_, ?_, ?_⟩ <;> (intros; exfalso; omega)
    | succ t ih =>
      obtain ⟨ih0, ih1, ih2, ih3, ih4, ih5, ih6⟩ := ih
      refine ⟨?_, ?_, ?_, ?_, ?_, ?_, ?_⟩
      · skip
        intro a4_2 b4_2 a4_3 b4_3 g4_ hI4_ hF4_ hM4_
        refine z_iload_n (pc := 4) C dX5_safeLands_4 rfl ?_
        refine z_bipush (pc := 5) (v := 6) C dX5_safeLands_5 (by decide) ?_
        refine z_icmp_ge (pc := 7) 117 C dX5_safeLands_7 (by decide) (fun h7_0 => ?_) (fun h7_0 => ?_)
        · skip
          have b2x : zB a4_3 6 6 := by have q1 := b4_3; have q2 := (zB.of (x := 6) 6 (by decide)); simp only [z32lt, z32le, z32eq, Int32.reduceToInt, Int32.toInt_zero] at h7_0; constructor <;> omega
          refine z_iload_n (pc := 117) C dX5_safeLands_117 rfl ?_
          exact z_iret (pc := 118) C hr dX5_safeLands_118 ⟨⟨_, rfl, b4_2⟩, hI4_, hF4_⟩
        · skip
          have b3x : zB a4_3 0 5 := by have q1 := b4_3; have q2 := (zB.of (x := 6) 6 (by decide)); simp only [z32lt, z32le, z32eq, Int32.reduceToInt, Int32.toInt_zero] at h7_0; constructor <;> omega
          refine z_aload_n (pc := 10) C dX5_safeLands_10 rfl ?_
          refine z_getR (pc := 11) C zf_X5_12 rfl rfl (by decide) dX5_safeLands_11 ?_
          refine z_iload_n (pc := 14) C dX5_safeLands_14 rfl ?_
          refine z_callV (pc := 15) C zk_X5_89 (w_X3_sit _ _ 2 (by decide) a4_3 b3x hI4_) rfl rfl (by decide) rfl rfl (Nat.le_of_ble_eq_true rfl) dX5_safeLands_15 (fun r4 g4 q4 => ?_)
          obtain ⟨rfl, hI4, hF4q⟩ := q4
          have hF4 := zFr.tr hF4_ hF4q (by decide)
          simp only [Option.toList, List.cons_append, List.nil_append]
          refine z_iload_n (pc := 18) C dX5_safeLands_18 rfl ?_
          refine z_if_eq (pc := 19) 36 C dX5_safeLands_19 (by decide) (fun h19_4 => ?_) (fun h19_4 => ?_)
          · skip
            have b6x : zB a1 0 0 := by have q1 := b1; have q2 := (zB.of (x := 0) 0 (by decide)); simp only [z32lt, z32le, z32eq, Int32.reduceToInt, Int32.toInt_zero] at h19_4; constructor <;> omega
            exact ih1 a4_2 b4_2 a4_3 b3x g4 hI4 hF4  (by omega)
          · skip
            have b7x : zB a1 1 1 := by have q1 := b1; have q2 := (zB.of (x := 0) 0 (by decide)); simp only [z32lt, z32le, z32eq, Int32.reduceToInt, Int32.toInt_zero] at h19_4; constructor <;> omega
            refine z_aload_n (pc := 22) C dX5_safeLands_22 rfl ?_
            refine z_getR (pc := 23) C zf_X5_31 rfl rfl (by decide) dX5_safeLands_23 ?_
            refine z_aload_n (pc := 26) C dX5_safeLands_26 rfl ?_
            refine z_getR (pc := 27) C zf_X5_12 rfl rfl (by decide) dX5_safeLands_27 ?_
            refine z_callV (pc := 30) C zk_X5_49 (w_X8_triedBy _ _ 2 (by decide) hI4) rfl rfl (by decide) rfl rfl (Nat.le_of_ble_eq_true rfl) dX5_safeLands_30 (fun r8 g8 q8 => ?_)
            obtain ⟨⟨v8, rfl, b8x⟩, hI8, hF8q⟩ := q8
            obtain rfl := zFr_nil hF8q
            simp only [Option.toList, List.cons_append, List.nil_append]
            refine z_if_ne (pc := 33) 40 C dX5_safeLands_33 (by decide) (fun h33_8 => ?_) (fun h33_8 => ?_)
            · skip
              have b10x : zB v8 1 255 := by have q1 := b8x; have q2 := (zB.of (x := 0) 0 (by decide)); simp only [z32lt, z32le, z32eq, Int32.reduceToInt, Int32.toInt_zero] at h33_8; constructor <;> omega
              refine z_iconst (pc := 40) (v := 0) C dX5_safeLands_40 (by decide) ?_
              exact ih2 a4_2 b4_2 a4_3 b3x 0 (zB.wk (a' := 0) (b' := 1) (zB.of (x := 0) 0 (by decide)) (by decide) (by decide)) g4 hI4 hF4  (by have qc0 : (0 : Int32).toInt = 0 := (by decide); omega)
            · skip
              have b11x : zB v8 0 0 := by have q1 := b8x; have q2 := (zB.of (x := 0) 0 (by decide)); simp only [z32lt, z32le, z32eq, Int32.reduceToInt, Int32.toInt_zero] at h33_8; constructor <;> omega
              exact ih1 a4_2 b4_2 a4_3 b3x g4 hI4 hF4  (by omega)
      · skip
        intro a36_2 b36_2 a36_3 b36_3 g36_ hI36_ hF36_ hM36_
        refine z_iconst (pc := 36) (v := 1) C dX5_safeLands_36 (by decide) ?_
        refine z_goto (pc := 37) 41 C dX5_safeLands_37 (by decide) ?_
        exact ih2 a36_2 b36_2 a36_3 b36_3 1 (zB.wk (a' := 0) (b' := 1) (zB.of (x := 1) 1 (by decide)) (by decide) (by decide)) g36_ hI36_ hF36_  (by have qc0 : (1 : Int32).toInt = 1 := (by decide); omega)
      · skip
        intro a41_2 b41_2 a41_3 b41_3 a41_s0 b41_s0 g41_ hI41_ hF41_ hM41_
        refine z_istore (pc := 41) C dX5_safeLands_41 (by rw [hn]; decide) rfl ?_
        refine z_iconst (pc := 43) (v := 0) C dX5_safeLands_43 (by decide) ?_
        refine z_istore (pc := 44) C dX5_safeLands_44 (by rw [hn]; decide) rfl ?_
        exact ih3 a41_2 b41_2 a41_3 b41_3 a41_s0 b41_s0 0 (zB.wk (a' := 0) (b' := 12) (zB.of (x := 0) 0 (by decide)) (by decide) (by decide)) g41_ hI41_ hF41_  (by have qc0 : (0 : Int32).toInt = 0 := (by decide); omega)
      · skip
        intro a46_2 b46_2 a46_3 b46_3 a46_4 b46_4 a46_5 b46_5 g46_ hI46_ hF46_ hM46_
        refine z_iload (pc := 46) C dX5_safeLands_46 rfl ?_
        refine z_aload_n (pc := 48) C dX5_safeLands_48 rfl ?_
        refine z_getR (pc := 49) C zf_X5_31 rfl rfl (by decide) dX5_safeLands_49 ?_
        refine z_getI (pc := 52) C zf_X5_76 rfl rfl (by decide) dX5_safeLands_52 ?_
        refine w_gb 0 12 (hI46_ 1 _ 7) (fun v12 b12x => ?_)
        refine z_icmp_ge (pc := 55) 96 C dX5_safeLands_55 (by decide) (fun h55_12 => ?_) (fun h55_12 => ?_)
        · skip
          refine z_iload_n (pc := 96) C dX5_safeLands_96 rfl ?_
          refine z_iload (pc := 97) C dX5_safeLands_97 rfl ?_
          refine z_if_eq (pc := 99) 108 C dX5_safeLands_99 (by decide) (fun h99_13 => ?_) (fun h99_13 => ?_)
          · skip
            have b15x : zB a46_4 0 0 := by have q1 := b46_4; have q2 := (zB.of (x := 0) 0 (by decide)); simp only [z32lt, z32le, z32eq, Int32.reduceToInt, Int32.toInt_zero] at h99_13; constructor <;> omega
            refine z_iconst (pc := 108) (v := 0) C dX5_safeLands_108 (by decide) ?_
            exact ih6 a46_2 b46_2 a46_3 b46_3 a46_4 (zB.wk (a' := 0) (b' := 1) b15x (by decide) (by decide)) a46_5 b46_5 a46_2 b46_2 0 (zB.wk (a' := 0) (b' := 32) (zB.of (x := 0) 0 (by decide)) (by decide) (by decide)) g46_ hI46_ hF46_  (by have qc0 : (0 : Int32).toInt = 0 := (by decide); omega)
          · skip
            have b16x : zB a46_4 1 1 := by have q1 := b46_4; have q2 := (zB.of (x := 0) 0 (by decide)); simp only [z32lt, z32le, z32eq, Int32.reduceToInt, Int32.toInt_zero] at h99_13; constructor <;> omega
            refine z_iconst (pc := 102) (v := 1) C dX5_safeLands_102 (by decide) ?_
            refine z_iload_n (pc := 103) C dX5_safeLands_103 rfl ?_
            refine z_ishl (pc := 104) C dX5_safeLands_104 ?_
            refine w_gb 0 32 (zshl_b b46_3 5 (by decide) (by decide)) (fun v17 b17x => ?_)
            refine z_goto (pc := 105) 109 C dX5_safeLands_105 (by decide) ?_
            exact ih6 a46_2 b46_2 a46_3 b46_3 a46_4 (zB.wk (a' := 0) (b' := 1) b16x (by decide) (by decide)) a46_5 b46_5 a46_2 b46_2 v17 b17x g46_ hI46_ hF46_  (by omega)
        · skip
          have b18x : zB a46_5 0 11 := by have q1 := b46_5; have q2 := b12x; simp only [z32lt, z32le, z32eq, Int32.reduceToInt, Int32.toInt_zero] at h55_12; constructor <;> omega
          have b19x : zB v12 1 12 := by have q1 := b46_5; have q2 := b12x; simp only [z32lt, z32le, z32eq, Int32.reduceToInt, Int32.toInt_zero] at h55_12; constructor <;> omega
          refine z_iload (pc := 58) C dX5_safeLands_58 rfl ?_
          refine z_if_eq (pc := 60) 87 C dX5_safeLands_60 (by decide) (fun h60_19 => ?_) (fun h60_19 => ?_)
          · skip
            have b21x : zB a46_4 0 0 := by have q1 := b46_4; have q2 := (zB.of (x := 0) 0 (by decide)); simp only [z32lt, z32le, z32eq, Int32.reduceToInt, Int32.toInt_zero] at h60_19; constructor <;> omega
            exact ih4 a46_2 b46_2 a46_3 b46_3 a46_4 (zB.wk (a' := 0) (b' := 1) b21x (by decide) (by decide)) a46_5 b18x g46_ hI46_ hF46_  (by omega)
          · skip
            have b22x : zB a46_4 1 1 := by have q1 := b46_4; have q2 := (zB.of (x := 0) 0 (by decide)); simp only [z32lt, z32le, z32eq, Int32.reduceToInt, Int32.toInt_zero] at h60_19; constructor <;> omega
            refine z_aload_n (pc := 63) C dX5_safeLands_63 rfl ?_
            refine z_getR (pc := 64) C zf_X5_12 rfl rfl (by decide) dX5_safeLands_64 ?_
            refine z_aload_n (pc := 67) C dX5_safeLands_67 rfl ?_
            refine z_getR (pc := 68) C zf_X5_31 rfl rfl (by decide) dX5_safeLands_68 ?_
            refine z_getR (pc := 71) C zf_X5_68 rfl rfl (by decide) dX5_safeLands_71 ?_
            refine z_iload (pc := 74) C dX5_safeLands_74 rfl ?_
            refine z_aald (pc := 76) C rfl ⟨rfl, by decide⟩ (by decide) (zIx b18x (by decide) (by decide)) dX5_safeLands_76 ?_
            refine w_gr (by have hq := zN b18x (by decide); show 12 * 0 + a46_5.toNatClampNeg < 36; omega) (fun m23 h23x => ?_)
            refine z_callV (pc := 77) C zk_X5_79 (w_X3_goesBy _ _ 2 (by decide) m23 h23x hI46_) rfl rfl (by decide) rfl rfl (Nat.le_of_ble_eq_true rfl) dX5_safeLands_77 (fun r24 g24 q24 => ?_)
            obtain ⟨⟨v24, rfl, b24x⟩, hI24, hF24q⟩ := q24
            obtain rfl := zFr_nil hF24q
            simp only [Option.toList, List.cons_append, List.nil_append]
            refine z_if_ne (pc := 80) 87 C dX5_safeLands_80 (by decide) (fun h80_24 => ?_) (fun h80_24 => ?_)
            · skip
              have b26x : zB v24 1 255 := by have q1 := b24x; have q2 := (zB.of (x := 0) 0 (by decide)); simp only [z32lt, z32le, z32eq, Int32.reduceToInt, Int32.toInt_zero] at h80_24; constructor <;> omega
              exact ih4 a46_2 b46_2 a46_3 b46_3 a46_4 (zB.wk (a' := 0) (b' := 1) b22x (by decide) (by decide)) a46_5 b18x g46_ hI46_ hF46_  (by omega)
            · skip
              have b27x : zB v24 0 0 := by have q1 := b24x; have q2 := (zB.of (x := 0) 0 (by decide)); simp only [z32lt, z32le, z32eq, Int32.reduceToInt, Int32.toInt_zero] at h80_24; constructor <;> omega
              refine z_iconst (pc := 83) (v := 1) C dX5_safeLands_83 (by decide) ?_
              refine z_goto (pc := 84) 88 C dX5_safeLands_84 (by decide) ?_
              exact ih5 a46_2 b46_2 a46_3 b46_3 a46_4 (zB.wk (a' := 0) (b' := 1) b22x (by decide) (by decide)) a46_5 b18x 1 (zB.wk (a' := 0) (b' := 1) (zB.of (x := 1) 1 (by decide)) (by decide) (by decide)) g46_ hI46_ hF46_  (by have qc0 : (1 : Int32).toInt = 1 := (by decide); omega)
      · skip
        intro a87_2 b87_2 a87_3 b87_3 a87_4 b87_4 a87_5 b87_5 g87_ hI87_ hF87_ hM87_
        refine z_iconst (pc := 87) (v := 0) C dX5_safeLands_87 (by decide) ?_
        exact ih5 a87_2 b87_2 a87_3 b87_3 a87_4 b87_4 a87_5 b87_5 0 (zB.wk (a' := 0) (b' := 1) (zB.of (x := 0) 0 (by decide)) (by decide) (by decide)) g87_ hI87_ hF87_  (by have qc0 : (0 : Int32).toInt = 0 := (by decide); omega)
      · skip
        intro a88_2 b88_2 a88_3 b88_3 a88_4 b88_4 a88_5 b88_5 a88_s0 b88_s0 g88_ hI88_ hF88_ hM88_
        refine z_istore (pc := 88) C dX5_safeLands_88 (by rw [hn]; decide) rfl ?_
        refine z_iinc (pc := 90) (v := 1) C dX5_safeLands_90 rfl (by decide) (by rw [hn]; decide) rfl ?_
        obtain ⟨v28, hv28, e28⟩ : ∃ v : Int32, v = a88_5 + 1 ∧ v.toInt = a88_5.toInt + 1 := ⟨_, rfl, zadd_eb b88_5 (zB.of (x := 1) 1 (by decide)) (by decide) (by decide)⟩
        rw [← hv28]
        have b28x : zB v28 1 12 := by have q9 := b88_5; constructor <;> omega
        refine z_goto (pc := 93) 46 C dX5_safeLands_93 (by decide) ?_
        exact ih3 a88_2 b88_2 a88_3 b88_3 a88_s0 b88_s0 v28 (zB.wk (a' := 0) (b' := 12) b28x (by decide) (by decide)) g88_ hI88_ hF88_  (by omega)
      · skip
        intro a109_2 b109_2 a109_3 b109_3 a109_4 b109_4 a109_5 b109_5 a109_s0 b109_s0 a109_s1 b109_s1 g109_ hI109_ hF109_ hM109_
        refine z_ior (pc := 109) C dX5_safeLands_109 ?_
        refine w_gb 0 63 (zor_b 6 b109_s0 b109_s1 (by decide) (by decide) (by decide) (by decide) (by decide)) (fun v29 b29x => ?_)
        refine z_istore_n (pc := 110) C dX5_safeLands_110 (by rw [hn]; decide) rfl ?_
        refine z_iinc (pc := 111) (v := 1) C dX5_safeLands_111 rfl (by decide) (by rw [hn]; decide) rfl ?_
        obtain ⟨v30, hv30, e30⟩ : ∃ v : Int32, v = a109_3 + 1 ∧ v.toInt = a109_3.toInt + 1 := ⟨_, rfl, zadd_eb b109_3 (zB.of (x := 1) 1 (by decide)) (by decide) (by decide)⟩
        rw [← hv30]
        have b30x : zB v30 1 6 := by have q9 := b109_3; constructor <;> omega
        refine z_goto (pc := 114) 4 C dX5_safeLands_114 (by decide) ?_
        refine w_mask [4, 5] ?_
        exact ih0 v29 b29x v30 (zB.wk (a' := 0) (b' := 6) b30x (by decide) (by decide)) g109_ hI109_ hF109_  (by omega)
  obtain ⟨J0, J1, J2, J3, J4, J5, J6⟩ := J 1017
  show Z X 0 [some (zr 13 0), some (zi a1), none, none, none, none] [] f
  refine z_iconst (pc := 0) (v := 0) C dX5_safeLands_0 (by decide) ?_
  refine z_istore_n (pc := 1) C dX5_safeLands_1 (by rw [hn]; decide) rfl ?_
  refine z_iconst (pc := 2) (v := 0) C dX5_safeLands_2 (by decide) ?_
  refine z_istore_n (pc := 3) C dX5_safeLands_3 (by rw [hn]; decide) rfl ?_
  exact J0 0 (zB.wk (a' := 0) (b' := 63) (zB.of (x := 0) 0 (by decide)) (by decide) (by decide)) 0 (zB.wk (a' := 0) (b' := 6) (zB.of (x := 0) 0 (by decide)) (by decide) (by decide)) f hI hF  (by have qc0 : (0 : Int32).toInt = 0 := (by decide); omega)
