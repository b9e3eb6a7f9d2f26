set_option maxRecDepth 100000 in
set_option maxHeartbeats 4000000 in
theorem w_X5_begin (d : Nat) (f : zM)  (hI : zInv f) : ZM d yX5_begin cX5_begin 1 none [zr 13 0] f (fun r g => r = none ∧ zInv g ∧ zFr [(13, some 6), (13, some 7)] f g) := by
  refine ZM.intro (by decide +kernel) (Nat.le_of_ble_eq_true rfl) ?_
  intro X C hr hn
  have hF : zFr [(13, some 6), (13, some 7)] f f := zFr.rf _ _
  show Z X 0 [some (zr 13 0)] [] f
  refine z_aload_n (pc := 0) C dX5_begin_0 rfl ?_
  refine z_dupr (pc := 1) C dX5_begin_1 ?_
  refine z_getI (pc := 2) C zf_X5_58 rfl rfl (by decide) dX5_begin_2 ?_
  refine w_gb (-2147483648) 2147483647 (hI 13 _ 7) (fun v1 b1x => ?_)
  refine z_iconst (pc := 5) (v := 1) C dX5_begin_5 (by decide) ?_
  refine z_iadd (pc := 6) C dX5_begin_6 ?_
  refine w_gb (-2147483648) 2147483647 (zB_any _) (fun v2 b2x => ?_)
  refine z_putI (pc := 7) C zf_X5_58 zp_5_7 rfl rfl (by decide) dX5_begin_7 ?_
  refine w_mem hI hF b2x rfl (fun g3 hI3 hF3 => ?_)
  refine z_aload_n (pc := 10) C dX5_begin_10 rfl ?_
  refine z_iconst (pc := 11) (v := 1) C dX5_begin_11 (by decide) ?_
  refine z_putI (pc := 12) C zf_X5_38 zp_5_6 rfl rfl (by decide) dX5_begin_12 ?_
  refine w_mem hI3 hF3 (zB.wk (a' := 0) (b' := 3073) (zB.of (x := 1) 1 (by decide)) (by decide) (by decide)) rfl (fun g4 hI4 hF4 => ?_)
  exact z_vret (pc := 15) C hr dX5_begin_15 ⟨rfl, hI4, hF4⟩

set_option maxRecDepth 100000 in
set_option maxHeartbeats 4000000 in
theorem w_X5_spread (d : Nat) (f : zM) (a1 : Int32) (b1 : zB a1 0 3072) (hI : zInv f) : ZM (d + 2) yX5_spread cX5_spread 5 none [zr 13 0, zi a1] f (fun r g => r = none ∧ zInv g ∧ zFr [(13, some 6), (14, none), (15, none), (16, none)] f g) := by
  refine ZM.intro (by decide +kernel) (Nat.le_of_ble_eq_true rfl) ?_
  intro X C hr hn
  have hF : zFr [(13, some 6), (14, none), (15, none), (16, none)] f f := zFr.rf _ _
  have ct13_0_6 : zB (f 13 0 6) 0 3073 := hI 13 0 6
  have J : ∀ t : Nat, (∀ a2_2 : Int32, zB a2_2 0 12 → ∀ g : zM, zInv g → zFr [(13, some 6), (14, none), (15, none), (16, none)] f g → zB (g 13 0 6) 0 3073 → (2 + 5 * (12 - a2_2.toInt) : Int) < t → Z X 2 [some (zr 13 0), some (zi a1), some (zi a2_2), none, none] [] g) ∧ (∀ a58_2 : Int32, zB a58_2 0 11 → ∀ a58_3 : Int32, zB a58_3 0 255 → ∀ a58_s0 : Int32, zB a58_s0 0 2816 → ∀ a58_s1 : Int32, zB a58_s1 0 255 → ∀ g : zM, zInv g → zFr [(13, some 6), (14, none), (15, none), (16, none)] f g → zB (g 13 0 6) 0 3073 → (1 + 5 * (12 - a58_2.toInt) : Int) < t → Z X 58 [some (zr 13 0), some (zi a1), some (zi a58_2), some (zi a58_3), none] [zi a58_s1, zi a58_s0] g) ∧ (∀ a133_2 : Int32, zB a133_2 0 11 → ∀ a133_3 : Int32, zB a133_3 0 255 → ∀ a133_4 : Int32, zB a133_4 0 3071 → ∀ g : zM, zInv g → zFr [(13, some 6), (14, none), (15, none), (16, none)] f g → zB (g 13 0 6) 0 3073 → (0 + 5 * (12 - a133_2.toInt) : Int) < t → Z X 133 [some (zr 13 0), some (zi a1), some (zi a133_2), some (zi a133_3), some (zi a133_4)] [] g) := by
    intro t
    induction t with
    | zero =>
      refine ⟨?_, ?_, ?_⟩ <;> (intros; exfalso; omega)
    | succ t ih =>
      obtain ⟨ih0, ih1, ih2⟩ := ih
      refine ⟨?_, ?_, ?_⟩
      · skip
        intro a2_2 b2_2 g2_ hI2_ hF2_ f2_13_0_6 hM2_
        refine z_iload_n (pc := 2) C dX5_spread_2 rfl ?_
        refine z_aload_n (pc := 3) C dX5_spread_3 rfl ?_
        refine z_getR (pc := 4) C zf_X5_31 rfl rfl (by decide) dX5_spread_4 ?_
        refine z_getI (pc := 7) C zf_X5_76 rfl rfl (by decide) dX5_spread_7 ?_
        refine w_gb 0 12 (hI2_ 1 _ 7) (fun v1 b1x => ?_)
        refine z_icmp_ge (pc := 10) 139 C dX5_spread_10 (by decide) (fun h10_1 => ?_) (fun h10_1 => ?_)
        · skip
          exact z_vret (pc := 139) C hr dX5_spread_139 ⟨rfl, hI2_, hF2_⟩
        · skip
          have b3x : zB a2_2 0 11 := by have q1 := b2_2; have q2 := b1x; simp only [z32lt, z32le, z32eq, Int32.reduceToInt, Int32.toInt_zero] at h10_1; constructor <;> omega
          have b4x : zB v1 1 12 := by have q1 := b2_2; have q2 := b1x; simp only [z32lt, z32le, z32eq, Int32.reduceToInt, Int32.toInt_zero] at h10_1; constructor <;> omega
          refine z_aload_n (pc := 13) C dX5_spread_13 rfl ?_
          refine z_getR (pc := 14) C zf_X5_12 rfl rfl (by decide) dX5_spread_14 ?_
          refine z_aload_n (pc := 17) C dX5_spread_17 rfl ?_
          refine z_getR (pc := 18) C zf_X5_31 rfl rfl (by decide) dX5_spread_18 ?_
          refine z_getR (pc := 21) C zf_X5_68 rfl rfl (by decide) dX5_spread_21 ?_
          refine z_iload_n (pc := 24) C dX5_spread_24 rfl ?_
          refine z_aald (pc := 25) C rfl ⟨rfl, by decide⟩ (by decide) (zIx b3x (by decide) (by decide)) dX5_spread_25 ?_
          refine w_gr (by have hq := zN b3x (by decide); show 12 * 0 + a2_2.toNatClampNeg < 36; omega) (fun m5 h5x => ?_)
          refine z_callV (pc := 26) C zk_X5_79 (w_X3_goesBy _ _ 2 (by decide) m5 h5x hI2_) rfl rfl (by decide) rfl rfl (Nat.le_of_ble_eq_true rfl) dX5_spread_26 (fun r6 g6 q6 => ?_)
          obtain ⟨⟨v6, rfl, b6x⟩, hI6, hF6q⟩ := q6
          obtain rfl := zFr_nil hF6q
          simp only [Option.toList, List.cons_append, List.nil_append]
          refine z_istore_n (pc := 29) C dX5_spread_29 (by rw [hn]; decide) rfl ?_
          refine z_iload_n (pc := 30) C dX5_spread_30 rfl ?_
          refine z_sipush (pc := 31) (v := 256) C dX5_spread_31 (by decide) ?_
          refine z_imul (pc := 34) C dX5_spread_34 ?_
          refine w_gp (fun v => v.toInt = 256 * a2_2.toInt) (by rw [Int32.mul_comm]; exact zmul_kb 256 (by decide) (by decide) b3x (by decide) (by decide)) (fun v7 e7 => ?_)
          have b7x : zB v7 0 2816 := zmul_bb e7 (by decide) b3x
          refine z_aload_n (pc := 35) C dX5_spread_35 rfl ?_
          refine z_getR (pc := 36) C zf_X5_31 rfl rfl (by decide) dX5_spread_36 ?_
          refine z_getR (pc := 39) C zf_X5_68 rfl rfl (by decide) dX5_spread_39 ?_
          refine z_iload_n (pc := 42) C dX5_spread_42 rfl ?_
          refine z_aald (pc := 43) C rfl ⟨rfl, by decide⟩ (by decide) (zIx b3x (by decide) (by decide)) dX5_spread_43 ?_
          refine w_gr (by have hq := zN b3x (by decide); show 12 * 0 + a2_2.toNatClampNeg < 36; omega) (fun m8 h8x => ?_)
          refine z_iconst (pc := 44) (v := 2) C dX5_spread_44 (by decide) ?_
          refine z_callV (pc := 45) C zk_X5_83 (w_X4_pledges _ _ m8 h8x 2 (zB.wk (a' := (-2147483648)) (b' := 2147483647) (zB.of (x := 2) 2 (by decide)) (by decide) (by decide)) hI2_) rfl rfl h8x rfl rfl (Nat.le_of_ble_eq_true rfl) dX5_spread_45 (fun r9 g9 q9 => ?_)
          obtain ⟨⟨v9, rfl, b9x⟩, hI9, hF9q⟩ := q9
          obtain rfl := zFr_nil hF9q
          simp only [Option.toList, List.cons_append, List.nil_append]
          refine z_if_eq (pc := 48) 55 C dX5_spread_48 (by decide) (fun h48_9 => ?_) (fun h48_9 => ?_)
          · skip
            have b11x : zB v9 0 0 := by have q1 := b9x; have q2 := (zB.of (x := 0) 0 (by decide)); simp only [z32lt, z32le, z32eq, Int32.reduceToInt, Int32.toInt_zero] at h48_9; constructor <;> omega
            refine z_sipush (pc := 55) (v := 255) C dX5_spread_55 (by decide) ?_
            exact ih1 a2_2 b3x v6 b6x v7 b7x 255 (zB.wk (a' := 0) (b' := 255) (zB.of (x := 255) 255 (by decide)) (by decide) (by decide)) g2_ hI2_ hF2_ f2_13_0_6 (by have qc0 : (255 : Int32).toInt = 255 := (by decide); omega)
          · skip
            have b12x : zB v9 1 1 := by have q1 := b9x; have q2 := (zB.of (x := 0) 0 (by decide)); simp only [z32lt, z32le, z32eq, Int32.reduceToInt, Int32.toInt_zero] at h48_9; constructor <;> omega
            refine z_iload_n (pc := 51) C dX5_spread_51 rfl ?_
            refine z_goto (pc := 52) 58 C dX5_spread_52 (by decide) ?_
            exact ih1 a2_2 b3x v6 b6x v7 b7x v6 b6x g2_ hI2_ hF2_ f2_13_0_6 (by omega)
      · skip
        intro a58_2 b58_2 a58_3 b58_3 a58_s0 b58_s0 a58_s1 b58_s1 g58_ hI58_ hF58_ f58_13_0_6 hM58_
        refine z_iadd (pc := 58) C dX5_spread_58 ?_
        refine w_gp (fun v => v.toInt = a58_s0.toInt + a58_s1.toInt) (zadd_eb b58_s0 b58_s1 (by decide) (by decide)) (fun v13 e13 => ?_)
        have b13x : zB v13 0 3071 := by have q1 := b58_s0; have q2 := b58_s1; constructor <;> omega
        refine z_istore (pc := 59) C dX5_spread_59 (by rw [hn]; decide) rfl ?_
        refine z_iload_n (pc := 61) C dX5_spread_61 rfl ?_
        refine z_if_eq (pc := 62) 133 C dX5_spread_62 (by decide) (fun h62_13 => ?_) (fun h62_13 => ?_)
        · skip
          have b15x : zB a58_3 0 0 := by have q1 := b58_3; have q2 := (zB.of (x := 0) 0 (by decide)); simp only [z32lt, z32le, z32eq, Int32.reduceToInt, Int32.toInt_zero] at h62_13; constructor <;> omega
          exact ih2 a58_2 b58_2 a58_3 (zB.wk (a' := 0) (b' := 255) b15x (by decide) (by decide)) v13 b13x g58_ hI58_ hF58_ f58_13_0_6 (by omega)
        · skip
          have b16x : zB a58_3 1 255 := by have q1 := b58_3; have q2 := (zB.of (x := 0) 0 (by decide)); simp only [z32lt, z32le, z32eq, Int32.reduceToInt, Int32.toInt_zero] at h62_13; constructor <;> omega
          refine z_aload_n (pc := 65) C dX5_spread_65 rfl ?_
          refine z_getR (pc := 66) C zf_X5_18 rfl rfl (by decide) dX5_spread_66 ?_
          refine z_iload (pc := 69) C dX5_spread_69 rfl ?_
          refine z_iald (pc := 71) C rfl (by decide) (zIx b13x (by decide) (by decide)) dX5_spread_71 ?_
          refine w_gb (-2147483648) 2147483647 (hI58_ 14 _ _) (fun v17 b17x => ?_)
          refine z_aload_n (pc := 72) C dX5_spread_72 rfl ?_
          refine z_getI (pc := 73) C zf_X5_58 rfl rfl (by decide) dX5_spread_73 ?_
          refine w_gb (-2147483648) 2147483647 (hI58_ 13 _ 7) (fun v18 b18x => ?_)
          refine z_icmp_eq (pc := 76) 133 C dX5_spread_76 (by decide) (fun h76_18 => ?_) (fun h76_18 => ?_)
          · skip
            exact ih2 a58_2 b58_2 a58_3 (zB.wk (a' := 0) (b' := 255) b16x (by decide) (by decide)) v13 b13x g58_ hI58_ hF58_ f58_13_0_6 (by omega)
          · skip
            refine z_aload_n (pc := 79) C dX5_spread_79 rfl ?_
            refine z_getI (pc := 80) C zf_X5_38 rfl rfl (by decide) dX5_spread_80 ?_
            refine w_gp (fun v => v.toInt = (g58_ 13 0 6).toInt) rfl (fun v20 e20 => ?_)
            have b20x : zB v20 0 3073 := by have q9 : zB (g58_ 13 0 6) 0 3073 := f58_13_0_6; constructor <;> omega
            refine z_aload_n (pc := 83) C dX5_spread_83 rfl ?_
            refine z_getR (pc := 84) C zf_X5_22 rfl rfl (by decide) dX5_spread_84 ?_
            refine z_alenI (pc := 87) (v := 3073) C rfl (by decide) rfl dX5_spread_87 ?_
            refine z_icmp_ge (pc := 88) 133 C dX5_spread_88 (by decide) (fun h88_20 => ?_) (fun h88_20 => ?_)
            · skip
              have b22x : zB v20 3073 3073 := by have q1 := b20x; have q2 := (zB.of (x := 3073) 3073 (by decide)); simp only [z32lt, z32le, z32eq, Int32.reduceToInt, Int32.toInt_zero] at h88_20; constructor <;> omega
              have c23x : zB (g58_ 13 0 6) 3073 3073 := by first | assumption | (constructor <;> omega)
              exact ih2 a58_2 b58_2 a58_3 (zB.wk (a' := 0) (b' := 255) b16x (by decide) (by decide)) v13 b13x g58_ hI58_ hF58_ (zB.wk c23x (by decide) (by decide)) (by omega)
            · skip
              have b24x : zB v20 0 3072 := by have q1 := b20x; have q2 := (zB.of (x := 3073) 3073 (by decide)); simp only [z32lt, z32le, z32eq, Int32.reduceToInt, Int32.toInt_zero] at h88_20; constructor <;> omega
              have c25x : zB (g58_ 13 0 6) 0 3072 := by first | assumption | (constructor <;> omega)
              refine z_aload_n (pc := 91) C dX5_spread_91 rfl ?_
              refine z_getR (pc := 92) C zf_X5_18 rfl rfl (by decide) dX5_spread_92 ?_
              refine z_iload (pc := 95) C dX5_spread_95 rfl ?_
              refine z_aload_n (pc := 97) C dX5_spread_97 rfl ?_
              refine z_getI (pc := 98) C zf_X5_58 rfl rfl (by decide) dX5_spread_98 ?_
              refine w_gb (-2147483648) 2147483647 (hI58_ 13 _ 7) (fun v26 b26x => ?_)
              refine z_iast (pc := 101) C rfl (by decide) (zIx b13x (by decide) (by decide)) dX5_spread_101 ?_
              refine w_mem2 hI58_ hF58_ b26x rfl (fun g27 hI27 hF27 hq27 hx27 => ?_)
              have ek27_13_0_6 : (g27 13 0 6).toInt = (g58_ 13 0 6).toInt := by rw [hq27 13 0 6 (by omega)]
              have c27_13_0_6x : zB (g27 13 0 6) 0 3072 := by first | exact zB.eqv ek27_13_0_6 c25x | (have q9 := c25x; constructor <;> omega)
              refine z_aload_n (pc := 102) C dX5_spread_102 rfl ?_
              refine z_getR (pc := 103) C zf_X5_22 rfl rfl (by decide) dX5_spread_103 ?_
              refine z_aload_n (pc := 106) C dX5_spread_106 rfl ?_
              refine z_getI (pc := 107) C zf_X5_38 rfl rfl (by decide) dX5_spread_107 ?_
              refine w_gp (fun v => v.toInt = (g27 13 0 6).toInt) rfl (fun v28 e28 => ?_)
              have b28x : zB v28 0 3072 := by have q9 : zB (g27 13 0 6) 0 3072 := c27_13_0_6x; constructor <;> omega
              refine z_iload (pc := 110) C dX5_spread_110 rfl ?_
              refine z_iast (pc := 112) C rfl (by decide) (zIx b28x (by decide) (by decide)) dX5_spread_112 ?_
              refine w_mem2 hI27 hF27 b13x rfl (fun g29 hI29 hF29 hq29 hx29 => ?_)
              have ek29_13_0_6 : (g29 13 0 6).toInt = (g27 13 0 6).toInt := by rw [hq29 13 0 6 (by omega)]
              have c29_13_0_6x : zB (g29 13 0 6) 0 3072 := by first | exact zB.eqv ek29_13_0_6 c27_13_0_6x | (have q9 := c27_13_0_6x; constructor <;> omega)
              refine z_aload_n (pc := 113) C dX5_spread_113 rfl ?_
              refine z_getR (pc := 114) C zf_X5_25 rfl rfl (by decide) dX5_spread_114 ?_
              refine z_aload_n (pc := 117) C dX5_spread_117 rfl ?_
              refine z_getI (pc := 118) C zf_X5_38 rfl rfl (by decide) dX5_spread_118 ?_
              refine w_gp (fun v => v.toInt = (g29 13 0 6).toInt) rfl (fun v30 e30 => ?_)
              have b30x : zB v30 0 3072 := by have q9 : zB (g29 13 0 6) 0 3072 := c29_13_0_6x; constructor <;> omega
              refine z_iload_n (pc := 121) C dX5_spread_121 rfl ?_
              refine z_iast (pc := 122) C rfl (by decide) (zIx b30x (by decide) (by decide)) dX5_spread_122 ?_
              refine w_mem2 hI29 hF29 b1 rfl (fun g31 hI31 hF31 hq31 hx31 => ?_)
              have ek31_13_0_6 : (g31 13 0 6).toInt = (g29 13 0 6).toInt := by rw [hq31 13 0 6 (by omega)]
              have c31_13_0_6x : zB (g31 13 0 6) 0 3072 := by first | exact zB.eqv ek31_13_0_6 c29_13_0_6x | (have q9 := c29_13_0_6x; constructor <;> omega)
              refine z_aload_n (pc := 123) C dX5_spread_123 rfl ?_
              refine z_dupr (pc := 124) C dX5_spread_124 ?_
              refine z_getI (pc := 125) C zf_X5_38 rfl rfl (by decide) dX5_spread_125 ?_
              refine w_gp (fun v => v.toInt = (g31 13 0 6).toInt) rfl (fun v32 e32 => ?_)
              have b32x : zB v32 0 3072 := by have q9 : zB (g31 13 0 6) 0 3072 := c31_13_0_6x; constructor <;> omega
              refine z_iconst (pc := 128) (v := 1) C dX5_spread_128 (by decide) ?_
              refine z_iadd (pc := 129) C dX5_spread_129 ?_
              refine w_gp (fun v => v.toInt = v32.toInt + 1) (zadd_eb b32x (zB.of (x := 1) 1 (by decide)) (by decide) (by decide)) (fun v33 e33 => ?_)
              have b33x : zB v33 1 3073 := by have q1 := b32x; have q2 := (zB.of (x := 1) 1 (by decide)); constructor <;> omega
              refine z_putI (pc := 130) C zf_X5_38 zp_5_6 rfl rfl (by decide) dX5_spread_130 ?_
              refine w_mem2 hI31 hF31 (zB.wk (a' := 0) (b' := 3073) b33x (by decide) (by decide)) rfl (fun g34 hI34 hF34 hq34 hx34 => ?_)
              have ec34 : (g34 13 0 6).toInt = v33.toInt := by rw [hx34]
              have c34x : zB (g34 13 0 6) 1 3073 := by first | exact zB.eqv ec34 b33x | (have q9 := b33x; constructor <;> omega)
              exact ih2 a58_2 b58_2 a58_3 (zB.wk (a' := 0) (b' := 255) b16x (by decide) (by decide)) v13 b13x g34 hI34 hF34 (zB.wk c34x (by decide) (by decide)) (by omega)
      · skip
        intro a133_2 b133_2 a133_3 b133_3 a133_4 b133_4 g133_ hI133_ hF133_ f133_13_0_6 hM133_
        refine z_iinc (pc := 133) (v := 1) C dX5_spread_133 rfl (by decide) (by rw [hn]; decide) rfl ?_
        obtain ⟨v35, hv35, e35⟩ : ∃ v : Int32, v = a133_2 + 1 ∧ v.toInt = a133_2.toInt + 1 := ⟨_, rfl, zadd_eb b133_2 (zB.of (x := 1) 1 (by decide)) (by decide) (by decide)⟩
        rw [← hv35]
        have b35x : zB v35 1 12 := by have q9 := b133_2; constructor <;> omega
        refine z_goto (pc := 136) 2 C dX5_spread_136 (by decide) ?_
        refine w_mask [3, 4] ?_
        exact ih0 v35 (zB.wk (a' := 0) (b' := 12) b35x (by decide) (by decide)) g133_ hI133_ hF133_ f133_13_0_6 (by omega)
  obtain ⟨J0, J1, J2⟩ := J 79
  show Z X 0 [some (zr 13 0), some (zi a1), none, none, none] [] f
  refine z_iconst (pc := 0) (v := 0) C dX5_spread_0 (by decide) ?_
  refine z_istore_n (pc := 1) C dX5_spread_1 (by rw [hn]; decide) rfl ?_
  exact J0 0 (zB.wk (a' := 0) (b' := 12) (zB.of (x := 0) 0 (by decide)) (by decide) (by decide)) f hI hF ct13_0_6 (by have qc0 : (0 : Int32).toInt = 0 := (by decide); omega)

set_option maxRecDepth 100000 in
set_option maxHeartbeats 4000000 in
theorem w_X5_lengthTo (d : Nat) (f : zM) (a1 : Int32) (b1 : zB a1 0 3072) (hI : zInv f) : ZM d yX5_lengthTo cX5_lengthTo 4 (some .int) [zr 13 0, zi a1] f (fun r g => (∃ v, r = some (zi v) ∧ zB v 0 3073) ∧ zInv g ∧ zFr [] f g) := by
  refine ZM.intro (by decide +kernel) (Nat.le_of_ble_eq_true rfl) ?_
  intro X C hr hn
  have hF : zFr [] f f := zFr.rf _ _
  have J : ∀ t : Nat, (∀ a4_2 : Int32, zB a4_2 0 3073 → ∀ a4_3 : Int32, zB a4_3 0 3072 → ∀ g : zM, zInv g → zFr [] f g → (1 + 4 * (3073 - a4_2.toInt) : Int) < t → Z X 4 [some (zr 13 0), some (zi a1), some (zi a4_2), some (zi a4_3)] [] g) ∧ (∀ a30_2 : Int32, zB a30_2 0 3073 → ∀ a30_3 : Int32, zB a30_3 0 3072 → ∀ g : zM, zInv g → zFr [] f g → (0 : Int) < t → Z X 30 [some (zr 13 0), some (zi a1), some (zi a30_2), some (zi a30_3)] [] g) := by
    intro t
    induction t with
    | zero =>
      refine ⟨?_, ?_⟩ <;> (intros; exfalso; omega)
    | succ t ih =>
      obtain ⟨ih0, ih1⟩ := ih
      refine ⟨?_, ?_⟩
      · skip
        intro a4_2 b4_2 a4_3 b4_3 g4_ hI4_ hF4_ hM4_
        refine z_iload_n (pc := 4) C dX5_lengthTo_4 rfl ?_
        refine z_if_le (pc := 5) 30 C dX5_lengthTo_5 (by decide) (fun h5_0 => ?_) (fun h5_0 => ?_)
        · skip
          have b2x : zB a4_3 0 0 := by have q1 := b4_3; have q2 := (zB.of (x := 0) 0 (by decide)); simp only [z32lt, z32le, z32eq, Int32.reduceToInt, Int32.toInt_zero] at h5_0; constructor <;> omega
          exact ih1 a4_2 b4_2 a4_3 (zB.wk (a' := 0) (b' := 3072) b2x (by decide) (by decide)) g4_ hI4_ hF4_  (by omega)
        · skip
          have b3x : zB a4_3 1 3072 := by have q1 := b4_3; have q2 := (zB.of (x := 0) 0 (by decide)); simp only [z32lt, z32le, z32eq, Int32.reduceToInt, Int32.toInt_zero] at h5_0; constructor <;> omega
          refine z_iload_n (pc := 8) C dX5_lengthTo_8 rfl ?_
          refine z_aload_n (pc := 9) C dX5_lengthTo_9 rfl ?_
          refine z_getR (pc := 10) C zf_X5_22 rfl rfl (by decide) dX5_lengthTo_10 ?_
          refine z_alenI (pc := 13) (v := 3073) C rfl (by decide) rfl dX5_lengthTo_13 ?_
          refine z_icmp_ge (pc := 14) 30 C dX5_lengthTo_14 (by decide) (fun h14_3 => ?_) (fun h14_3 => ?_)
          · skip
            have b5x : zB a4_2 3073 3073 := by have q1 := b4_2; have q2 := (zB.of (x := 3073) 3073 (by decide)); simp only [z32lt, z32le, z32eq, Int32.reduceToInt, Int32.toInt_zero] at h14_3; constructor <;> omega
            exact ih1 a4_2 (zB.wk (a' := 0) (b' := 3073) b5x (by decide) (by decide)) a4_3 (zB.wk (a' := 0) (b' := 3072) b3x (by decide) (by decide)) g4_ hI4_ hF4_  (by omega)
          · skip
            have b6x : zB a4_2 0 3072 := by have q1 := b4_2; have q2 := (zB.of (x := 3073) 3073 (by decide)); simp only [z32lt, z32le, z32eq, Int32.reduceToInt, Int32.toInt_zero] at h14_3; constructor <;> omega
            refine z_iinc (pc := 17) (v := 1) C dX5_lengthTo_17 rfl (by decide) (by rw [hn]; decide) rfl ?_
            obtain ⟨v7, hv7, e7⟩ : ∃ v : Int32, v = a4_2 + 1 ∧ v.toInt = a4_2.toInt + 1 := ⟨_, rfl, zadd_eb b6x (zB.of (x := 1) 1 (by decide)) (by decide) (by decide)⟩
            rw [← hv7]
            have b7x : zB v7 1 3073 := by have q9 := b6x; constructor <;> omega
            refine z_aload_n (pc := 20) C dX5_lengthTo_20 rfl ?_
            refine z_getR (pc := 21) C zf_X5_25 rfl rfl (by decide) dX5_lengthTo_21 ?_
            refine z_iload_n (pc := 24) C dX5_lengthTo_24 rfl ?_
            refine z_iald (pc := 25) C rfl (by decide) (zIx b3x (by decide) (by decide)) dX5_lengthTo_25 ?_
            refine w_gb 0 3072 (hI4_ 16 _ _) (fun v8 b8x => ?_)
            refine z_istore_n (pc := 26) C dX5_lengthTo_26 (by rw [hn]; decide) rfl ?_
            refine z_goto (pc := 27) 4 C dX5_lengthTo_27 (by decide) ?_
            exact ih0 v7 (zB.wk (a' := 0) (b' := 3073) b7x (by decide) (by decide)) v8 b8x g4_ hI4_ hF4_  (by omega)
      · skip
        intro a30_2 b30_2 a30_3 b30_3 g30_ hI30_ hF30_ hM30_
        refine z_iload_n (pc := 30) C dX5_lengthTo_30 rfl ?_
        exact z_iret (pc := 31) C hr dX5_lengthTo_31 ⟨⟨_, rfl, b30_2⟩, hI30_, hF30_⟩
  obtain ⟨J0, J1⟩ := J 12309
  show Z X 0 [some (zr 13 0), some (zi a1), none, none] [] f
  refine z_iconst (pc := 0) (v := 0) C dX5_lengthTo_0 (by decide) ?_
  refine z_istore_n (pc := 1) C dX5_lengthTo_1 (by rw [hn]; decide) rfl ?_
  refine z_iload_n (pc := 2) C dX5_lengthTo_2 rfl ?_
  refine z_istore_n (pc := 3) C dX5_lengthTo_3 (by rw [hn]; decide) rfl ?_
  exact J0 0 (zB.wk (a' := 0) (b' := 3073) (zB.of (x := 0) 0 (by decide)) (by decide) (by decide)) a1 b1 f hI hF  (by have qc0 : (0 : Int32).toInt = 0 := (by decide); omega)

set_option maxRecDepth 100000 in
set_option maxHeartbeats 4000000 in
theorem w_X5_paperOn (d : Nat) (f : zM) (a1 : Int32) (b1 : zB a1 0 3072) (a2 : Int32) (b2 : zB a2 (-4000) 4000) (hI : zInv f) : ZM d yX5_paperOn cX5_paperOn 5 (some .int) [zr 13 0, zi a1, zi a2] f (fun r g => (∃ v, r = some (zi v) ∧ zB v 0 11) ∧ zInv g ∧ zFr [] f g) := by
  refine ZM.intro (by decide +kernel) (Nat.le_of_ble_eq_true rfl) ?_
  intro X C hr hn
  have hF : zFr [] f f := zFr.rf _ _
  have J : ∀ t : Nat, (∀ a5_3 : Int32, zB a5_3 0 3072 → ∀ a5_4 : Int32, zB a5_4 0 4000 → ∀ g : zM, zInv g → zFr [] f g → (0 + 3 * (4000 - a5_4.toInt) : Int) < t → Z X 5 [some (zr 13 0), some (zi a1), some (zi a2), some (zi a5_3), some (zi a5_4)] [] g) := by
    intro t
    induction t with
    | zero =>
      intros; exfalso; omega
    | succ t ih =>
      have ih0 := ih
      intro a5_3 b5_3 a5_4 b5_4 g5_ hI5_ hF5_ hM5_
      refine z_iload (pc := 5) C dX5_paperOn_5 rfl ?_
      refine z_iload_n (pc := 7) C dX5_paperOn_7 rfl ?_
      refine z_icmp_ge (pc := 8) 24 C dX5_paperOn_8 (by decide) (fun h8_0 => ?_) (fun h8_0 => ?_)
      · skip
        refine z_aload_n (pc := 24) C dX5_paperOn_24 rfl ?_
        refine z_getR (pc := 25) C zf_X5_22 rfl rfl (by decide) dX5_paperOn_25 ?_
        refine z_iload_n (pc := 28) C dX5_paperOn_28 rfl ?_
        refine z_iald (pc := 29) C rfl (by decide) (zIx b5_3 (by decide) (by decide)) dX5_paperOn_29 ?_
        refine w_gb 0 3071 (hI5_ 15 _ _) (fun v2 b2x => ?_)
        refine z_sipush (pc := 30) (v := 256) C dX5_paperOn_30 (by decide) ?_
        refine z_idiv (pc := 33) C dX5_paperOn_33 (by decide) ?_
        refine w_gb 0 11 (zdiv_b 256 b2x (by decide) (by decide) (by decide)) (fun v3 b3x => ?_)
        exact z_iret (pc := 34) C hr dX5_paperOn_34 ⟨⟨_, rfl, b3x⟩, hI5_, hF5_⟩
      · skip
        have b4x : zB a5_4 0 3999 := by have q1 := b5_4; have q2 := b2; simp only [z32lt, z32le, z32eq, Int32.reduceToInt, Int32.toInt_zero] at h8_0; constructor <;> omega
        have b5x : zB a2 1 4000 := by have q1 := b5_4; have q2 := b2; simp only [z32lt, z32le, z32eq, Int32.reduceToInt, Int32.toInt_zero] at h8_0; constructor <;> omega
        refine z_aload_n (pc := 11) C dX5_paperOn_11 rfl ?_
        refine z_getR (pc := 12) C zf_X5_25 rfl rfl (by decide) dX5_paperOn_12 ?_
        refine z_iload_n (pc := 15) C dX5_paperOn_15 rfl ?_
        refine z_iald (pc := 16) C rfl (by decide) (zIx b5_3 (by decide) (by decide)) dX5_paperOn_16 ?_
        refine w_gb 0 3072 (hI5_ 16 _ _) (fun v6 b6x => ?_)
        refine z_istore_n (pc := 17) C dX5_paperOn_17 (by rw [hn]; decide) rfl ?_
        refine z_iinc (pc := 18) (v := 1) C dX5_paperOn_18 rfl (by decide) (by rw [hn]; decide) rfl ?_
        obtain ⟨v7, hv7, e7⟩ : ∃ v : Int32, v = a5_4 + 1 ∧ v.toInt = a5_4.toInt + 1 := ⟨_, rfl, zadd_eb b4x (zB.of (x := 1) 1 (by decide)) (by decide) (by decide)⟩
        rw [← hv7]
        have b7x : zB v7 1 4000 := by have q9 := b4x; constructor <;> omega
        refine z_goto (pc := 21) 5 C dX5_paperOn_21 (by decide) ?_
        exact ih0 v6 b6x v7 (zB.wk (a' := 0) (b' := 4000) b7x (by decide) (by decide)) g5_ hI5_ hF5_  (by omega)
  have J0 := J 12015
  show Z X 0 [some (zr 13 0), some (zi a1), some (zi a2), none, none] [] f
  refine z_iload_n (pc := 0) C dX5_paperOn_0 rfl ?_
  refine z_istore_n (pc := 1) C dX5_paperOn_1 (by rw [hn]; decide) rfl ?_
  refine z_iconst (pc := 2) (v := 0) C dX5_paperOn_2 (by decide) ?_
  refine z_istore (pc := 3) C dX5_paperOn_3 (by rw [hn]; decide) rfl ?_
  exact J0 a1 b1 0 (zB.wk (a' := 0) (b' := 4000) (zB.of (x := 0) 0 (by decide)) (by decide) (by decide)) f hI hF  (by have qc0 : (0 : Int32).toInt = 0 := (by decide); omega)
