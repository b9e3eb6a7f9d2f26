set_option maxRecDepth 100000 in
set_option maxHeartbeats 4000000 in
theorem b_X7_readCrime (d : Nat) (f : zM) (a1 : Int32) (b1 : zB a1 0 5) (pf18_0_7 : zB (f 18 0 7) 0 120) (hI : zInv f) : ZM (d + 3) yX7_readCrime cX7_readCrime 7 none [zr 18 0, zi a1] f (fun r g => r = none ∧ zInv g ∧ zFr [(18, some 6), (18, some 7)] f g ∧ ((g 18 0 7).toInt = (f 18 0 7).toInt)) := by
  refine ZM.intro (by decide +kernel) (Nat.le_of_ble_eq_true rfl) ?_
  intro X C hr hn
  have hF : zFr [(18, some 6), (18, some 7)] f f := zFr.rf _ _
  show Z X 0 [some (zr 18 0), some (zi a1), none, none, none, none, none] [] f
  refine z_aload_n (pc := 0) C dX7_readCrime_0 rfl ?_
  refine z_iconst (pc := 1) (v := 0) C dX7_readCrime_1 (by decide) ?_
  refine z_callV (pc := 2) C zk_X7_70 (k_X7_readMarks _ _ 0 (zB.wk (a' := 0) (b' := 63) (zB.of (x := 0) 0 (by decide)) (by decide) (by decide)) hI) rfl rfl (by decide) rfl rfl (Nat.le_of_ble_eq_true rfl) dX7_readCrime_2 (fun r1 g1 q1 => ?_)
  have qa1_0 : (0 : Int32).toInt = 0 := by decide
  obtain ⟨⟨v1, rfl, b1x⟩, hI1, hF1q, hp1_0, hp1_1⟩ := q1
  have hp1_0 := hp1_0 _ rfl
  have hp1_1 := hp1_1 _ rfl
  have hF1 := zFr.tr hF hF1q (by decide)
  simp only [Option.toList, List.cons_append, List.nil_append]
  have cr1_18_0_7 : zB (g1 18 0 7) (-1) 120 := hI1 18 0 7
  have c2x : zB (g1 18 0 7) 0 120 := by first | assumption | (constructor <;> omega)
  refine z_istore_n (pc := 5) C dX7_readCrime_5 (by rw [hn]; decide) rfl ?_
  refine z_aload_n (pc := 6) C dX7_readCrime_6 rfl ?_
  refine z_bipush (pc := 7) (v := 45) C dX7_readCrime_7 (by decide) ?_
  refine z_callV (pc := 9) C zk_X7_48 (w_X7_takes _ _ 45 (zB.wk (a' := 1) (b' := 126) (zB.of (x := 45) 45 (by decide)) (by decide) (by decide)) hI1) rfl rfl (by decide) rfl rfl (Nat.le_of_ble_eq_true rfl) dX7_readCrime_9 (fun r3 g3 q3 => ?_)
  obtain ⟨⟨v3, rfl, b3x⟩, hI3, hF3q⟩ := q3
  have hF3 := zFr.tr hF1 hF3q (by decide)
  simp only [Option.toList, List.cons_append, List.nil_append]
  have ek3_18_0_7 : (g3 18 0 7).toInt = (g1 18 0 7).toInt := by rw [hF3q 18 0 7 rfl]
  have c3_18_0_7x : zB (g3 18 0 7) 0 120 := by first | exact zB.eqv ek3_18_0_7 c2x | (have q9 := c2x; constructor <;> omega)
  have c4x : zB (g3 18 0 7) 0 120 := by first | assumption | (constructor <;> omega)
  refine z_if_eq (pc := 12) 23 C dX7_readCrime_12 (by decide) (fun h12_4 => ?_) (fun h12_4 => ?_)
  · skip
    have b6x : zB v3 0 0 := by have q1 := b3x; have q2 := (zB.of (x := 0) 0 (by decide)); simp only [z32lt, z32le, z32eq, Int32.reduceToInt, Int32.toInt_zero] at h12_4; constructor <;> omega
    refine z_iconst (pc := 23) (v := 0) C dX7_readCrime_23 (by decide) ?_
    refine z_istore_n (pc := 24) C dX7_readCrime_24 (by rw [hn]; decide) rfl ?_
    refine z_aload_n (pc := 25) C dX7_readCrime_25 rfl ?_
    refine z_iconst (pc := 26) (v := 0) C dX7_readCrime_26 (by decide) ?_
    refine z_bipush (pc := 27) (v := 40) C dX7_readCrime_27 (by decide) ?_
    refine z_callV (pc := 29) C zk_X7_73 (k_X7_readNumber _ _ 0 (zB.wk (a' := (-2147483648)) (b' := 1000) (zB.of (x := 0) 0 (by decide)) (by decide) (by decide)) 40 (zB.wk (a' := 0) (b' := 99) (zB.of (x := 40) 40 (by decide)) (by decide) (by decide)) hI3) rfl rfl (by decide) rfl rfl (Nat.le_of_ble_eq_true rfl) dX7_readCrime_29 (fun r7 g7 q7 => ?_)
    have qa7_0 : (0 : Int32).toInt = 0 := by decide
    have qa7_40 : (40 : Int32).toInt = 40 := by decide
    obtain ⟨⟨v7, rfl, b7x⟩, hI7, hF7q, hp7_0, hp7_1, hp7_2⟩ := q7
    have hp7_0 := hp7_0 _ rfl
    have hp7_1 := hp7_1 _ rfl
    have hp7_2 := hp7_2 _ rfl
    have hF7 := zFr.tr hF3 hF7q (by decide)
    simp only [Option.toList, List.cons_append, List.nil_append]
    have cr7_18_0_7 : zB (g7 18 0 7) (-1) 120 := hI7 18 0 7
    have c8x : zB (g7 18 0 7) 0 120 := by first | assumption | (constructor <;> omega)
    refine z_istore (pc := 32) C dX7_readCrime_32 (by rw [hn]; decide) rfl ?_
    refine z_aload_n (pc := 34) C dX7_readCrime_34 rfl ?_
    refine z_bipush (pc := 35) (v := 46) C dX7_readCrime_35 (by decide) ?_
    refine z_callV (pc := 37) C zk_X7_77 (k_X7_need _ _ 46 (zB.wk (a' := 1) (b' := 126) (zB.of (x := 46) 46 (by decide)) (by decide) (by decide)) hI7) rfl rfl (by decide) rfl rfl (Nat.le_of_ble_eq_true rfl) dX7_readCrime_37 (fun r9 g9 q9 => ?_)
    have qa9_46 : (46 : Int32).toInt = 46 := by decide
    obtain ⟨rfl, hI9, hF9q, hp9_0, hp9_1⟩ := q9
    have hF9 := zFr.tr hF7 hF9q (by decide)
    simp only [Option.toList, List.cons_append, List.nil_append]
    have cr9_18_0_7 : zB (g9 18 0 7) (-1) 120 := hI9 18 0 7
    have c10x : zB (g9 18 0 7) 0 120 := by first | assumption | (constructor <;> omega)
    refine z_aload_n (pc := 40) C dX7_readCrime_40 rfl ?_
    refine z_bipush (pc := 41) (v := 46) C dX7_readCrime_41 (by decide) ?_
    refine z_callV (pc := 43) C zk_X7_77 (k_X7_need _ _ 46 (zB.wk (a' := 1) (b' := 126) (zB.of (x := 46) 46 (by decide)) (by decide) (by decide)) hI9) rfl rfl (by decide) rfl rfl (Nat.le_of_ble_eq_true rfl) dX7_readCrime_43 (fun r11 g11 q11 => ?_)
    have qa11_46 : (46 : Int32).toInt = 46 := by decide
    obtain ⟨rfl, hI11, hF11q, hp11_0, hp11_1⟩ := q11
    have hF11 := zFr.tr hF9 hF11q (by decide)
    simp only [Option.toList, List.cons_append, List.nil_append]
    have cr11_18_0_7 : zB (g11 18 0 7) (-1) 120 := hI11 18 0 7
    have c12x : zB (g11 18 0 7) 0 120 := by first | assumption | (constructor <;> omega)
    refine z_aload_n (pc := 46) C dX7_readCrime_46 rfl ?_
    refine z_iconst (pc := 47) (v := 1) C dX7_readCrime_47 (by decide) ?_
    refine z_iload (pc := 48) C dX7_readCrime_48 rfl ?_
    refine z_mmax (pc := 50) C zk_X7_80 (Nat.le_of_ble_eq_true rfl) dX7_readCrime_50 ?_
    refine w_gp (fun v => v = imax (1 : Int32) v7) rfl (fun v13 q13 => ?_)
    have b13x : zB v13 1 1000 := by rw [q13]; exact (by have q9 := zmax_b (zB.of (x := 1) 1 (by decide)) b7x; constructor <;> omega)
    refine z_bipush (pc := 53) (v := 40) C dX7_readCrime_53 (by decide) ?_
    refine z_callV (pc := 55) C zk_X7_73 (k_X7_readNumber _ _ v13 (zB.wk (a' := (-2147483648)) (b' := 1000) b13x (by decide) (by decide)) 40 (zB.wk (a' := 0) (b' := 99) (zB.of (x := 40) 40 (by decide)) (by decide) (by decide)) hI11) rfl rfl (by decide) rfl rfl (Nat.le_of_ble_eq_true rfl) dX7_readCrime_55 (fun r14 g14 q14 => ?_)
    have qa14_40 : (40 : Int32).toInt = 40 := by decide
    obtain ⟨⟨v14, rfl, b14x⟩, hI14, hF14q, hp14_0, hp14_1, hp14_2⟩ := q14
    have hp14_0 := hp14_0 _ rfl
    have hp14_1 := hp14_1 _ rfl
    have hp14_2 := hp14_2 _ rfl
    have hF14 := zFr.tr hF11 hF14q (by decide)
    simp only [Option.toList, List.cons_append, List.nil_append]
    have cr14_18_0_7 : zB (g14 18 0 7) (-1) 120 := hI14 18 0 7
    have c15x : zB (g14 18 0 7) 0 120 := by first | assumption | (constructor <;> omega)
    refine z_istore (pc := 58) C dX7_readCrime_58 (by rw [hn]; decide) rfl ?_
    refine z_aload_n (pc := 60) C dX7_readCrime_60 rfl ?_
    refine z_bipush (pc := 61) (v := 33) C dX7_readCrime_61 (by decide) ?_
    refine z_callV (pc := 63) C zk_X7_48 (w_X7_takes _ _ 33 (zB.wk (a' := 1) (b' := 126) (zB.of (x := 33) 33 (by decide)) (by decide) (by decide)) hI14) rfl rfl (by decide) rfl rfl (Nat.le_of_ble_eq_true rfl) dX7_readCrime_63 (fun r16 g16 q16 => ?_)
    obtain ⟨⟨v16, rfl, b16x⟩, hI16, hF16q⟩ := q16
    have hF16 := zFr.tr hF14 hF16q (by decide)
    simp only [Option.toList, List.cons_append, List.nil_append]
    have ek16_18_0_7 : (g16 18 0 7).toInt = (g14 18 0 7).toInt := by rw [hF16q 18 0 7 rfl]
    have c16_18_0_7x : zB (g16 18 0 7) 0 120 := by first | exact zB.eqv ek16_18_0_7 c15x | (have q9 := c15x; constructor <;> omega)
    have c17x : zB (g16 18 0 7) 0 120 := by first | assumption | (constructor <;> omega)
    refine z_istore (pc := 66) C dX7_readCrime_66 (by rw [hn]; decide) rfl ?_
    refine z_aload_n (pc := 68) C dX7_readCrime_68 rfl ?_
    refine z_getI (pc := 69) C zf_X7_36 rfl rfl (by decide) dX7_readCrime_69 ?_
    refine w_gp (fun v => v = g16 18 0 7) rfl (fun v18 q18 => ?_)
    have e18 : v18.toInt = (g16 18 0 7).toInt := by rw [q18]
    have b18x : zB v18 0 120 := by first | exact zB.eqv e18 c17x | (have q9 := c17x; constructor <;> omega)
    refine z_iconst (pc := 72) (v := -1) C dX7_readCrime_72 (by decide) ?_
    refine z_icmp_ne (pc := 73) 116 C dX7_readCrime_73 (by decide) (fun h73_18 => ?_) (fun h73_18 => absurd h73_18 (by have q1 := b18x; have q2 := (zB.of (x := (-1)) (-1) (by decide)); first | (simp only [z32lt, z32le, z32eq]; omega) | (simp only [z32lt, z32le, z32eq] at *; omega)))
    exact z_vret (pc := 116) C hr dX7_readCrime_116 ⟨rfl, hI16, hF16, (by omega)⟩
  · skip
    have b20x : zB v3 1 1 := by have q1 := b3x; have q2 := (zB.of (x := 0) 0 (by decide)); simp only [z32lt, z32le, z32eq, Int32.reduceToInt, Int32.toInt_zero] at h12_4; constructor <;> omega
    refine z_aload_n (pc := 15) C dX7_readCrime_15 rfl ?_
    refine z_iload_n (pc := 16) C dX7_readCrime_16 rfl ?_
    refine z_callV (pc := 17) C zk_X7_70 (k_X7_readMarks _ _ v1 b1x hI3) rfl rfl (by decide) rfl rfl (Nat.le_of_ble_eq_true rfl) dX7_readCrime_17 (fun r21 g21 q21 => ?_)
    obtain ⟨⟨v21, rfl, b21x⟩, hI21, hF21q, hp21_0, hp21_1⟩ := q21
    have hp21_0 := hp21_0 _ rfl
    have hp21_1 := hp21_1 _ rfl
    have hF21 := zFr.tr hF3 hF21q (by decide)
    simp only [Option.toList, List.cons_append, List.nil_append]
    have cr21_18_0_7 : zB (g21 18 0 7) (-1) 120 := hI21 18 0 7
    have c22x : zB (g21 18 0 7) 0 120 := by first | assumption | (constructor <;> omega)
    refine z_goto (pc := 20) 24 C dX7_readCrime_20 (by decide) ?_
    refine z_istore_n (pc := 24) C dX7_readCrime_24 (by rw [hn]; decide) rfl ?_
    refine z_aload_n (pc := 25) C dX7_readCrime_25 rfl ?_
    refine z_iconst (pc := 26) (v := 0) C dX7_readCrime_26 (by decide) ?_
    refine z_bipush (pc := 27) (v := 40) C dX7_readCrime_27 (by decide) ?_
    refine z_callV (pc := 29) C zk_X7_73 (k_X7_readNumber _ _ 0 (zB.wk (a' := (-2147483648)) (b' := 1000) (zB.of (x := 0) 0 (by decide)) (by decide) (by decide)) 40 (zB.wk (a' := 0) (b' := 99) (zB.of (x := 40) 40 (by decide)) (by decide) (by decide)) hI21) rfl rfl (by decide) rfl rfl (Nat.le_of_ble_eq_true rfl) dX7_readCrime_29 (fun r23 g23 q23 => ?_)
    have qa23_0 : (0 : Int32).toInt = 0 := by decide
    have qa23_40 : (40 : Int32).toInt = 40 := by decide
    obtain ⟨⟨v23, rfl, b23x⟩, hI23, hF23q, hp23_0, hp23_1, hp23_2⟩ := q23
    have hp23_0 := hp23_0 _ rfl
    have hp23_1 := hp23_1 _ rfl
    have hp23_2 := hp23_2 _ rfl
    have hF23 := zFr.tr hF21 hF23q (by decide)
    simp only [Option.toList, List.cons_append, List.nil_append]
    have cr23_18_0_7 : zB (g23 18 0 7) (-1) 120 := hI23 18 0 7
    have c24x : zB (g23 18 0 7) 0 120 := by first | assumption | (constructor <;> omega)
    refine z_istore (pc := 32) C dX7_readCrime_32 (by rw [hn]; decide) rfl ?_
    refine z_aload_n (pc := 34) C dX7_readCrime_34 rfl ?_
    refine z_bipush (pc := 35) (v := 46) C dX7_readCrime_35 (by decide) ?_
    refine z_callV (pc := 37) C zk_X7_77 (k_X7_need _ _ 46 (zB.wk (a' := 1) (b' := 126) (zB.of (x := 46) 46 (by decide)) (by decide) (by decide)) hI23) rfl rfl (by decide) rfl rfl (Nat.le_of_ble_eq_true rfl) dX7_readCrime_37 (fun r25 g25 q25 => ?_)
    have qa25_46 : (46 : Int32).toInt = 46 := by decide
    obtain ⟨rfl, hI25, hF25q, hp25_0, hp25_1⟩ := q25
    have hF25 := zFr.tr hF23 hF25q (by decide)
    simp only [Option.toList, List.cons_append, List.nil_append]
    have cr25_18_0_7 : zB (g25 18 0 7) (-1) 120 := hI25 18 0 7
    have c26x : zB (g25 18 0 7) 0 120 := by first | assumption | (constructor <;> omega)
    refine z_aload_n (pc := 40) C dX7_readCrime_40 rfl ?_
    refine z_bipush (pc := 41) (v := 46) C dX7_readCrime_41 (by decide) ?_
    refine z_callV (pc := 43) C zk_X7_77 (k_X7_need _ _ 46 (zB.wk (a' := 1) (b' := 126) (zB.of (x := 46) 46 (by decide)) (by decide) (by decide)) hI25) rfl rfl (by decide) rfl rfl (Nat.le_of_ble_eq_true rfl) dX7_readCrime_43 (fun r27 g27 q27 => ?_)
    have qa27_46 : (46 : Int32).toInt = 46 := by decide
    obtain ⟨rfl, hI27, hF27q, hp27_0, hp27_1⟩ := q27
    have hF27 := zFr.tr hF25 hF27q (by decide)
    simp only [Option.toList, List.cons_append, List.nil_append]
    have cr27_18_0_7 : zB (g27 18 0 7) (-1) 120 := hI27 18 0 7
    have c28x : zB (g27 18 0 7) 0 120 := by first | assumption | (constructor <;> omega)
    refine z_aload_n (pc := 46) C dX7_readCrime_46 rfl ?_
    refine z_iconst (pc := 47) (v := 1) C dX7_readCrime_47 (by decide) ?_
    refine z_iload (pc := 48) C dX7_readCrime_48 rfl ?_
    refine z_mmax (pc := 50) C zk_X7_80 (Nat.le_of_ble_eq_true rfl) dX7_readCrime_50 ?_
    refine w_gp (fun v => v = imax (1 : Int32) v23) rfl (fun v29 q29 => ?_)
    have b29x : zB v29 1 1000 := by rw [q29]; exact (by have q9 := zmax_b (zB.of (x := 1) 1 (by decide)) b23x; constructor <;> omega)
    refine z_bipush (pc := 53) (v := 40) C dX7_readCrime_53 (by decide) ?_
    refine z_callV (pc := 55) C zk_X7_73 (k_X7_readNumber _ _ v29 (zB.wk (a' := (-2147483648)) (b' := 1000) b29x (by decide) (by decide)) 40 (zB.wk (a' := 0) (b' := 99) (zB.of (x := 40) 40 (by decide)) (by decide) (by decide)) hI27) rfl rfl (by decide) rfl rfl (Nat.le_of_ble_eq_true rfl) dX7_readCrime_55 (fun r30 g30 q30 => ?_)
    have qa30_40 : (40 : Int32).toInt = 40 := by decide
    obtain ⟨⟨v30, rfl, b30x⟩, hI30, hF30q, hp30_0, hp30_1, hp30_2⟩ := q30
    have hp30_0 := hp30_0 _ rfl
    have hp30_1 := hp30_1 _ rfl
    have hp30_2 := hp30_2 _ rfl
    have hF30 := zFr.tr hF27 hF30q (by decide)
    simp only [Option.toList, List.cons_append, List.nil_append]
    have cr30_18_0_7 : zB (g30 18 0 7) (-1) 120 := hI30 18 0 7
    have c31x : zB (g30 18 0 7) 0 120 := by first | assumption | (constructor <;> omega)
    refine z_istore (pc := 58) C dX7_readCrime_58 (by rw [hn]; decide) rfl ?_
    refine z_aload_n (pc := 60) C dX7_readCrime_60 rfl ?_
    refine z_bipush (pc := 61) (v := 33) C dX7_readCrime_61 (by decide) ?_
    refine z_callV (pc := 63) C zk_X7_48 (w_X7_takes _ _ 33 (zB.wk (a' := 1) (b' := 126) (zB.of (x := 33) 33 (by decide)) (by decide) (by decide)) hI30) rfl rfl (by decide) rfl rfl (Nat.le_of_ble_eq_true rfl) dX7_readCrime_63 (fun r32 g32 q32 => ?_)
    obtain ⟨⟨v32, rfl, b32x⟩, hI32, hF32q⟩ := q32
    have hF32 := zFr.tr hF30 hF32q (by decide)
    simp only [Option.toList, List.cons_append, List.nil_append]
    have ek32_18_0_7 : (g32 18 0 7).toInt = (g30 18 0 7).toInt := by rw [hF32q 18 0 7 rfl]
    have c32_18_0_7x : zB (g32 18 0 7) 0 120 := by first | exact zB.eqv ek32_18_0_7 c31x | (have q9 := c31x; constructor <;> omega)
    have c33x : zB (g32 18 0 7) 0 120 := by first | assumption | (constructor <;> omega)
    refine z_istore (pc := 66) C dX7_readCrime_66 (by rw [hn]; decide) rfl ?_
    refine z_aload_n (pc := 68) C dX7_readCrime_68 rfl ?_
    refine z_getI (pc := 69) C zf_X7_36 rfl rfl (by decide) dX7_readCrime_69 ?_
    refine w_gp (fun v => v = g32 18 0 7) rfl (fun v34 q34 => ?_)
    have e34 : v34.toInt = (g32 18 0 7).toInt := by rw [q34]
    have b34x : zB v34 0 120 := by first | exact zB.eqv e34 c33x | (have q9 := c33x; constructor <;> omega)
    refine z_iconst (pc := 72) (v := -1) C dX7_readCrime_72 (by decide) ?_
    refine z_icmp_ne (pc := 73) 116 C dX7_readCrime_73 (by decide) (fun h73_34 => ?_) (fun h73_34 => absurd h73_34 (by have q1 := b34x; have q2 := (zB.of (x := (-1)) (-1) (by decide)); first | (simp only [z32lt, z32le, z32eq]; omega) | (simp only [z32lt, z32le, z32eq] at *; omega)))
    exact z_vret (pc := 116) C hr dX7_readCrime_116 ⟨rfl, hI32, hF32, (by omega)⟩

set_option maxRecDepth 100000 in
set_option maxHeartbeats 4000000 in
theorem b_X7_readPaper (d : Nat) (f : zM) (a1 : Int32) (b1 : zB a1 0 5) (pf18_0_7 : zB (f 18 0 7) 0 120) (hI : zInv f) : ZMs (d + 6) yX7_readPaper cX7_readPaper 9 none [zr 18 0, zi a1] f (fun r g => r = none ∧ zInv g ∧ zFr [(18, some 6), (18, some 7)] f g ∧ ((g 18 0 7).toInt = (f 18 0 7).toInt)) := by
  refine ZMs.intro (by decide +kernel) (Nat.le_of_ble_eq_true rfl) ?_
  intro X C hr hn hT
  have hF : zFr [(18, some 6), (18, some 7)] f f := zFr.rf _ _
  show Z X 0 [some (zr 18 0), some (zi a1), none, none, none, none, none, none, none] [] f
  refine z_aload_n (pc := 0) C dX7_readPaper_0 rfl ?_
  refine z_iload_n (pc := 1) C dX7_readPaper_1 rfl ?_
  refine z_callV (pc := 2) C zk_X7_60 (k_X7_readLand _ _ a1 (zB.wk (a' := (-4)) (b' := 5) b1 (by decide) (by decide)) hI) rfl rfl (by decide) rfl rfl (Nat.le_of_ble_eq_true rfl) dX7_readPaper_2 (fun r1 g1 q1 => ?_)
  obtain ⟨⟨v1, rfl, b1x⟩, hI1, hF1q, hp1_0, hp1_1⟩ := q1
  have hp1_0 := hp1_0 _ rfl
  have hp1_1 := hp1_1 _ rfl
  have hF1 := zFr.tr hF hF1q (by decide)
  simp only [Option.toList, List.cons_append, List.nil_append]
  have cr1_18_0_7 : zB (g1 18 0 7) (-1) 120 := hI1 18 0 7
  have c2x : zB (g1 18 0 7) 0 120 := by first | assumption | (constructor <;> omega)
  refine z_istore_n (pc := 5) C dX7_readPaper_5 (by rw [hn]; decide) rfl ?_
  refine z_aload_n (pc := 6) C dX7_readPaper_6 rfl ?_
  refine z_bipush (pc := 7) (v := 121) C dX7_readPaper_7 (by decide) ?_
  refine z_callV (pc := 9) C zk_X7_48 (w_X7_takes _ _ 121 (zB.wk (a' := 1) (b' := 126) (zB.of (x := 121) 121 (by decide)) (by decide) (by decide)) hI1) rfl rfl (by decide) rfl rfl (Nat.le_of_ble_eq_true rfl) dX7_readPaper_9 (fun r3 g3 q3 => ?_)
  obtain ⟨⟨v3, rfl, b3x⟩, hI3, hF3q⟩ := q3
  have hF3 := zFr.tr hF1 hF3q (by decide)
  simp only [Option.toList, List.cons_append, List.nil_append]
  have ek3_18_0_7 : (g3 18 0 7).toInt = (g1 18 0 7).toInt := by rw [hF3q 18 0 7 rfl]
  have c3_18_0_7x : zB (g3 18 0 7) 0 120 := by first | exact zB.eqv ek3_18_0_7 c2x | (have q9 := c2x; constructor <;> omega)
  have c4x : zB (g3 18 0 7) 0 120 := by first | assumption | (constructor <;> omega)
  refine z_istore_n (pc := 12) C dX7_readPaper_12 (by rw [hn]; decide) rfl ?_
  refine z_iconst (pc := 13) (v := 1) C dX7_readPaper_13 (by decide) ?_
  refine z_istore (pc := 14) C dX7_readPaper_14 (by rw [hn]; decide) rfl ?_
  refine z_iload_n (pc := 16) C dX7_readPaper_16 rfl ?_
  refine z_if_eq (pc := 17) 32 C dX7_readPaper_17 (by decide) (fun h17_4 => ?_) (fun h17_4 => ?_)
  · skip
    have b6x : zB v3 0 0 := by have q1 := b3x; have q2 := (zB.of (x := 0) 0 (by decide)); simp only [z32lt, z32le, z32eq, Int32.reduceToInt, Int32.toInt_zero] at h17_4; constructor <;> omega
    refine z_aload_n (pc := 32) C dX7_readPaper_32 rfl ?_
    refine z_bipush (pc := 33) (v := 42) C dX7_readPaper_33 (by decide) ?_
    refine z_callV (pc := 35) C zk_X7_77 (k_X7_need _ _ 42 (zB.wk (a' := 1) (b' := 126) (zB.of (x := 42) 42 (by decide)) (by decide) (by decide)) hI3) rfl rfl (by decide) rfl rfl (Nat.le_of_ble_eq_true rfl) dX7_readPaper_35 (fun r7 g7 q7 => ?_)
    have qa7_42 : (42 : Int32).toInt = 42 := by decide
    obtain ⟨rfl, hI7, hF7q, hp7_0, hp7_1⟩ := q7
    have hF7 := zFr.tr hF3 hF7q (by decide)
    simp only [Option.toList, List.cons_append, List.nil_append]
    have cr7_18_0_7 : zB (g7 18 0 7) (-1) 120 := hI7 18 0 7
    have c8x : zB (g7 18 0 7) 0 120 := by first | assumption | (constructor <;> omega)
    refine z_aload_n (pc := 38) C dX7_readPaper_38 rfl ?_
    refine z_ldcT (pc := 39) (i := 0) (tx := "") C hT (Or.inl ⟨rfl, rfl⟩) dX7_readPaper_39 ?_
    refine z_iconst (pc := 41) (v := 0) C dX7_readPaper_41 (by decide) ?_
    refine z_callVS (pc := 42) C hT zk_X7_91 (k_X7_readLetters_0 _ _ 0 (zB.wk (a' := 0) (b' := 1) (zB.of (x := 0) 0 (by decide)) (by decide) (by decide)) hI7) rfl rfl (by decide) rfl rfl (Nat.le_of_ble_eq_true rfl) dX7_readPaper_42 (fun r9 g9 q9 => ?_)
    have qa9_0 : (0 : Int32).toInt = 0 := by decide
    obtain ⟨⟨v9, rfl, b9x⟩, hI9, hF9q, hp9_0, hp9_1⟩ := q9
    have hp9_0 := hp9_0 _ rfl
    have hp9_1 := hp9_1 _ rfl
    have hF9 := zFr.tr hF7 hF9q (by decide)
    simp only [Option.toList, List.cons_append, List.nil_append]
    have cr9_18_0_7 : zB (g9 18 0 7) (-1) 120 := hI9 18 0 7
    have c10x : zB (g9 18 0 7) 0 120 := by first | assumption | (constructor <;> omega)
    refine z_istore (pc := 45) C dX7_readPaper_45 (by rw [hn]; decide) rfl ?_
    refine z_aload_n (pc := 47) C dX7_readPaper_47 rfl ?_
    refine z_bipush (pc := 48) (v := 116) C dX7_readPaper_48 (by decide) ?_
    refine z_callV (pc := 50) C zk_X7_48 (w_X7_takes _ _ 116 (zB.wk (a' := 1) (b' := 126) (zB.of (x := 116) 116 (by decide)) (by decide) (by decide)) hI9) rfl rfl (by decide) rfl rfl (Nat.le_of_ble_eq_true rfl) dX7_readPaper_50 (fun r11 g11 q11 => ?_)
    obtain ⟨⟨v11, rfl, b11x⟩, hI11, hF11q⟩ := q11
    have hF11 := zFr.tr hF9 hF11q (by decide)
    simp only [Option.toList, List.cons_append, List.nil_append]
    have ek11_18_0_7 : (g11 18 0 7).toInt = (g9 18 0 7).toInt := by rw [hF11q 18 0 7 rfl]
    have c11_18_0_7x : zB (g11 18 0 7) 0 120 := by first | exact zB.eqv ek11_18_0_7 c10x | (have q9 := c10x; constructor <;> omega)
    have c12x : zB (g11 18 0 7) 0 120 := by first | assumption | (constructor <;> omega)
    refine z_if_eq (pc := 53) 66 C dX7_readPaper_53 (by decide) (fun h53_12 => ?_) (fun h53_12 => ?_)
    · skip
      have b14x : zB v11 0 0 := by have q1 := b11x; have q2 := (zB.of (x := 0) 0 (by decide)); simp only [z32lt, z32le, z32eq, Int32.reduceToInt, Int32.toInt_zero] at h53_12; constructor <;> omega
      refine z_iconst (pc := 66) (v := 0) C dX7_readPaper_66 (by decide) ?_
      refine z_istore (pc := 67) C dX7_readPaper_67 (by rw [hn]; decide) rfl ?_
      refine z_aload_n (pc := 69) C dX7_readPaper_69 rfl ?_
      refine z_bipush (pc := 70) (v := 43) C dX7_readPaper_70 (by decide) ?_
      refine z_callV (pc := 72) C zk_X7_48 (w_X7_takes _ _ 43 (zB.wk (a' := 1) (b' := 126) (zB.of (x := 43) 43 (by decide)) (by decide) (by decide)) hI11) rfl rfl (by decide) rfl rfl (Nat.le_of_ble_eq_true rfl) dX7_readPaper_72 (fun r15 g15 q15 => ?_)
      obtain ⟨⟨v15, rfl, b15x⟩, hI15, hF15q⟩ := q15
      have hF15 := zFr.tr hF11 hF15q (by decide)
      simp only [Option.toList, List.cons_append, List.nil_append]
      have ek15_18_0_7 : (g15 18 0 7).toInt = (g11 18 0 7).toInt := by rw [hF15q 18 0 7 rfl]
      have c15_18_0_7x : zB (g15 18 0 7) 0 120 := by first | exact zB.eqv ek15_18_0_7 c12x | (have q9 := c12x; constructor <;> omega)
      have c16x : zB (g15 18 0 7) 0 120 := by first | assumption | (constructor <;> omega)
      refine z_if_eq (pc := 75) 85 C dX7_readPaper_75 (by decide) (fun h75_16 => ?_) (fun h75_16 => ?_)
      · skip
        have b18x : zB v15 0 0 := by have q1 := b15x; have q2 := (zB.of (x := 0) 0 (by decide)); simp only [z32lt, z32le, z32eq, Int32.reduceToInt, Int32.toInt_zero] at h75_16; constructor <;> omega
        refine z_iconst (pc := 85) (v := 0) C dX7_readPaper_85 (by decide) ?_
        refine z_istore (pc := 86) C dX7_readPaper_86 (by rw [hn]; decide) rfl ?_
        refine z_aload_n (pc := 88) C dX7_readPaper_88 rfl ?_
        refine z_getI (pc := 89) C zf_X7_36 rfl rfl (by decide) dX7_readPaper_89 ?_
        refine w_gp (fun v => v = g15 18 0 7) rfl (fun v19 q19 => ?_)
        have e19 : v19.toInt = (g15 18 0 7).toInt := by rw [q19]
        have b19x : zB v19 0 120 := by first | exact zB.eqv e19 c16x | (have q9 := c16x; constructor <;> omega)
        refine z_iconst (pc := 92) (v := -1) C dX7_readPaper_92 (by decide) ?_
        refine z_icmp_ne (pc := 93) 161 C dX7_readPaper_93 (by decide) (fun h93_19 => ?_) (fun h93_19 => absurd h93_19 (by have q1 := b19x; have q2 := (zB.of (x := (-1)) (-1) (by decide)); first | (simp only [z32lt, z32le, z32eq]; omega) | (simp only [z32lt, z32le, z32eq] at *; omega)))
        exact z_vret (pc := 161) C hr dX7_readPaper_161 ⟨rfl, hI15, hF15, (by omega)⟩
      · skip
        have b21x : zB v15 1 1 := by have q1 := b15x; have q2 := (zB.of (x := 0) 0 (by decide)); simp only [z32lt, z32le, z32eq, Int32.reduceToInt, Int32.toInt_zero] at h75_16; constructor <;> omega
        refine z_aload_n (pc := 78) C dX7_readPaper_78 rfl ?_
        refine z_callVS (pc := 79) C hT zk_X7_95 (k_X7_readPromises _ _  hI15) rfl rfl (by decide) rfl rfl (Nat.le_of_ble_eq_true rfl) dX7_readPaper_79 (fun r22 g22 q22 => ?_)
        obtain ⟨⟨v22, rfl, b22x⟩, hI22, hF22q, hp22_0, hp22_1⟩ := q22
        have hp22_0 := hp22_0 _ rfl
        have hp22_1 := hp22_1 _ rfl
        have hF22 := zFr.tr hF15 hF22q (by decide)
        simp only [Option.toList, List.cons_append, List.nil_append]
        have cr22_18_0_7 : zB (g22 18 0 7) (-1) 120 := hI22 18 0 7
        have c23x : zB (g22 18 0 7) 0 120 := by first | assumption | (constructor <;> omega)
        refine z_goto (pc := 82) 86 C dX7_readPaper_82 (by decide) ?_
        refine z_istore (pc := 86) C dX7_readPaper_86 (by rw [hn]; decide) rfl ?_
        refine z_aload_n (pc := 88) C dX7_readPaper_88 rfl ?_
        refine z_getI (pc := 89) C zf_X7_36 rfl rfl (by decide) dX7_readPaper_89 ?_
        refine w_gp (fun v => v = g22 18 0 7) rfl (fun v24 q24 => ?_)
        have e24 : v24.toInt = (g22 18 0 7).toInt := by rw [q24]
        have b24x : zB v24 0 120 := by first | exact zB.eqv e24 c23x | (have q9 := c23x; constructor <;> omega)
        refine z_iconst (pc := 92) (v := -1) C dX7_readPaper_92 (by decide) ?_
        refine z_icmp_ne (pc := 93) 161 C dX7_readPaper_93 (by decide) (fun h93_24 => ?_) (fun h93_24 => absurd h93_24 (by have q1 := b24x; have q2 := (zB.of (x := (-1)) (-1) (by decide)); first | (simp only [z32lt, z32le, z32eq]; omega) | (simp only [z32lt, z32le, z32eq] at *; omega)))
        exact z_vret (pc := 161) C hr dX7_readPaper_161 ⟨rfl, hI22, hF22, (by omega)⟩
    · skip
      have b26x : zB v11 1 1 := by have q1 := b11x; have q2 := (zB.of (x := 0) 0 (by decide)); simp only [z32lt, z32le, z32eq, Int32.reduceToInt, Int32.toInt_zero] at h53_12; constructor <;> omega
      refine z_aload_n (pc := 56) C dX7_readPaper_56 rfl ?_
      refine z_iconst (pc := 57) (v := 1) C dX7_readPaper_57 (by decide) ?_
      refine z_bipush (pc := 58) (v := 99) C dX7_readPaper_58 (by decide) ?_
      refine z_callV (pc := 60) C zk_X7_73 (k_X7_readNumber _ _ 1 (zB.wk (a' := (-2147483648)) (b' := 1000) (zB.of (x := 1) 1 (by decide)) (by decide) (by decide)) 99 (zB.wk (a' := 0) (b' := 99) (zB.of (x := 99) 99 (by decide)) (by decide) (by decide)) hI11) rfl rfl (by decide) rfl rfl (Nat.le_of_ble_eq_true rfl) dX7_readPaper_60 (fun r27 g27 q27 => ?_)
      have qa27_1 : (1 : Int32).toInt = 1 := by decide
      have qa27_99 : (99 : Int32).toInt = 99 := by decide
      obtain ⟨⟨v27, rfl, b27x⟩, hI27, hF27q, hp27_0, hp27_1, hp27_2⟩ := q27
      have hp27_0 := hp27_0 _ rfl
      have hp27_1 := hp27_1 _ rfl
      have hp27_2 := hp27_2 _ rfl
      have hF27 := zFr.tr hF11 hF27q (by decide)
      simp only [Option.toList, List.cons_append, List.nil_append]
      have cr27_18_0_7 : zB (g27 18 0 7) (-1) 120 := hI27 18 0 7
      have c28x : zB (g27 18 0 7) 0 120 := by first | assumption | (constructor <;> omega)
      refine z_goto (pc := 63) 67 C dX7_readPaper_63 (by decide) ?_
      refine z_istore (pc := 67) C dX7_readPaper_67 (by rw [hn]; decide) rfl ?_
      refine z_aload_n (pc := 69) C dX7_readPaper_69 rfl ?_
      refine z_bipush (pc := 70) (v := 43) C dX7_readPaper_70 (by decide) ?_
      refine z_callV (pc := 72) C zk_X7_48 (w_X7_takes _ _ 43 (zB.wk (a' := 1) (b' := 126) (zB.of (x := 43) 43 (by decide)) (by decide) (by decide)) hI27) rfl rfl (by decide) rfl rfl (Nat.le_of_ble_eq_true rfl) dX7_readPaper_72 (fun r29 g29 q29 => ?_)
      obtain ⟨⟨v29, rfl, b29x⟩, hI29, hF29q⟩ := q29
      have hF29 := zFr.tr hF27 hF29q (by decide)
      simp only [Option.toList, List.cons_append, List.nil_append]
      have ek29_18_0_7 : (g29 18 0 7).toInt = (g27 18 0 7).toInt := by rw [hF29q 18 0 7 rfl]
      have c29_18_0_7x : zB (g29 18 0 7) 0 120 := by first | exact zB.eqv ek29_18_0_7 c28x | (have q9 := c28x; constructor <;> omega)
      have c30x : zB (g29 18 0 7) 0 120 := by first | assumption | (constructor <;> omega)
      refine z_if_eq (pc := 75) 85 C dX7_readPaper_75 (by decide) (fun h75_30 => ?_) (fun h75_30 => ?_)
      · skip
        have b32x : zB v29 0 0 := by have q1 := b29x; have q2 := (zB.of (x := 0) 0 (by decide)); simp only [z32lt, z32le, z32eq, Int32.reduceToInt, Int32.toInt_zero] at h75_30; constructor <;> omega
        refine z_iconst (pc := 85) (v := 0) C dX7_readPaper_85 (by decide) ?_
        refine z_istore (pc := 86) C dX7_readPaper_86 (by rw [hn]; decide) rfl ?_
        refine z_aload_n (pc := 88) C dX7_readPaper_88 rfl ?_
        refine z_getI (pc := 89) C zf_X7_36 rfl rfl (by decide) dX7_readPaper_89 ?_
        refine w_gp (fun v => v = g29 18 0 7) rfl (fun v33 q33 => ?_)
        have e33 : v33.toInt = (g29 18 0 7).toInt := by rw [q33]
        have b33x : zB v33 0 120 := by first | exact zB.eqv e33 c30x | (have q9 := c30x; constructor <;> omega)
        refine z_iconst (pc := 92) (v := -1) C dX7_readPaper_92 (by decide) ?_
        refine z_icmp_ne (pc := 93) 161 C dX7_readPaper_93 (by decide) (fun h93_33 => ?_) (fun h93_33 => absurd h93_33 (by have q1 := b33x; have q2 := (zB.of (x := (-1)) (-1) (by decide)); first | (simp only [z32lt, z32le, z32eq]; omega) | (simp only [z32lt, z32le, z32eq] at *; omega)))
        exact z_vret (pc := 161) C hr dX7_readPaper_161 ⟨rfl, hI29, hF29, (by omega)⟩
      · skip
        have b35x : zB v29 1 1 := by have q1 := b29x; have q2 := (zB.of (x := 0) 0 (by decide)); simp only [z32lt, z32le, z32eq, Int32.reduceToInt, Int32.toInt_zero] at h75_30; constructor <;> omega
        refine z_aload_n (pc := 78) C dX7_readPaper_78 rfl ?_
        refine z_callVS (pc := 79) C hT zk_X7_95 (k_X7_readPromises _ _  hI29) rfl rfl (by decide) rfl rfl (Nat.le_of_ble_eq_true rfl) dX7_readPaper_79 (fun r36 g36 q36 => ?_)
        obtain ⟨⟨v36, rfl, b36x⟩, hI36, hF36q, hp36_0, hp36_1⟩ := q36
        have hp36_0 := hp36_0 _ rfl
        have hp36_1 := hp36_1 _ rfl
        have hF36 := zFr.tr hF29 hF36q (by decide)
        simp only [Option.toList, List.cons_append, List.nil_append]
        have cr36_18_0_7 : zB (g36 18 0 7) (-1) 120 := hI36 18 0 7
        have c37x : zB (g36 18 0 7) 0 120 := by first | assumption | (constructor <;> omega)
        refine z_goto (pc := 82) 86 C dX7_readPaper_82 (by decide) ?_
        refine z_istore (pc := 86) C dX7_readPaper_86 (by rw [hn]; decide) rfl ?_
        refine z_aload_n (pc := 88) C dX7_readPaper_88 rfl ?_
        refine z_getI (pc := 89) C zf_X7_36 rfl rfl (by decide) dX7_readPaper_89 ?_
        refine w_gp (fun v => v = g36 18 0 7) rfl (fun v38 q38 => ?_)
        have e38 : v38.toInt = (g36 18 0 7).toInt := by rw [q38]
        have b38x : zB v38 0 120 := by first | exact zB.eqv e38 c37x | (have q9 := c37x; constructor <;> omega)
        refine z_iconst (pc := 92) (v := -1) C dX7_readPaper_92 (by decide) ?_
        refine z_icmp_ne (pc := 93) 161 C dX7_readPaper_93 (by decide) (fun h93_38 => ?_) (fun h93_38 => absurd h93_38 (by have q1 := b38x; have q2 := (zB.of (x := (-1)) (-1) (by decide)); first | (simp only [z32lt, z32le, z32eq]; omega) | (simp only [z32lt, z32le, z32eq] at *; omega)))
        exact z_vret (pc := 161) C hr dX7_readPaper_161 ⟨rfl, hI36, hF36, (by omega)⟩
  · skip
    have b40x : zB v3 1 1 := by have q1 := b3x; have q2 := (zB.of (x := 0) 0 (by decide)); simp only [z32lt, z32le, z32eq, Int32.reduceToInt, Int32.toInt_zero] at h17_4; constructor <;> omega
    refine z_aload_n (pc := 20) C dX7_readPaper_20 rfl ?_
    refine z_iconst (pc := 21) (v := 1) C dX7_readPaper_21 (by decide) ?_
    refine z_bipush (pc := 22) (v := 40) C dX7_readPaper_22 (by decide) ?_
    refine z_callV (pc := 24) C zk_X7_73 (k_X7_readNumber _ _ 1 (zB.wk (a' := (-2147483648)) (b' := 1000) (zB.of (x := 1) 1 (by decide)) (by decide) (by decide)) 40 (zB.wk (a' := 0) (b' := 99) (zB.of (x := 40) 40 (by decide)) (by decide) (by decide)) hI3) rfl rfl (by decide) rfl rfl (Nat.le_of_ble_eq_true rfl) dX7_readPaper_24 (fun r41 g41 q41 => ?_)
    have qa41_1 : (1 : Int32).toInt = 1 := by decide
    have qa41_40 : (40 : Int32).toInt = 40 := by decide
    obtain ⟨⟨v41, rfl, b41x⟩, hI41, hF41q, hp41_0, hp41_1, hp41_2⟩ := q41
    have hp41_0 := hp41_0 _ rfl
    have hp41_1 := hp41_1 _ rfl
    have hp41_2 := hp41_2 _ rfl
    have hF41 := zFr.tr hF3 hF41q (by decide)
    simp only [Option.toList, List.cons_append, List.nil_append]
    have cr41_18_0_7 : zB (g41 18 0 7) (-1) 120 := hI41 18 0 7
    have c42x : zB (g41 18 0 7) 0 120 := by first | assumption | (constructor <;> omega)
    refine z_istore (pc := 27) C dX7_readPaper_27 (by rw [hn]; decide) rfl ?_
    refine z_goto (pc := 29) 38 C dX7_readPaper_29 (by decide) ?_
    refine z_aload_n (pc := 38) C dX7_readPaper_38 rfl ?_
    refine z_ldcT (pc := 39) (i := 0) (tx := "") C hT (Or.inl ⟨rfl, rfl⟩) dX7_readPaper_39 ?_
    refine z_iconst (pc := 41) (v := 0) C dX7_readPaper_41 (by decide) ?_
    refine z_callVS (pc := 42) C hT zk_X7_91 (k_X7_readLetters_0 _ _ 0 (zB.wk (a' := 0) (b' := 1) (zB.of (x := 0) 0 (by decide)) (by decide) (by decide)) hI41) rfl rfl (by decide) rfl rfl (Nat.le_of_ble_eq_true rfl) dX7_readPaper_42 (fun r43 g43 q43 => ?_)
    have qa43_0 : (0 : Int32).toInt = 0 := by decide
    obtain ⟨⟨v43, rfl, b43x⟩, hI43, hF43q, hp43_0, hp43_1⟩ := q43
    have hp43_0 := hp43_0 _ rfl
    have hp43_1 := hp43_1 _ rfl
    have hF43 := zFr.tr hF41 hF43q (by decide)
    simp only [Option.toList, List.cons_append, List.nil_append]
    have cr43_18_0_7 : zB (g43 18 0 7) (-1) 120 := hI43 18 0 7
    have c44x : zB (g43 18 0 7) 0 120 := by first | assumption | (constructor <;> omega)
    refine z_istore (pc := 45) C dX7_readPaper_45 (by rw [hn]; decide) rfl ?_
    refine z_aload_n (pc := 47) C dX7_readPaper_47 rfl ?_
    refine z_bipush (pc := 48) (v := 116) C dX7_readPaper_48 (by decide) ?_
    refine z_callV (pc := 50) C zk_X7_48 (w_X7_takes _ _ 116 (zB.wk (a' := 1) (b' := 126) (zB.of (x := 116) 116 (by decide)) (by decide) (by decide)) hI43) rfl rfl (by decide) rfl rfl (Nat.le_of_ble_eq_true rfl) dX7_readPaper_50 (fun r45 g45 q45 => ?_)
    obtain ⟨⟨v45, rfl, b45x⟩, hI45, hF45q⟩ := q45
    have hF45 := zFr.tr hF43 hF45q (by decide)
    simp only [Option.toList, List.cons_append, List.nil_append]
    have ek45_18_0_7 : (g45 18 0 7).toInt = (g43 18 0 7).toInt := by rw [hF45q 18 0 7 rfl]
    have c45_18_0_7x : zB (g45 18 0 7) 0 120 := by first | exact zB.eqv ek45_18_0_7 c44x | (have q9 := c44x; constructor <;> omega)
    have c46x : zB (g45 18 0 7) 0 120 := by first | assumption | (constructor <;> omega)
    refine z_if_eq (pc := 53) 66 C dX7_readPaper_53 (by decide) (fun h53_46 => ?_) (fun h53_46 => ?_)
    · skip
      have b48x : zB v45 0 0 := by have q1 := b45x; have q2 := (zB.of (x := 0) 0 (by decide)); simp only [z32lt, z32le, z32eq, Int32.reduceToInt, Int32.toInt_zero] at h53_46; constructor <;> omega
      refine z_iconst (pc := 66) (v := 0) C dX7_readPaper_66 (by decide) ?_
      refine z_istore (pc := 67) C dX7_readPaper_67 (by rw [hn]; decide) rfl ?_
      refine z_aload_n (pc := 69) C dX7_readPaper_69 rfl ?_
      refine z_bipush (pc := 70) (v := 43) C dX7_readPaper_70 (by decide) ?_
      refine z_callV (pc := 72) C zk_X7_48 (w_X7_takes _ _ 43 (zB.wk (a' := 1) (b' := 126) (zB.of (x := 43) 43 (by decide)) (by decide) (by decide)) hI45) rfl rfl (by decide) rfl rfl (Nat.le_of_ble_eq_true rfl) dX7_readPaper_72 (fun r49 g49 q49 => ?_)
      obtain ⟨⟨v49, rfl, b49x⟩, hI49, hF49q⟩ := q49
      have hF49 := zFr.tr hF45 hF49q (by decide)
      simp only [Option.toList, List.cons_append, List.nil_append]
      have ek49_18_0_7 : (g49 18 0 7).toInt = (g45 18 0 7).toInt := by rw [hF49q 18 0 7 rfl]
      have c49_18_0_7x : zB (g49 18 0 7) 0 120 := by first | exact zB.eqv ek49_18_0_7 c46x | (have q9 := c46x; constructor <;> omega)
      have c50x : zB (g49 18 0 7) 0 120 := by first | assumption | (constructor <;> omega)
      refine z_if_eq (pc := 75) 85 C dX7_readPaper_75 (by decide) (fun h75_50 => ?_) (fun h75_50 => ?_)
      · skip
        have b52x : zB v49 0 0 := by have q1 := b49x; have q2 := (zB.of (x := 0) 0 (by decide)); simp only [z32lt, z32le, z32eq, Int32.reduceToInt, Int32.toInt_zero] at h75_50; constructor <;> omega
        refine z_iconst (pc := 85) (v := 0) C dX7_readPaper_85 (by decide) ?_
        refine z_istore (pc := 86) C dX7_readPaper_86 (by rw [hn]; decide) rfl ?_
        refine z_aload_n (pc := 88) C dX7_readPaper_88 rfl ?_
        refine z_getI (pc := 89) C zf_X7_36 rfl rfl (by decide) dX7_readPaper_89 ?_
        refine w_gp (fun v => v = g49 18 0 7) rfl (fun v53 q53 => ?_)
        have e53 : v53.toInt = (g49 18 0 7).toInt := by rw [q53]
        have b53x : zB v53 0 120 := by first | exact zB.eqv e53 c50x | (have q9 := c50x; constructor <;> omega)
        refine z_iconst (pc := 92) (v := -1) C dX7_readPaper_92 (by decide) ?_
        refine z_icmp_ne (pc := 93) 161 C dX7_readPaper_93 (by decide) (fun h93_53 => ?_) (fun h93_53 => absurd h93_53 (by have q1 := b53x; have q2 := (zB.of (x := (-1)) (-1) (by decide)); first | (simp only [z32lt, z32le, z32eq]; omega) | (simp only [z32lt, z32le, z32eq] at *; omega)))
        exact z_vret (pc := 161) C hr dX7_readPaper_161 ⟨rfl, hI49, hF49, (by omega)⟩
      · skip
        have b55x : zB v49 1 1 := by have q1 := b49x; have q2 := (zB.of (x := 0) 0 (by decide)); simp only [z32lt, z32le, z32eq, Int32.reduceToInt, Int32.toInt_zero] at h75_50; constructor <;> omega
        refine z_aload_n (pc := 78) C dX7_readPaper_78 rfl ?_
        refine z_callVS (pc := 79) C hT zk_X7_95 (k_X7_readPromises _ _  hI49) rfl rfl (by decide) rfl rfl (Nat.le_of_ble_eq_true rfl) dX7_readPaper_79 (fun r56 g56 q56 => ?_)
        obtain ⟨⟨v56, rfl, b56x⟩, hI56, hF56q, hp56_0, hp56_1⟩ := q56
        have hp56_0 := hp56_0 _ rfl
        have hp56_1 := hp56_1 _ rfl
        have hF56 := zFr.tr hF49 hF56q (by decide)
        simp only [Option.toList, List.cons_append, List.nil_append]
        have cr56_18_0_7 : zB (g56 18 0 7) (-1) 120 := hI56 18 0 7
        have c57x : zB (g56 18 0 7) 0 120 := by first | assumption | (constructor <;> omega)
        refine z_goto (pc := 82) 86 C dX7_readPaper_82 (by decide) ?_
        refine z_istore (pc := 86) C dX7_readPaper_86 (by rw [hn]; decide) rfl ?_
        refine z_aload_n (pc := 88) C dX7_readPaper_88 rfl ?_
        refine z_getI (pc := 89) C zf_X7_36 rfl rfl (by decide) dX7_readPaper_89 ?_
        refine w_gp (fun v => v = g56 18 0 7) rfl (fun v58 q58 => ?_)
        have e58 : v58.toInt = (g56 18 0 7).toInt := by rw [q58]
        have b58x : zB v58 0 120 := by first | exact zB.eqv e58 c57x | (have q9 := c57x; constructor <;> omega)
        refine z_iconst (pc := 92) (v := -1) C dX7_readPaper_92 (by decide) ?_
        refine z_icmp_ne (pc := 93) 161 C dX7_readPaper_93 (by decide) (fun h93_58 => ?_) (fun h93_58 => absurd h93_58 (by have q1 := b58x; have q2 := (zB.of (x := (-1)) (-1) (by decide)); first | (simp only [z32lt, z32le, z32eq]; omega) | (simp only [z32lt, z32le, z32eq] at *; omega)))
        exact z_vret (pc := 161) C hr dX7_readPaper_161 ⟨rfl, hI56, hF56, (by omega)⟩
    · skip
      have b60x : zB v45 1 1 := by have q1 := b45x; have q2 := (zB.of (x := 0) 0 (by decide)); simp only [z32lt, z32le, z32eq, Int32.reduceToInt, Int32.toInt_zero] at h53_46; constructor <;> omega
      refine z_aload_n (pc := 56) C dX7_readPaper_56 rfl ?_
      refine z_iconst (pc := 57) (v := 1) C dX7_readPaper_57 (by decide) ?_
      refine z_bipush (pc := 58) (v := 99) C dX7_readPaper_58 (by decide) ?_
      refine z_callV (pc := 60) C zk_X7_73 (k_X7_readNumber _ _ 1 (zB.wk (a' := (-2147483648)) (b' := 1000) (zB.of (x := 1) 1 (by decide)) (by decide) (by decide)) 99 (zB.wk (a' := 0) (b' := 99) (zB.of (x := 99) 99 (by decide)) (by decide) (by decide)) hI45) rfl rfl (by decide) rfl rfl (Nat.le_of_ble_eq_true rfl) dX7_readPaper_60 (fun r61 g61 q61 => ?_)
      have qa61_1 : (1 : Int32).toInt = 1 := by decide
      have qa61_99 : (99 : Int32).toInt = 99 := by decide
      obtain ⟨⟨v61, rfl, b61x⟩, hI61, hF61q, hp61_0, hp61_1, hp61_2⟩ := q61
      have hp61_0 := hp61_0 _ rfl
      have hp61_1 := hp61_1 _ rfl
      have hp61_2 := hp61_2 _ rfl
      have hF61 := zFr.tr hF45 hF61q (by decide)
      simp only [Option.toList, List.cons_append, List.nil_append]
      have cr61_18_0_7 : zB (g61 18 0 7) (-1) 120 := hI61 18 0 7
      have c62x : zB (g61 18 0 7) 0 120 := by first | assumption | (constructor <;> omega)
      refine z_goto (pc := 63) 67 C dX7_readPaper_63 (by decide) ?_
      refine z_istore (pc := 67) C dX7_readPaper_67 (by rw [hn]; decide) rfl ?_
      refine z_aload_n (pc := 69) C dX7_readPaper_69 rfl ?_
      refine z_bipush (pc := 70) (v := 43) C dX7_readPaper_70 (by decide) ?_
      refine z_callV (pc := 72) C zk_X7_48 (w_X7_takes _ _ 43 (zB.wk (a' := 1) (b' := 126) (zB.of (x := 43) 43 (by decide)) (by decide) (by decide)) hI61) rfl rfl (by decide) rfl rfl (Nat.le_of_ble_eq_true rfl) dX7_readPaper_72 (fun r63 g63 q63 => ?_)
      obtain ⟨⟨v63, rfl, b63x⟩, hI63, hF63q⟩ := q63
      have hF63 := zFr.tr hF61 hF63q (by decide)
      simp only [Option.toList, List.cons_append, List.nil_append]
      have ek63_18_0_7 : (g63 18 0 7).toInt = (g61 18 0 7).toInt := by rw [hF63q 18 0 7 rfl]
      have c63_18_0_7x : zB (g63 18 0 7) 0 120 := by first | exact zB.eqv ek63_18_0_7 c62x | (have q9 := c62x; constructor <;> omega)
      have c64x : zB (g63 18 0 7) 0 120 := by first | assumption | (constructor <;> omega)
      refine z_if_eq (pc := 75) 85 C dX7_readPaper_75 (by decide) (fun h75_64 => ?_) (fun h75_64 => ?_)
      · skip
        have b66x : zB v63 0 0 := by have q1 := b63x; have q2 := (zB.of (x := 0) 0 (by decide)); simp only [z32lt, z32le, z32eq, Int32.reduceToInt, Int32.toInt_zero] at h75_64; constructor <;> omega
        refine z_iconst (pc := 85) (v := 0) C dX7_readPaper_85 (by decide) ?_
        refine z_istore (pc := 86) C dX7_readPaper_86 (by rw [hn]; decide) rfl ?_
        refine z_aload_n (pc := 88) C dX7_readPaper_88 rfl ?_
        refine z_getI (pc := 89) C zf_X7_36 rfl rfl (by decide) dX7_readPaper_89 ?_
        refine w_gp (fun v => v = g63 18 0 7) rfl (fun v67 q67 => ?_)
        have e67 : v67.toInt = (g63 18 0 7).toInt := by rw [q67]
        have b67x : zB v67 0 120 := by first | exact zB.eqv e67 c64x | (have q9 := c64x; constructor <;> omega)
        refine z_iconst (pc := 92) (v := -1) C dX7_readPaper_92 (by decide) ?_
        refine z_icmp_ne (pc := 93) 161 C dX7_readPaper_93 (by decide) (fun h93_67 => ?_) (fun h93_67 => absurd h93_67 (by have q1 := b67x; have q2 := (zB.of (x := (-1)) (-1) (by decide)); first | (simp only [z32lt, z32le, z32eq]; omega) | (simp only [z32lt, z32le, z32eq] at *; omega)))
        exact z_vret (pc := 161) C hr dX7_readPaper_161 ⟨rfl, hI63, hF63, (by omega)⟩
      · skip
        have b69x : zB v63 1 1 := by have q1 := b63x; have q2 := (zB.of (x := 0) 0 (by decide)); simp only [z32lt, z32le, z32eq, Int32.reduceToInt, Int32.toInt_zero] at h75_64; constructor <;> omega
        refine z_aload_n (pc := 78) C dX7_readPaper_78 rfl ?_
        refine z_callVS (pc := 79) C hT zk_X7_95 (k_X7_readPromises _ _  hI63) rfl rfl (by decide) rfl rfl (Nat.le_of_ble_eq_true rfl) dX7_readPaper_79 (fun r70 g70 q70 => ?_)
        obtain ⟨⟨v70, rfl, b70x⟩, hI70, hF70q, hp70_0, hp70_1⟩ := q70
        have hp70_0 := hp70_0 _ rfl
        have hp70_1 := hp70_1 _ rfl
        have hF70 := zFr.tr hF63 hF70q (by decide)
        simp only [Option.toList, List.cons_append, List.nil_append]
        have cr70_18_0_7 : zB (g70 18 0 7) (-1) 120 := hI70 18 0 7
        have c71x : zB (g70 18 0 7) 0 120 := by first | assumption | (constructor <;> omega)
        refine z_goto (pc := 82) 86 C dX7_readPaper_82 (by decide) ?_
        refine z_istore (pc := 86) C dX7_readPaper_86 (by rw [hn]; decide) rfl ?_
        refine z_aload_n (pc := 88) C dX7_readPaper_88 rfl ?_
        refine z_getI (pc := 89) C zf_X7_36 rfl rfl (by decide) dX7_readPaper_89 ?_
        refine w_gp (fun v => v = g70 18 0 7) rfl (fun v72 q72 => ?_)
        have e72 : v72.toInt = (g70 18 0 7).toInt := by rw [q72]
        have b72x : zB v72 0 120 := by first | exact zB.eqv e72 c71x | (have q9 := c71x; constructor <;> omega)
        refine z_iconst (pc := 92) (v := -1) C dX7_readPaper_92 (by decide) ?_
        refine z_icmp_ne (pc := 93) 161 C dX7_readPaper_93 (by decide) (fun h93_72 => ?_) (fun h93_72 => absurd h93_72 (by have q1 := b72x; have q2 := (zB.of (x := (-1)) (-1) (by decide)); first | (simp only [z32lt, z32le, z32eq]; omega) | (simp only [z32lt, z32le, z32eq] at *; omega)))
        exact z_vret (pc := 161) C hr dX7_readPaper_161 ⟨rfl, hI70, hF70, (by omega)⟩

set_option maxRecDepth 100000 in
set_option maxHeartbeats 4000000 in
theorem e_X7_readCrime (d : Nat) (f : zM) (a1 : Int32) (b1 : zB a1 0 5) (pf18_0_4 : zB (f 18 0 4) 0 11) (T : Nat → Int32) (n p : Nat) (hN : n ≤ 120) (h18 : f 18 0 3 = nI n) (hTp : ∀ i, i < n → f 19 0 i = T i) (hp : f 18 0 6 = nI p) (hb : p ≤ n) (ft : f 18 0 7 = -1) (hI : zInv f) : ZM (d + 3) yX7_readCrime cX7_readCrime 7 none [zr 18 0, zi a1] f (fun r g => r = none ∧ zInv g ∧ zFr [(7, some 0), (7, some 1), (7, some 2), (7, some 3), (7, some 4), (7, some 5), (18, some 4), (18, some 6), (18, some 7)] f g ∧ ((∃ e, zCr (zmkC T n) T n a1 p = .inl e ∧ e ≤ n ∧ g 18 0 7 = nI e ∧ (∀ x j, g 7 x j = f 7 x j)) ∨ (∃ q c, zCr (zmkC T n) T n a1 p = .inr (c, q) ∧ g 18 0 6 = nI q ∧ q ≤ n ∧ g 18 0 7 = -1 ∧ g 18 0 4 = f 18 0 4 + 1 ∧ (∀ j, j < 6 → g 7 (48 + (f 18 0 4).toInt.toNat) j = c j) ∧ (∀ x j, j < 6 → x ≠ 48 + (f 18 0 4).toInt.toNat → g 7 x j = f 7 x j)))) := by
  refine ZM.intro (by decide +kernel) (Nat.le_of_ble_eq_true rfl) ?_
  intro X C hr hn
  have hF : zFr [(7, some 0), (7, some 1), (7, some 2), (7, some 3), (7, some 4), (7, some 5), (18, some 4), (18, some 6), (18, some 7)] f f := zFr.rf _ _
  have ct18_0_7 : zB (f 18 0 7) (-1) 120 := hI 18 0 7
  show Z X 0 [some (zr 18 0), some (zi a1), none, none, none, none, none] [] f
  refine z_aload_n (pc := 0) C dX7_readCrime_0 rfl ?_
  refine z_iconst (pc := 1) (v := 0) C dX7_readCrime_1 (by decide) ?_
  refine z_callV (pc := 2) C zk_X7_70 (e_X7_readMarks _ _ 0 (zB.wk (a' := 0) (b' := 63) (zB.of (x := 0) 0 (by decide)) (by decide) (by decide))  T n (p) hN h18 hTp hp hb ft hI) rfl rfl (by decide) rfl rfl (Nat.le_of_ble_eq_true rfl) dX7_readCrime_2 (fun r1 g1 q1 => ?_)
  obtain ⟨⟨v1, rfl, b1x⟩, hI1, hF1q, hp1⟩ := q1
  have hp1 := hp1 _ rfl
  have hF1 := zFr.tr hF hF1q (by decide)
  simp only [Option.toList, List.cons_append, List.nil_append]
  have cr1_18_0_7 : zB (g1 18 0 7) (-1) 120 := hI1 18 0 7
  have ek1_18_0_4 : (g1 18 0 4).toInt = (f 18 0 4).toInt := by rw [hF1q 18 0 4 rfl]
  have c1_18_0_4x : zB (g1 18 0 4) 0 11 := by first | exact zB.eqv ek1_18_0_4 pf18_0_4 | (have q9 := pf18_0_4; constructor <;> omega)
  rcases hp1 with ⟨u1, hc1, hb1, hz1⟩ | ⟨u1, hc1, hq1, hb1, ft1⟩
  · skip
    have kk7_1 : ∀ x j, g1 7 x j = f 7 x j := fun x j => (hF1q 7 x j rfl).trans ((fun _ _ => rfl) x j)
    have hzi1 : (g1 18 0 7).toInt = (u1 : Int) := by rw [hz1]; exact nI_toInt (by omega)
    have c2x : zB (g1 18 0 7) 0 120 := by first | assumption | (constructor <;> omega)
    refine z_istore_n (pc := 5) C dX7_readCrime_5 (by rw [hn]; decide) rfl ?_
    refine z_aload_n (pc := 6) C dX7_readCrime_6 rfl ?_
    refine z_bipush (pc := 7) (v := 45) C dX7_readCrime_7 (by decide) ?_
    refine z_callV (pc := 9) C zk_X7_48 (w_X7_takes _ _ 45 (zB.wk (a' := 1) (b' := 126) (zB.of (x := 45) 45 (by decide)) (by decide) (by decide)) hI1) rfl rfl (by decide) rfl rfl (Nat.le_of_ble_eq_true rfl) dX7_readCrime_9 (fun r3 g3 q3 => ?_)
    obtain ⟨⟨v3, rfl, b3x⟩, hI3, hF3q⟩ := q3
    have hF3 := zFr.tr hF1 hF3q (by decide)
    simp only [Option.toList, List.cons_append, List.nil_append]
    have ek3_18_0_7 : (g3 18 0 7).toInt = (g1 18 0 7).toInt := by rw [hF3q 18 0 7 rfl]
    have c3_18_0_7x : zB (g3 18 0 7) 0 120 := by first | exact zB.eqv ek3_18_0_7 c2x | (have q9 := c2x; constructor <;> omega)
    have ek3_18_0_4 : (g3 18 0 4).toInt = (g1 18 0 4).toInt := by rw [hF3q 18 0 4 rfl]
    have c3_18_0_4x : zB (g3 18 0 4) 0 11 := by first | exact zB.eqv ek3_18_0_4 c1_18_0_4x | (have q9 := c1_18_0_4x; constructor <;> omega)
    have c4x : zB (g3 18 0 7) 0 120 := by first | assumption | (constructor <;> omega)
    have kk7_3 : ∀ x j, g3 7 x j = f 7 x j := fun x j => (hF3q 7 x j rfl).trans (kk7_1 x j)
    refine z_if_eq (pc := 12) 23 C dX7_readCrime_12 (by decide) (fun h12_4 => ?_) (fun h12_4 => ?_)
    · skip
      have b6x : zB v3 0 0 := by have q1 := b3x; have q2 := (zB.of (x := 0) 0 (by decide)); simp only [z32lt, z32le, z32eq, Int32.reduceToInt, Int32.toInt_zero] at h12_4; constructor <;> omega
      refine z_iconst (pc := 23) (v := 0) C dX7_readCrime_23 (by decide) ?_
      refine z_istore_n (pc := 24) C dX7_readCrime_24 (by rw [hn]; decide) rfl ?_
      refine z_aload_n (pc := 25) C dX7_readCrime_25 rfl ?_
      refine z_iconst (pc := 26) (v := 0) C dX7_readCrime_26 (by decide) ?_
      refine z_bipush (pc := 27) (v := 40) C dX7_readCrime_27 (by decide) ?_
      refine z_callV (pc := 29) C zk_X7_73 (k_X7_readNumber _ _ 0 (zB.wk (a' := (-2147483648)) (b' := 1000) (zB.of (x := 0) 0 (by decide)) (by decide) (by decide)) 40 (zB.wk (a' := 0) (b' := 99) (zB.of (x := 40) 40 (by decide)) (by decide) (by decide)) hI3) rfl rfl (by decide) rfl rfl (Nat.le_of_ble_eq_true rfl) dX7_readCrime_29 (fun r7 g7 q7 => ?_)
      have qa7_0 : (0 : Int32).toInt = 0 := by decide
      have qa7_40 : (40 : Int32).toInt = 40 := by decide
      obtain ⟨⟨v7, rfl, b7x⟩, hI7, hF7q, hp7_0, hp7_1, hp7_2⟩ := q7
      have hp7_0 := hp7_0 _ rfl
      have hp7_1 := hp7_1 _ rfl
      have hp7_2 := hp7_2 _ rfl
      have hF7 := zFr.tr hF3 hF7q (by decide)
      simp only [Option.toList, List.cons_append, List.nil_append]
      have cr7_18_0_7 : zB (g7 18 0 7) (-1) 120 := hI7 18 0 7
      have ek7_18_0_4 : (g7 18 0 4).toInt = (g3 18 0 4).toInt := by rw [hF7q 18 0 4 rfl]
      have c7_18_0_4x : zB (g7 18 0 4) 0 11 := by first | exact zB.eqv ek7_18_0_4 c3_18_0_4x | (have q9 := c3_18_0_4x; constructor <;> omega)
      have c8x : zB (g7 18 0 7) 0 120 := by first | assumption | (constructor <;> omega)
      have kk7_7 : ∀ x j, g7 7 x j = f 7 x j := fun x j => (hF7q 7 x j rfl).trans (kk7_3 x j)
      refine z_istore (pc := 32) C dX7_readCrime_32 (by rw [hn]; decide) rfl ?_
      refine z_aload_n (pc := 34) C dX7_readCrime_34 rfl ?_
      refine z_bipush (pc := 35) (v := 46) C dX7_readCrime_35 (by decide) ?_
      refine z_callV (pc := 37) C zk_X7_77 (k_X7_need _ _ 46 (zB.wk (a' := 1) (b' := 126) (zB.of (x := 46) 46 (by decide)) (by decide) (by decide)) hI7) rfl rfl (by decide) rfl rfl (Nat.le_of_ble_eq_true rfl) dX7_readCrime_37 (fun r9 g9 q9 => ?_)
      have qa9_46 : (46 : Int32).toInt = 46 := by decide
      obtain ⟨rfl, hI9, hF9q, hp9_0, hp9_1⟩ := q9
      have hF9 := zFr.tr hF7 hF9q (by decide)
      simp only [Option.toList, List.cons_append, List.nil_append]
      have cr9_18_0_7 : zB (g9 18 0 7) (-1) 120 := hI9 18 0 7
      have ek9_18_0_4 : (g9 18 0 4).toInt = (g7 18 0 4).toInt := by rw [hF9q 18 0 4 rfl]
      have c9_18_0_4x : zB (g9 18 0 4) 0 11 := by first | exact zB.eqv ek9_18_0_4 c7_18_0_4x | (have q9 := c7_18_0_4x; constructor <;> omega)
      have c10x : zB (g9 18 0 7) 0 120 := by first | assumption | (constructor <;> omega)
      have kk7_9 : ∀ x j, g9 7 x j = f 7 x j := fun x j => (hF9q 7 x j rfl).trans (kk7_7 x j)
      refine z_aload_n (pc := 40) C dX7_readCrime_40 rfl ?_
      refine z_bipush (pc := 41) (v := 46) C dX7_readCrime_41 (by decide) ?_
      refine z_callV (pc := 43) C zk_X7_77 (k_X7_need _ _ 46 (zB.wk (a' := 1) (b' := 126) (zB.of (x := 46) 46 (by decide)) (by decide) (by decide)) hI9) rfl rfl (by decide) rfl rfl (Nat.le_of_ble_eq_true rfl) dX7_readCrime_43 (fun r11 g11 q11 => ?_)
      have qa11_46 : (46 : Int32).toInt = 46 := by decide
      obtain ⟨rfl, hI11, hF11q, hp11_0, hp11_1⟩ := q11
      have hF11 := zFr.tr hF9 hF11q (by decide)
      simp only [Option.toList, List.cons_append, List.nil_append]
      have cr11_18_0_7 : zB (g11 18 0 7) (-1) 120 := hI11 18 0 7
      have ek11_18_0_4 : (g11 18 0 4).toInt = (g9 18 0 4).toInt := by rw [hF11q 18 0 4 rfl]
      have c11_18_0_4x : zB (g11 18 0 4) 0 11 := by first | exact zB.eqv ek11_18_0_4 c9_18_0_4x | (have q9 := c9_18_0_4x; constructor <;> omega)
      have c12x : zB (g11 18 0 7) 0 120 := by first | assumption | (constructor <;> omega)
      have kk7_11 : ∀ x j, g11 7 x j = f 7 x j := fun x j => (hF11q 7 x j rfl).trans (kk7_9 x j)
      refine z_aload_n (pc := 46) C dX7_readCrime_46 rfl ?_
      refine z_iconst (pc := 47) (v := 1) C dX7_readCrime_47 (by decide) ?_
      refine z_iload (pc := 48) C dX7_readCrime_48 rfl ?_
      refine z_mmax (pc := 50) C zk_X7_80 (Nat.le_of_ble_eq_true rfl) dX7_readCrime_50 ?_
      refine w_gp (fun v => v = imax (1 : Int32) v7) rfl (fun v13 q13 => ?_)
      have b13x : zB v13 1 1000 := by rw [q13]; exact (by have q9 := zmax_b (zB.of (x := 1) 1 (by decide)) b7x; constructor <;> omega)
      refine z_bipush (pc := 53) (v := 40) C dX7_readCrime_53 (by decide) ?_
      refine z_callV (pc := 55) C zk_X7_73 (k_X7_readNumber _ _ v13 (zB.wk (a' := (-2147483648)) (b' := 1000) b13x (by decide) (by decide)) 40 (zB.wk (a' := 0) (b' := 99) (zB.of (x := 40) 40 (by decide)) (by decide) (by decide)) hI11) rfl rfl (by decide) rfl rfl (Nat.le_of_ble_eq_true rfl) dX7_readCrime_55 (fun r14 g14 q14 => ?_)
      have qa14_40 : (40 : Int32).toInt = 40 := by decide
      obtain ⟨⟨v14, rfl, b14x⟩, hI14, hF14q, hp14_0, hp14_1, hp14_2⟩ := q14
      have hp14_0 := hp14_0 _ rfl
      have hp14_1 := hp14_1 _ rfl
      have hp14_2 := hp14_2 _ rfl
      have hF14 := zFr.tr hF11 hF14q (by decide)
      simp only [Option.toList, List.cons_append, List.nil_append]
      have cr14_18_0_7 : zB (g14 18 0 7) (-1) 120 := hI14 18 0 7
      have ek14_18_0_4 : (g14 18 0 4).toInt = (g11 18 0 4).toInt := by rw [hF14q 18 0 4 rfl]
      have c14_18_0_4x : zB (g14 18 0 4) 0 11 := by first | exact zB.eqv ek14_18_0_4 c11_18_0_4x | (have q9 := c11_18_0_4x; constructor <;> omega)
      have c15x : zB (g14 18 0 7) 0 120 := by first | assumption | (constructor <;> omega)
      have kk7_14 : ∀ x j, g14 7 x j = f 7 x j := fun x j => (hF14q 7 x j rfl).trans (kk7_11 x j)
      refine z_istore (pc := 58) C dX7_readCrime_58 (by rw [hn]; decide) rfl ?_
      refine z_aload_n (pc := 60) C dX7_readCrime_60 rfl ?_
      refine z_bipush (pc := 61) (v := 33) C dX7_readCrime_61 (by decide) ?_
      refine z_callV (pc := 63) C zk_X7_48 (w_X7_takes _ _ 33 (zB.wk (a' := 1) (b' := 126) (zB.of (x := 33) 33 (by decide)) (by decide) (by decide)) hI14) rfl rfl (by decide) rfl rfl (Nat.le_of_ble_eq_true rfl) dX7_readCrime_63 (fun r16 g16 q16 => ?_)
      obtain ⟨⟨v16, rfl, b16x⟩, hI16, hF16q⟩ := q16
      have hF16 := zFr.tr hF14 hF16q (by decide)
      simp only [Option.toList, List.cons_append, List.nil_append]
      have ek16_18_0_7 : (g16 18 0 7).toInt = (g14 18 0 7).toInt := by rw [hF16q 18 0 7 rfl]
      have c16_18_0_7x : zB (g16 18 0 7) 0 120 := by first | exact zB.eqv ek16_18_0_7 c15x | (have q9 := c15x; constructor <;> omega)
      have ek16_18_0_4 : (g16 18 0 4).toInt = (g14 18 0 4).toInt := by rw [hF16q 18 0 4 rfl]
      have c16_18_0_4x : zB (g16 18 0 4) 0 11 := by first | exact zB.eqv ek16_18_0_4 c14_18_0_4x | (have q9 := c14_18_0_4x; constructor <;> omega)
      have c17x : zB (g16 18 0 7) 0 120 := by first | assumption | (constructor <;> omega)
      have kk7_16 : ∀ x j, g16 7 x j = f 7 x j := fun x j => (hF16q 7 x j rfl).trans (kk7_14 x j)
      refine z_istore (pc := 66) C dX7_readCrime_66 (by rw [hn]; decide) rfl ?_
      refine z_aload_n (pc := 68) C dX7_readCrime_68 rfl ?_
      refine z_getI (pc := 69) C zf_X7_36 rfl rfl (by decide) dX7_readCrime_69 ?_
      refine w_gp (fun v => v = g16 18 0 7) rfl (fun v18 q18 => ?_)
      have e18 : v18.toInt = (g16 18 0 7).toInt := by rw [q18]
      have b18x : zB v18 0 120 := by first | exact zB.eqv e18 c17x | (have q9 := c17x; constructor <;> omega)
      refine z_iconst (pc := 72) (v := -1) C dX7_readCrime_72 (by decide) ?_
      refine z_icmp_ne (pc := 73) 116 C dX7_readCrime_73 (by decide) (fun h73_18 => ?_) (fun h73_18 => absurd h73_18 (by have q1 := b18x; have q2 := (zB.of (x := (-1)) (-1) (by decide)); first | (simp only [z32lt, z32le, z32eq]; omega) | (simp only [z32lt, z32le, z32eq] at *; omega)))
      exact z_vret (pc := 116) C hr dX7_readCrime_116 ⟨rfl, hI16, hF16, (by
                                                                                          refine Or.inl ⟨u1, ?_, hb1, ?_, (fun x j => kk7_16 x j)⟩
                                                                                          · unfold zCr zmkC; simp only [zbd, hc1]
                                                                                          · rw [z32eq, nI_toInt (by omega)]
                                                                                            omega)⟩
    · skip
      have b20x : zB v3 1 1 := by have q1 := b3x; have q2 := (zB.of (x := 0) 0 (by decide)); simp only [z32lt, z32le, z32eq, Int32.reduceToInt, Int32.toInt_zero] at h12_4; constructor <;> omega
      refine z_aload_n (pc := 15) C dX7_readCrime_15 rfl ?_
      refine z_iload_n (pc := 16) C dX7_readCrime_16 rfl ?_
      refine z_callV (pc := 17) C zk_X7_70 (k_X7_readMarks _ _ v1 b1x hI3) rfl rfl (by decide) rfl rfl (Nat.le_of_ble_eq_true rfl) dX7_readCrime_17 (fun r21 g21 q21 => ?_)
      obtain ⟨⟨v21, rfl, b21x⟩, hI21, hF21q, hp21_0, hp21_1⟩ := q21
      have hp21_0 := hp21_0 _ rfl
      have hp21_1 := hp21_1 _ rfl
      have hF21 := zFr.tr hF3 hF21q (by decide)
      simp only [Option.toList, List.cons_append, List.nil_append]
      have cr21_18_0_7 : zB (g21 18 0 7) (-1) 120 := hI21 18 0 7
      have ek21_18_0_4 : (g21 18 0 4).toInt = (g3 18 0 4).toInt := by rw [hF21q 18 0 4 rfl]
      have c21_18_0_4x : zB (g21 18 0 4) 0 11 := by first | exact zB.eqv ek21_18_0_4 c3_18_0_4x | (have q9 := c3_18_0_4x; constructor <;> omega)
      have c22x : zB (g21 18 0 7) 0 120 := by first | assumption | (constructor <;> omega)
      have kk7_21 : ∀ x j, g21 7 x j = f 7 x j := fun x j => (hF21q 7 x j rfl).trans (kk7_3 x j)
      refine z_goto (pc := 20) 24 C dX7_readCrime_20 (by decide) ?_
      refine z_istore_n (pc := 24) C dX7_readCrime_24 (by rw [hn]; decide) rfl ?_
      refine z_aload_n (pc := 25) C dX7_readCrime_25 rfl ?_
      refine z_iconst (pc := 26) (v := 0) C dX7_readCrime_26 (by decide) ?_
      refine z_bipush (pc := 27) (v := 40) C dX7_readCrime_27 (by decide) ?_
      refine z_callV (pc := 29) C zk_X7_73 (k_X7_readNumber _ _ 0 (zB.wk (a' := (-2147483648)) (b' := 1000) (zB.of (x := 0) 0 (by decide)) (by decide) (by decide)) 40 (zB.wk (a' := 0) (b' := 99) (zB.of (x := 40) 40 (by decide)) (by decide) (by decide)) hI21) rfl rfl (by decide) rfl rfl (Nat.le_of_ble_eq_true rfl) dX7_readCrime_29 (fun r23 g23 q23 => ?_)
      have qa23_0 : (0 : Int32).toInt = 0 := by decide
      have qa23_40 : (40 : Int32).toInt = 40 := by decide
      obtain ⟨⟨v23, rfl, b23x⟩, hI23, hF23q, hp23_0, hp23_1, hp23_2⟩ := q23
      have hp23_0 := hp23_0 _ rfl
      have hp23_1 := hp23_1 _ rfl
      have hp23_2 := hp23_2 _ rfl
      have hF23 := zFr.tr hF21 hF23q (by decide)
      simp only [Option.toList, List.cons_append, List.nil_append]
      have cr23_18_0_7 : zB (g23 18 0 7) (-1) 120 := hI23 18 0 7
      have ek23_18_0_4 : (g23 18 0 4).toInt = (g21 18 0 4).toInt := by rw [hF23q 18 0 4 rfl]
      have c23_18_0_4x : zB (g23 18 0 4) 0 11 := by first | exact zB.eqv ek23_18_0_4 c21_18_0_4x | (have q9 := c21_18_0_4x; constructor <;> omega)
      have c24x : zB (g23 18 0 7) 0 120 := by first | assumption | (constructor <;> omega)
      have kk7_23 : ∀ x j, g23 7 x j = f 7 x j := fun x j => (hF23q 7 x j rfl).trans (kk7_21 x j)
      refine z_istore (pc := 32) C dX7_readCrime_32 (by rw [hn]; decide) rfl ?_
      refine z_aload_n (pc := 34) C dX7_readCrime_34 rfl ?_
      refine z_bipush (pc := 35) (v := 46) C dX7_readCrime_35 (by decide) ?_
      refine z_callV (pc := 37) C zk_X7_77 (k_X7_need _ _ 46 (zB.wk (a' := 1) (b' := 126) (zB.of (x := 46) 46 (by decide)) (by decide) (by decide)) hI23) rfl rfl (by decide) rfl rfl (Nat.le_of_ble_eq_true rfl) dX7_readCrime_37 (fun r25 g25 q25 => ?_)
      have qa25_46 : (46 : Int32).toInt = 46 := by decide
      obtain ⟨rfl, hI25, hF25q, hp25_0, hp25_1⟩ := q25
      have hF25 := zFr.tr hF23 hF25q (by decide)
      simp only [Option.toList, List.cons_append, List.nil_append]
      have cr25_18_0_7 : zB (g25 18 0 7) (-1) 120 := hI25 18 0 7
      have ek25_18_0_4 : (g25 18 0 4).toInt = (g23 18 0 4).toInt := by rw [hF25q 18 0 4 rfl]
      have c25_18_0_4x : zB (g25 18 0 4) 0 11 := by first | exact zB.eqv ek25_18_0_4 c23_18_0_4x | (have q9 := c23_18_0_4x; constructor <;> omega)
      have c26x : zB (g25 18 0 7) 0 120 := by first | assumption | (constructor <;> omega)
      have kk7_25 : ∀ x j, g25 7 x j = f 7 x j := fun x j => (hF25q 7 x j rfl).trans (kk7_23 x j)
      refine z_aload_n (pc := 40) C dX7_readCrime_40 rfl ?_
      refine z_bipush (pc := 41) (v := 46) C dX7_readCrime_41 (by decide) ?_
      refine z_callV (pc := 43) C zk_X7_77 (k_X7_need _ _ 46 (zB.wk (a' := 1) (b' := 126) (zB.of (x := 46) 46 (by decide)) (by decide) (by decide)) hI25) rfl rfl (by decide) rfl rfl (Nat.le_of_ble_eq_true rfl) dX7_readCrime_43 (fun r27 g27 q27 => ?_)
      have qa27_46 : (46 : Int32).toInt = 46 := by decide
      obtain ⟨rfl, hI27, hF27q, hp27_0, hp27_1⟩ := q27
      have hF27 := zFr.tr hF25 hF27q (by decide)
      simp only [Option.toList, List.cons_append, List.nil_append]
      have cr27_18_0_7 : zB (g27 18 0 7) (-1) 120 := hI27 18 0 7
      have ek27_18_0_4 : (g27 18 0 4).toInt = (g25 18 0 4).toInt := by rw [hF27q 18 0 4 rfl]
      have c27_18_0_4x : zB (g27 18 0 4) 0 11 := by first | exact zB.eqv ek27_18_0_4 c25_18_0_4x | (have q9 := c25_18_0_4x; constructor <;> omega)
      have c28x : zB (g27 18 0 7) 0 120 := by first | assumption | (constructor <;> omega)
      have kk7_27 : ∀ x j, g27 7 x j = f 7 x j := fun x j => (hF27q 7 x j rfl).trans (kk7_25 x j)
      refine z_aload_n (pc := 46) C dX7_readCrime_46 rfl ?_
      refine z_iconst (pc := 47) (v := 1) C dX7_readCrime_47 (by decide) ?_
      refine z_iload (pc := 48) C dX7_readCrime_48 rfl ?_
      refine z_mmax (pc := 50) C zk_X7_80 (Nat.le_of_ble_eq_true rfl) dX7_readCrime_50 ?_
      refine w_gp (fun v => v = imax (1 : Int32) v23) rfl (fun v29 q29 => ?_)
      have b29x : zB v29 1 1000 := by rw [q29]; exact (by have q9 := zmax_b (zB.of (x := 1) 1 (by decide)) b23x; constructor <;> omega)
      refine z_bipush (pc := 53) (v := 40) C dX7_readCrime_53 (by decide) ?_
      refine z_callV (pc := 55) C zk_X7_73 (k_X7_readNumber _ _ v29 (zB.wk (a' := (-2147483648)) (b' := 1000) b29x (by decide) (by decide)) 40 (zB.wk (a' := 0) (b' := 99) (zB.of (x := 40) 40 (by decide)) (by decide) (by decide)) hI27) rfl rfl (by decide) rfl rfl (Nat.le_of_ble_eq_true rfl) dX7_readCrime_55 (fun r30 g30 q30 => ?_)
      have qa30_40 : (40 : Int32).toInt = 40 := by decide
      obtain ⟨⟨v30, rfl, b30x⟩, hI30, hF30q, hp30_0, hp30_1, hp30_2⟩ := q30
      have hp30_0 := hp30_0 _ rfl
      have hp30_1 := hp30_1 _ rfl
      have hp30_2 := hp30_2 _ rfl
      have hF30 := zFr.tr hF27 hF30q (by decide)
      simp only [Option.toList, List.cons_append, List.nil_append]
      have cr30_18_0_7 : zB (g30 18 0 7) (-1) 120 := hI30 18 0 7
      have ek30_18_0_4 : (g30 18 0 4).toInt = (g27 18 0 4).toInt := by rw [hF30q 18 0 4 rfl]
      have c30_18_0_4x : zB (g30 18 0 4) 0 11 := by first | exact zB.eqv ek30_18_0_4 c27_18_0_4x | (have q9 := c27_18_0_4x; constructor <;> omega)
      have c31x : zB (g30 18 0 7) 0 120 := by first | assumption | (constructor <;> omega)
      have kk7_30 : ∀ x j, g30 7 x j = f 7 x j := fun x j => (hF30q 7 x j rfl).trans (kk7_27 x j)
      refine z_istore (pc := 58) C dX7_readCrime_58 (by rw [hn]; decide) rfl ?_
      refine z_aload_n (pc := 60) C dX7_readCrime_60 rfl ?_
      refine z_bipush (pc := 61) (v := 33) C dX7_readCrime_61 (by decide) ?_
      refine z_callV (pc := 63) C zk_X7_48 (w_X7_takes _ _ 33 (zB.wk (a' := 1) (b' := 126) (zB.of (x := 33) 33 (by decide)) (by decide) (by decide)) hI30) rfl rfl (by decide) rfl rfl (Nat.le_of_ble_eq_true rfl) dX7_readCrime_63 (fun r32 g32 q32 => ?_)
      obtain ⟨⟨v32, rfl, b32x⟩, hI32, hF32q⟩ := q32
      have hF32 := zFr.tr hF30 hF32q (by decide)
      simp only [Option.toList, List.cons_append, List.nil_append]
      have ek32_18_0_7 : (g32 18 0 7).toInt = (g30 18 0 7).toInt := by rw [hF32q 18 0 7 rfl]
      have c32_18_0_7x : zB (g32 18 0 7) 0 120 := by first | exact zB.eqv ek32_18_0_7 c31x | (have q9 := c31x; constructor <;> omega)
      have ek32_18_0_4 : (g32 18 0 4).toInt = (g30 18 0 4).toInt := by rw [hF32q 18 0 4 rfl]
      have c32_18_0_4x : zB (g32 18 0 4) 0 11 := by first | exact zB.eqv ek32_18_0_4 c30_18_0_4x | (have q9 := c30_18_0_4x; constructor <;> omega)
      have c33x : zB (g32 18 0 7) 0 120 := by first | assumption | (constructor <;> omega)
      have kk7_32 : ∀ x j, g32 7 x j = f 7 x j := fun x j => (hF32q 7 x j rfl).trans (kk7_30 x j)
      refine z_istore (pc := 66) C dX7_readCrime_66 (by rw [hn]; decide) rfl ?_
      refine z_aload_n (pc := 68) C dX7_readCrime_68 rfl ?_
      refine z_getI (pc := 69) C zf_X7_36 rfl rfl (by decide) dX7_readCrime_69 ?_
      refine w_gp (fun v => v = g32 18 0 7) rfl (fun v34 q34 => ?_)
      have e34 : v34.toInt = (g32 18 0 7).toInt := by rw [q34]
      have b34x : zB v34 0 120 := by first | exact zB.eqv e34 c33x | (have q9 := c33x; constructor <;> omega)
      refine z_iconst (pc := 72) (v := -1) C dX7_readCrime_72 (by decide) ?_
      refine z_icmp_ne (pc := 73) 116 C dX7_readCrime_73 (by decide) (fun h73_34 => ?_) (fun h73_34 => absurd h73_34 (by have q1 := b34x; have q2 := (zB.of (x := (-1)) (-1) (by decide)); first | (simp only [z32lt, z32le, z32eq]; omega) | (simp only [z32lt, z32le, z32eq] at *; omega)))
      exact z_vret (pc := 116) C hr dX7_readCrime_116 ⟨rfl, hI32, hF32, (by
                                                                                          refine Or.inl ⟨u1, ?_, hb1, ?_, (fun x j => kk7_32 x j)⟩
                                                                                          · unfold zCr zmkC; simp only [zbd, hc1]
                                                                                          · rw [z32eq, nI_toInt (by omega)]
                                                                                            omega)⟩
  · skip
    have h181 : g1 18 0 3 = nI n := (hF1q 18 0 3 rfl).trans h18
    have hTp1 : ∀ i, i < n → g1 19 0 i = T i := fun i hi => (hF1q 19 0 i rfl).trans (hTp i hi)
    have kk7_1 : ∀ x j, g1 7 x j = f 7 x j := fun x j => (hF1q 7 x j rfl).trans ((fun _ _ => rfl) x j)
    have fti1 : (g1 18 0 7).toInt = -1 := by rw [ft1]; decide
    have c36x : zB (g1 18 0 7) (-1) (-1) := by first | assumption | (constructor <;> omega)
    refine z_istore_n (pc := 5) C dX7_readCrime_5 (by rw [hn]; decide) rfl ?_
    refine z_aload_n (pc := 6) C dX7_readCrime_6 rfl ?_
    refine z_bipush (pc := 7) (v := 45) C dX7_readCrime_7 (by decide) ?_
    refine z_callV (pc := 9) C zk_X7_48 (e_X7_takes _ _ 45 (zB.wk (a' := 1) (b' := 126) (zB.of (x := 45) 45 (by decide)) (by decide) (by decide)) T n (u1) hN h181 hTp1 hq1 hb1 hI1) rfl rfl (by decide) rfl rfl (Nat.le_of_ble_eq_true rfl) dX7_readCrime_9 (fun r37 g37 q37 => ?_)
    obtain ⟨⟨v37, rfl, b37x⟩, hI37, hF37q, hp37⟩ := q37
    have hp37 := hp37 _ rfl
    have hF37 := zFr.tr hF1 hF37q (by decide)
    simp only [Option.toList, List.cons_append, List.nil_append]
    have ek37_18_0_7 : (g37 18 0 7).toInt = (g1 18 0 7).toInt := by rw [hF37q 18 0 7 rfl]
    have c37_18_0_7x : zB (g37 18 0 7) (-1) (-1) := by first | exact zB.eqv ek37_18_0_7 c36x | (have q9 := c36x; constructor <;> omega)
    have ek37_18_0_4 : (g37 18 0 4).toInt = (g1 18 0 4).toInt := by rw [hF37q 18 0 4 rfl]
    have c37_18_0_4x : zB (g37 18 0 4) 0 11 := by first | exact zB.eqv ek37_18_0_4 c1_18_0_4x | (have q9 := c1_18_0_4x; constructor <;> omega)
    have h1837 : g37 18 0 3 = nI n := (hF37q 18 0 3 rfl).trans h181
    have hTp37 : ∀ i, i < n → g37 19 0 i = T i := fun i hi => (hF37q 19 0 i rfl).trans (hTp1 i hi)
    have ft37 : g37 18 0 7 = -1 := (hF37q 18 0 7 rfl).trans ft1
    have kk7_37 : ∀ x j, g37 7 x j = f 7 x j := fun x j => (hF37q 7 x j rfl).trans (kk7_1 x j)
    rcases hp37 with ⟨hc37, rfl, hq37, hb37⟩ | ⟨hc37, rfl, hq37⟩
    · skip
      refine z_if_eq (pc := 12) 23 C dX7_readCrime_12 (by decide) (fun h => absurd h (by decide)) (fun _ => ?_)
      refine z_aload_n (pc := 15) C dX7_readCrime_15 rfl ?_
      refine z_iload_n (pc := 16) C dX7_readCrime_16 rfl ?_
      refine z_callV (pc := 17) C zk_X7_70 (e_X7_readMarks _ _ v1 b1x  T n (zsp T n (u1) + 1) hN h1837 hTp37 hq37 hb37 ft37 hI37) rfl rfl (by decide) rfl rfl (Nat.le_of_ble_eq_true rfl) dX7_readCrime_17 (fun r38 g38 q38 => ?_)
      obtain ⟨⟨v38, rfl, b38x⟩, hI38, hF38q, hp38⟩ := q38
      have hp38 := hp38 _ rfl
      have hF38 := zFr.tr hF37 hF38q (by decide)
      simp only [Option.toList, List.cons_append, List.nil_append]
      have cr38_18_0_7 : zB (g38 18 0 7) (-1) 120 := hI38 18 0 7
      have ek38_18_0_4 : (g38 18 0 4).toInt = (g37 18 0 4).toInt := by rw [hF38q 18 0 4 rfl]
      have c38_18_0_4x : zB (g38 18 0 4) 0 11 := by first | exact zB.eqv ek38_18_0_4 c37_18_0_4x | (have q9 := c37_18_0_4x; constructor <;> omega)
      rcases hp38 with ⟨u38, hc38, hb38, hz38⟩ | ⟨u38, hc38, hq38, hb38, ft38⟩
      · skip
        have kk7_38 : ∀ x j, g38 7 x j = f 7 x j := fun x j => (hF38q 7 x j rfl).trans (kk7_37 x j)
        have hzi38 : (g38 18 0 7).toInt = (u38 : Int) := by rw [hz38]; exact nI_toInt (by omega)
        have c39x : zB (g38 18 0 7) 0 120 := by first | assumption | (constructor <;> omega)
        refine z_goto (pc := 20) 24 C dX7_readCrime_20 (by decide) ?_
        refine z_istore_n (pc := 24) C dX7_readCrime_24 (by rw [hn]; decide) rfl ?_
        refine z_aload_n (pc := 25) C dX7_readCrime_25 rfl ?_
        refine z_iconst (pc := 26) (v := 0) C dX7_readCrime_26 (by decide) ?_
        refine z_bipush (pc := 27) (v := 40) C dX7_readCrime_27 (by decide) ?_
        refine z_callV (pc := 29) C zk_X7_73 (k_X7_readNumber _ _ 0 (zB.wk (a' := (-2147483648)) (b' := 1000) (zB.of (x := 0) 0 (by decide)) (by decide) (by decide)) 40 (zB.wk (a' := 0) (b' := 99) (zB.of (x := 40) 40 (by decide)) (by decide) (by decide)) hI38) rfl rfl (by decide) rfl rfl (Nat.le_of_ble_eq_true rfl) dX7_readCrime_29 (fun r40 g40 q40 => ?_)
        have qa40_0 : (0 : Int32).toInt = 0 := by decide
        have qa40_40 : (40 : Int32).toInt = 40 := by decide
        obtain ⟨⟨v40, rfl, b40x⟩, hI40, hF40q, hp40_0, hp40_1, hp40_2⟩ := q40
        have hp40_0 := hp40_0 _ rfl
        have hp40_1 := hp40_1 _ rfl
        have hp40_2 := hp40_2 _ rfl
        have hF40 := zFr.tr hF38 hF40q (by decide)
        simp only [Option.toList, List.cons_append, List.nil_append]
        have cr40_18_0_7 : zB (g40 18 0 7) (-1) 120 := hI40 18 0 7
        have ek40_18_0_4 : (g40 18 0 4).toInt = (g38 18 0 4).toInt := by rw [hF40q 18 0 4 rfl]
        have c40_18_0_4x : zB (g40 18 0 4) 0 11 := by first | exact zB.eqv ek40_18_0_4 c38_18_0_4x | (have q9 := c38_18_0_4x; constructor <;> omega)
        have c41x : zB (g40 18 0 7) 0 120 := by first | assumption | (constructor <;> omega)
        have kk7_40 : ∀ x j, g40 7 x j = f 7 x j := fun x j => (hF40q 7 x j rfl).trans (kk7_38 x j)
        refine z_istore (pc := 32) C dX7_readCrime_32 (by rw [hn]; decide) rfl ?_
        refine z_aload_n (pc := 34) C dX7_readCrime_34 rfl ?_
        refine z_bipush (pc := 35) (v := 46) C dX7_readCrime_35 (by decide) ?_
        refine z_callV (pc := 37) C zk_X7_77 (k_X7_need _ _ 46 (zB.wk (a' := 1) (b' := 126) (zB.of (x := 46) 46 (by decide)) (by decide) (by decide)) hI40) rfl rfl (by decide) rfl rfl (Nat.le_of_ble_eq_true rfl) dX7_readCrime_37 (fun r42 g42 q42 => ?_)
        have qa42_46 : (46 : Int32).toInt = 46 := by decide
        obtain ⟨rfl, hI42, hF42q, hp42_0, hp42_1⟩ := q42
        have hF42 := zFr.tr hF40 hF42q (by decide)
        simp only [Option.toList, List.cons_append, List.nil_append]
        have cr42_18_0_7 : zB (g42 18 0 7) (-1) 120 := hI42 18 0 7
        have ek42_18_0_4 : (g42 18 0 4).toInt = (g40 18 0 4).toInt := by rw [hF42q 18 0 4 rfl]
        have c42_18_0_4x : zB (g42 18 0 4) 0 11 := by first | exact zB.eqv ek42_18_0_4 c40_18_0_4x | (have q9 := c40_18_0_4x; constructor <;> omega)
        have c43x : zB (g42 18 0 7) 0 120 := by first | assumption | (constructor <;> omega)
        have kk7_42 : ∀ x j, g42 7 x j = f 7 x j := fun x j => (hF42q 7 x j rfl).trans (kk7_40 x j)
        refine z_aload_n (pc := 40) C dX7_readCrime_40 rfl ?_
        refine z_bipush (pc := 41) (v := 46) C dX7_readCrime_41 (by decide) ?_
        refine z_callV (pc := 43) C zk_X7_77 (k_X7_need _ _ 46 (zB.wk (a' := 1) (b' := 126) (zB.of (x := 46) 46 (by decide)) (by decide) (by decide)) hI42) rfl rfl (by decide) rfl rfl (Nat.le_of_ble_eq_true rfl) dX7_readCrime_43 (fun r44 g44 q44 => ?_)
        have qa44_46 : (46 : Int32).toInt = 46 := by decide
        obtain ⟨rfl, hI44, hF44q, hp44_0, hp44_1⟩ := q44
        have hF44 := zFr.tr hF42 hF44q (by decide)
        simp only [Option.toList, List.cons_append, List.nil_append]
        have cr44_18_0_7 : zB (g44 18 0 7) (-1) 120 := hI44 18 0 7
        have ek44_18_0_4 : (g44 18 0 4).toInt = (g42 18 0 4).toInt := by rw [hF44q 18 0 4 rfl]
        have c44_18_0_4x : zB (g44 18 0 4) 0 11 := by first | exact zB.eqv ek44_18_0_4 c42_18_0_4x | (have q9 := c42_18_0_4x; constructor <;> omega)
        have c45x : zB (g44 18 0 7) 0 120 := by first | assumption | (constructor <;> omega)
        have kk7_44 : ∀ x j, g44 7 x j = f 7 x j := fun x j => (hF44q 7 x j rfl).trans (kk7_42 x j)
        refine z_aload_n (pc := 46) C dX7_readCrime_46 rfl ?_
        refine z_iconst (pc := 47) (v := 1) C dX7_readCrime_47 (by decide) ?_
        refine z_iload (pc := 48) C dX7_readCrime_48 rfl ?_
        refine z_mmax (pc := 50) C zk_X7_80 (Nat.le_of_ble_eq_true rfl) dX7_readCrime_50 ?_
        refine w_gp (fun v => v = imax (1 : Int32) v40) rfl (fun v46 q46 => ?_)
        have b46x : zB v46 1 1000 := by rw [q46]; exact (by have q9 := zmax_b (zB.of (x := 1) 1 (by decide)) b40x; constructor <;> omega)
        refine z_bipush (pc := 53) (v := 40) C dX7_readCrime_53 (by decide) ?_
        refine z_callV (pc := 55) C zk_X7_73 (k_X7_readNumber _ _ v46 (zB.wk (a' := (-2147483648)) (b' := 1000) b46x (by decide) (by decide)) 40 (zB.wk (a' := 0) (b' := 99) (zB.of (x := 40) 40 (by decide)) (by decide) (by decide)) hI44) rfl rfl (by decide) rfl rfl (Nat.le_of_ble_eq_true rfl) dX7_readCrime_55 (fun r47 g47 q47 => ?_)
        have qa47_40 : (40 : Int32).toInt = 40 := by decide
        obtain ⟨⟨v47, rfl, b47x⟩, hI47, hF47q, hp47_0, hp47_1, hp47_2⟩ := q47
        have hp47_0 := hp47_0 _ rfl
        have hp47_1 := hp47_1 _ rfl
        have hp47_2 := hp47_2 _ rfl
        have hF47 := zFr.tr hF44 hF47q (by decide)
        simp only [Option.toList, List.cons_append, List.nil_append]
        have cr47_18_0_7 : zB (g47 18 0 7) (-1) 120 := hI47 18 0 7
        have ek47_18_0_4 : (g47 18 0 4).toInt = (g44 18 0 4).toInt := by rw [hF47q 18 0 4 rfl]
        have c47_18_0_4x : zB (g47 18 0 4) 0 11 := by first | exact zB.eqv ek47_18_0_4 c44_18_0_4x | (have q9 := c44_18_0_4x; constructor <;> omega)
        have c48x : zB (g47 18 0 7) 0 120 := by first | assumption | (constructor <;> omega)
        have kk7_47 : ∀ x j, g47 7 x j = f 7 x j := fun x j => (hF47q 7 x j rfl).trans (kk7_44 x j)
        refine z_istore (pc := 58) C dX7_readCrime_58 (by rw [hn]; decide) rfl ?_
        refine z_aload_n (pc := 60) C dX7_readCrime_60 rfl ?_
        refine z_bipush (pc := 61) (v := 33) C dX7_readCrime_61 (by decide) ?_
        refine z_callV (pc := 63) C zk_X7_48 (w_X7_takes _ _ 33 (zB.wk (a' := 1) (b' := 126) (zB.of (x := 33) 33 (by decide)) (by decide) (by decide)) hI47) rfl rfl (by decide) rfl rfl (Nat.le_of_ble_eq_true rfl) dX7_readCrime_63 (fun r49 g49 q49 => ?_)
        obtain ⟨⟨v49, rfl, b49x⟩, hI49, hF49q⟩ := q49
        have hF49 := zFr.tr hF47 hF49q (by decide)
        simp only [Option.toList, List.cons_append, List.nil_append]
        have ek49_18_0_7 : (g49 18 0 7).toInt = (g47 18 0 7).toInt := by rw [hF49q 18 0 7 rfl]
        have c49_18_0_7x : zB (g49 18 0 7) 0 120 := by first | exact zB.eqv ek49_18_0_7 c48x | (have q9 := c48x; constructor <;> omega)
        have ek49_18_0_4 : (g49 18 0 4).toInt = (g47 18 0 4).toInt := by rw [hF49q 18 0 4 rfl]
        have c49_18_0_4x : zB (g49 18 0 4) 0 11 := by first | exact zB.eqv ek49_18_0_4 c47_18_0_4x | (have q9 := c47_18_0_4x; constructor <;> omega)
        have c50x : zB (g49 18 0 7) 0 120 := by first | assumption | (constructor <;> omega)
        have kk7_49 : ∀ x j, g49 7 x j = f 7 x j := fun x j => (hF49q 7 x j rfl).trans (kk7_47 x j)
        refine z_istore (pc := 66) C dX7_readCrime_66 (by rw [hn]; decide) rfl ?_
        refine z_aload_n (pc := 68) C dX7_readCrime_68 rfl ?_
        refine z_getI (pc := 69) C zf_X7_36 rfl rfl (by decide) dX7_readCrime_69 ?_
        refine w_gp (fun v => v = g49 18 0 7) rfl (fun v51 q51 => ?_)
        have e51 : v51.toInt = (g49 18 0 7).toInt := by rw [q51]
        have b51x : zB v51 0 120 := by first | exact zB.eqv e51 c50x | (have q9 := c50x; constructor <;> omega)
        refine z_iconst (pc := 72) (v := -1) C dX7_readCrime_72 (by decide) ?_
        refine z_icmp_ne (pc := 73) 116 C dX7_readCrime_73 (by decide) (fun h73_51 => ?_) (fun h73_51 => absurd h73_51 (by have q1 := b51x; have q2 := (zB.of (x := (-1)) (-1) (by decide)); first | (simp only [z32lt, z32le, z32eq]; omega) | (simp only [z32lt, z32le, z32eq] at *; omega)))
        exact z_vret (pc := 116) C hr dX7_readCrime_116 ⟨rfl, hI49, hF49, (by
                                                                                          refine Or.inl ⟨u38, ?_, hb38, ?_, (fun x j => kk7_49 x j)⟩
                                                                                          · unfold zCr zmkC; simp only [zbd, hc1, if_pos hc37, hc38]
                                                                                          · rw [z32eq, nI_toInt (by omega)]
                                                                                            omega)⟩
      · skip
        have h1838 : g38 18 0 3 = nI n := (hF38q 18 0 3 rfl).trans h1837
        have hTp38 : ∀ i, i < n → g38 19 0 i = T i := fun i hi => (hF38q 19 0 i rfl).trans (hTp37 i hi)
        have kk7_38 : ∀ x j, g38 7 x j = f 7 x j := fun x j => (hF38q 7 x j rfl).trans (kk7_37 x j)
        have fti38 : (g38 18 0 7).toInt = -1 := by rw [ft38]; decide
        have c53x : zB (g38 18 0 7) (-1) (-1) := by first | assumption | (constructor <;> omega)
        refine z_goto (pc := 20) 24 C dX7_readCrime_20 (by decide) ?_
        refine z_istore_n (pc := 24) C dX7_readCrime_24 (by rw [hn]; decide) rfl ?_
        refine z_aload_n (pc := 25) C dX7_readCrime_25 rfl ?_
        refine z_iconst (pc := 26) (v := 0) C dX7_readCrime_26 (by decide) ?_
        refine z_bipush (pc := 27) (v := 40) C dX7_readCrime_27 (by decide) ?_
        refine z_callV (pc := 29) C zk_X7_73 (e_X7_readNumber _ _ 0 (zB.wk (a' := 0) (b' := 40) (zB.of (x := 0) 0 (by decide)) (by decide) (by decide)) 40 (zB.wk (a' := 0) (b' := 99) (zB.of (x := 40) 40 (by decide)) (by decide) (by decide))  T n (u38) hN h1838 hTp38 hq38 hb38 ft38 hI38) rfl rfl (by decide) rfl rfl (Nat.le_of_ble_eq_true rfl) dX7_readCrime_29 (fun r54 g54 q54 => ?_)
        obtain ⟨⟨v54, rfl, b54x⟩, hI54, hF54q, hp54⟩ := q54
        have hp54 := hp54 _ rfl
        have hF54 := zFr.tr hF38 hF54q (by decide)
        simp only [Option.toList, List.cons_append, List.nil_append]
        have cr54_18_0_7 : zB (g54 18 0 7) (-1) 120 := hI54 18 0 7
        have ek54_18_0_4 : (g54 18 0 4).toInt = (g38 18 0 4).toInt := by rw [hF54q 18 0 4 rfl]
        have c54_18_0_4x : zB (g54 18 0 4) 0 11 := by first | exact zB.eqv ek54_18_0_4 c38_18_0_4x | (have q9 := c38_18_0_4x; constructor <;> omega)
        rcases hp54 with ⟨u54, hc54, hb54, hz54⟩ | ⟨u54, hc54, hq54, hb54, ft54, hlo54, hhi54⟩
        · skip
          have hd54 : znu T n 0 40 (u38) = _ := hc54
          have kk7_54 : ∀ x j, g54 7 x j = f 7 x j := fun x j => (hF54q 7 x j rfl).trans (kk7_38 x j)
          have hzi54 : (g54 18 0 7).toInt = (u54 : Int) := by rw [hz54]; exact nI_toInt (by omega)
          have c55x : zB (g54 18 0 7) 0 120 := by first | assumption | (constructor <;> omega)
          refine z_istore (pc := 32) C dX7_readCrime_32 (by rw [hn]; decide) rfl ?_
          refine z_aload_n (pc := 34) C dX7_readCrime_34 rfl ?_
          refine z_bipush (pc := 35) (v := 46) C dX7_readCrime_35 (by decide) ?_
          refine z_callV (pc := 37) C zk_X7_77 (k_X7_need _ _ 46 (zB.wk (a' := 1) (b' := 126) (zB.of (x := 46) 46 (by decide)) (by decide) (by decide)) hI54) rfl rfl (by decide) rfl rfl (Nat.le_of_ble_eq_true rfl) dX7_readCrime_37 (fun r56 g56 q56 => ?_)
          have qa56_46 : (46 : Int32).toInt = 46 := by decide
          obtain ⟨rfl, hI56, hF56q, hp56_0, hp56_1⟩ := q56
          have hF56 := zFr.tr hF54 hF56q (by decide)
          simp only [Option.toList, List.cons_append, List.nil_append]
          have cr56_18_0_7 : zB (g56 18 0 7) (-1) 120 := hI56 18 0 7
          have ek56_18_0_4 : (g56 18 0 4).toInt = (g54 18 0 4).toInt := by rw [hF56q 18 0 4 rfl]
          have c56_18_0_4x : zB (g56 18 0 4) 0 11 := by first | exact zB.eqv ek56_18_0_4 c54_18_0_4x | (have q9 := c54_18_0_4x; constructor <;> omega)
          have c57x : zB (g56 18 0 7) 0 120 := by first | assumption | (constructor <;> omega)
          have kk7_56 : ∀ x j, g56 7 x j = f 7 x j := fun x j => (hF56q 7 x j rfl).trans (kk7_54 x j)
          refine z_aload_n (pc := 40) C dX7_readCrime_40 rfl ?_
          refine z_bipush (pc := 41) (v := 46) C dX7_readCrime_41 (by decide) ?_
          refine z_callV (pc := 43) C zk_X7_77 (k_X7_need _ _ 46 (zB.wk (a' := 1) (b' := 126) (zB.of (x := 46) 46 (by decide)) (by decide) (by decide)) hI56) rfl rfl (by decide) rfl rfl (Nat.le_of_ble_eq_true rfl) dX7_readCrime_43 (fun r58 g58 q58 => ?_)
          have qa58_46 : (46 : Int32).toInt = 46 := by decide
          obtain ⟨rfl, hI58, hF58q, hp58_0, hp58_1⟩ := q58
          have hF58 := zFr.tr hF56 hF58q (by decide)
          simp only [Option.toList, List.cons_append, List.nil_append]
          have cr58_18_0_7 : zB (g58 18 0 7) (-1) 120 := hI58 18 0 7
          have ek58_18_0_4 : (g58 18 0 4).toInt = (g56 18 0 4).toInt := by rw [hF58q 18 0 4 rfl]
          have c58_18_0_4x : zB (g58 18 0 4) 0 11 := by first | exact zB.eqv ek58_18_0_4 c56_18_0_4x | (have q9 := c56_18_0_4x; constructor <;> omega)
          have c59x : zB (g58 18 0 7) 0 120 := by first | assumption | (constructor <;> omega)
          have kk7_58 : ∀ x j, g58 7 x j = f 7 x j := fun x j => (hF58q 7 x j rfl).trans (kk7_56 x j)
          refine z_aload_n (pc := 46) C dX7_readCrime_46 rfl ?_
          refine z_iconst (pc := 47) (v := 1) C dX7_readCrime_47 (by decide) ?_
          refine z_iload (pc := 48) C dX7_readCrime_48 rfl ?_
          refine z_mmax (pc := 50) C zk_X7_80 (Nat.le_of_ble_eq_true rfl) dX7_readCrime_50 ?_
          refine w_gp (fun v => v = imax (1 : Int32) v54) rfl (fun v60 q60 => ?_)
          have b60x : zB v60 1 1000 := by rw [q60]; exact (by have q9 := zmax_b (zB.of (x := 1) 1 (by decide)) b54x; constructor <;> omega)
          refine z_bipush (pc := 53) (v := 40) C dX7_readCrime_53 (by decide) ?_
          refine z_callV (pc := 55) C zk_X7_73 (k_X7_readNumber _ _ v60 (zB.wk (a' := (-2147483648)) (b' := 1000) b60x (by decide) (by decide)) 40 (zB.wk (a' := 0) (b' := 99) (zB.of (x := 40) 40 (by decide)) (by decide) (by decide)) hI58) rfl rfl (by decide) rfl rfl (Nat.le_of_ble_eq_true rfl) dX7_readCrime_55 (fun r61 g61 q61 => ?_)
          have qa61_40 : (40 : Int32).toInt = 40 := by decide
          obtain ⟨⟨v61, rfl, b61x⟩, hI61, hF61q, hp61_0, hp61_1, hp61_2⟩ := q61
          have hp61_0 := hp61_0 _ rfl
          have hp61_1 := hp61_1 _ rfl
          have hp61_2 := hp61_2 _ rfl
          have hF61 := zFr.tr hF58 hF61q (by decide)
          simp only [Option.toList, List.cons_append, List.nil_append]
          have cr61_18_0_7 : zB (g61 18 0 7) (-1) 120 := hI61 18 0 7
          have ek61_18_0_4 : (g61 18 0 4).toInt = (g58 18 0 4).toInt := by rw [hF61q 18 0 4 rfl]
          have c61_18_0_4x : zB (g61 18 0 4) 0 11 := by first | exact zB.eqv ek61_18_0_4 c58_18_0_4x | (have q9 := c58_18_0_4x; constructor <;> omega)
          have c62x : zB (g61 18 0 7) 0 120 := by first | assumption | (constructor <;> omega)
          have kk7_61 : ∀ x j, g61 7 x j = f 7 x j := fun x j => (hF61q 7 x j rfl).trans (kk7_58 x j)
          refine z_istore (pc := 58) C dX7_readCrime_58 (by rw [hn]; decide) rfl ?_
          refine z_aload_n (pc := 60) C dX7_readCrime_60 rfl ?_
          refine z_bipush (pc := 61) (v := 33) C dX7_readCrime_61 (by decide) ?_
          refine z_callV (pc := 63) C zk_X7_48 (w_X7_takes _ _ 33 (zB.wk (a' := 1) (b' := 126) (zB.of (x := 33) 33 (by decide)) (by decide) (by decide)) hI61) rfl rfl (by decide) rfl rfl (Nat.le_of_ble_eq_true rfl) dX7_readCrime_63 (fun r63 g63 q63 => ?_)
          obtain ⟨⟨v63, rfl, b63x⟩, hI63, hF63q⟩ := q63
          have hF63 := zFr.tr hF61 hF63q (by decide)
          simp only [Option.toList, List.cons_append, List.nil_append]
          have ek63_18_0_7 : (g63 18 0 7).toInt = (g61 18 0 7).toInt := by rw [hF63q 18 0 7 rfl]
          have c63_18_0_7x : zB (g63 18 0 7) 0 120 := by first | exact zB.eqv ek63_18_0_7 c62x | (have q9 := c62x; constructor <;> omega)
          have ek63_18_0_4 : (g63 18 0 4).toInt = (g61 18 0 4).toInt := by rw [hF63q 18 0 4 rfl]
          have c63_18_0_4x : zB (g63 18 0 4) 0 11 := by first | exact zB.eqv ek63_18_0_4 c61_18_0_4x | (have q9 := c61_18_0_4x; constructor <;> omega)
          have c64x : zB (g63 18 0 7) 0 120 := by first | assumption | (constructor <;> omega)
          have kk7_63 : ∀ x j, g63 7 x j = f 7 x j := fun x j => (hF63q 7 x j rfl).trans (kk7_61 x j)
          refine z_istore (pc := 66) C dX7_readCrime_66 (by rw [hn]; decide) rfl ?_
          refine z_aload_n (pc := 68) C dX7_readCrime_68 rfl ?_
          refine z_getI (pc := 69) C zf_X7_36 rfl rfl (by decide) dX7_readCrime_69 ?_
          refine w_gp (fun v => v = g63 18 0 7) rfl (fun v65 q65 => ?_)
          have e65 : v65.toInt = (g63 18 0 7).toInt := by rw [q65]
          have b65x : zB v65 0 120 := by first | exact zB.eqv e65 c64x | (have q9 := c64x; constructor <;> omega)
          refine z_iconst (pc := 72) (v := -1) C dX7_readCrime_72 (by decide) ?_
          refine z_icmp_ne (pc := 73) 116 C dX7_readCrime_73 (by decide) (fun h73_65 => ?_) (fun h73_65 => absurd h73_65 (by have q1 := b65x; have q2 := (zB.of (x := (-1)) (-1) (by decide)); first | (simp only [z32lt, z32le, z32eq]; omega) | (simp only [z32lt, z32le, z32eq] at *; omega)))
          exact z_vret (pc := 116) C hr dX7_readCrime_116 ⟨rfl, hI63, hF63, (by
                                                                                          refine Or.inl ⟨u54, ?_, hb54, ?_, (fun x j => kk7_63 x j)⟩
                                                                                          · unfold zCr zmkC; simp only [zbd, hc1, if_pos hc37, hc38, hd54]
                                                                                          · rw [z32eq, nI_toInt (by omega)]
                                                                                            omega)⟩
        · skip
          have hd54 : znu T n 0 40 (u38) = _ := hc54
          have h1854 : g54 18 0 3 = nI n := (hF54q 18 0 3 rfl).trans h1838
          have hTp54 : ∀ i, i < n → g54 19 0 i = T i := fun i hi => (hF54q 19 0 i rfl).trans (hTp38 i hi)
          have kk7_54 : ∀ x j, g54 7 x j = f 7 x j := fun x j => (hF54q 7 x j rfl).trans (kk7_38 x j)
          have fti54 : (g54 18 0 7).toInt = -1 := by rw [ft54]; decide
          have c67x : zB (g54 18 0 7) (-1) (-1) := by first | assumption | (constructor <;> omega)
          have bo54x : zB v54 0 40 := by have qk54_0 : (0 : Int32).toInt = 0 := (by decide); have qk54_1 : (40 : Int32).toInt = 40 := (by decide); constructor <;> omega
          refine z_istore (pc := 32) C dX7_readCrime_32 (by rw [hn]; decide) rfl ?_
          refine z_aload_n (pc := 34) C dX7_readCrime_34 rfl ?_
          refine z_bipush (pc := 35) (v := 46) C dX7_readCrime_35 (by decide) ?_
          refine z_callV (pc := 37) C zk_X7_77 (e_X7_need _ _ 46 (zB.wk (a' := 1) (b' := 126) (zB.of (x := 46) 46 (by decide)) (by decide) (by decide))  T n (u54) hN h1854 hTp54 hq54 hb54 ft54 hI54) rfl rfl (by decide) rfl rfl (Nat.le_of_ble_eq_true rfl) dX7_readCrime_37 (fun r68 g68 q68 => ?_)
          obtain ⟨rfl, hI68, hF68q, hp68⟩ := q68
          have hF68 := zFr.tr hF54 hF68q (by decide)
          simp only [Option.toList, List.cons_append, List.nil_append]
          have cr68_18_0_7 : zB (g68 18 0 7) (-1) 120 := hI68 18 0 7
          have ek68_18_0_4 : (g68 18 0 4).toInt = (g54 18 0 4).toInt := by rw [hF68q 18 0 4 rfl]
          have c68_18_0_4x : zB (g68 18 0 4) 0 11 := by first | exact zB.eqv ek68_18_0_4 c54_18_0_4x | (have q9 := c54_18_0_4x; constructor <;> omega)
          rcases hp68 with ⟨u68, hc68, hb68, hz68⟩ | ⟨u68, hc68, hq68, hb68, ft68⟩
          · skip
            have kk7_68 : ∀ x j, g68 7 x j = f 7 x j := fun x j => (hF68q 7 x j rfl).trans (kk7_54 x j)
            have hzi68 : (g68 18 0 7).toInt = (u68 : Int) := by rw [hz68]; exact nI_toInt (by omega)
            have c69x : zB (g68 18 0 7) 0 120 := by first | assumption | (constructor <;> omega)
            refine z_aload_n (pc := 40) C dX7_readCrime_40 rfl ?_
            refine z_bipush (pc := 41) (v := 46) C dX7_readCrime_41 (by decide) ?_
            refine z_callV (pc := 43) C zk_X7_77 (k_X7_need _ _ 46 (zB.wk (a' := 1) (b' := 126) (zB.of (x := 46) 46 (by decide)) (by decide) (by decide)) hI68) rfl rfl (by decide) rfl rfl (Nat.le_of_ble_eq_true rfl) dX7_readCrime_43 (fun r70 g70 q70 => ?_)
            have qa70_46 : (46 : Int32).toInt = 46 := by decide
            obtain ⟨rfl, hI70, hF70q, hp70_0, hp70_1⟩ := q70
            have hF70 := zFr.tr hF68 hF70q (by decide)
            simp only [Option.toList, List.cons_append, List.nil_append]
            have cr70_18_0_7 : zB (g70 18 0 7) (-1) 120 := hI70 18 0 7
            have ek70_18_0_4 : (g70 18 0 4).toInt = (g68 18 0 4).toInt := by rw [hF70q 18 0 4 rfl]
            have c70_18_0_4x : zB (g70 18 0 4) 0 11 := by first | exact zB.eqv ek70_18_0_4 c68_18_0_4x | (have q9 := c68_18_0_4x; constructor <;> omega)
            have c71x : zB (g70 18 0 7) 0 120 := by first | assumption | (constructor <;> omega)
            have kk7_70 : ∀ x j, g70 7 x j = f 7 x j := fun x j => (hF70q 7 x j rfl).trans (kk7_68 x j)
            refine z_aload_n (pc := 46) C dX7_readCrime_46 rfl ?_
            refine z_iconst (pc := 47) (v := 1) C dX7_readCrime_47 (by decide) ?_
            refine z_iload (pc := 48) C dX7_readCrime_48 rfl ?_
            refine z_mmax (pc := 50) C zk_X7_80 (Nat.le_of_ble_eq_true rfl) dX7_readCrime_50 ?_
            refine w_gp (fun v => v = imax (1 : Int32) v54) rfl (fun v72 q72 => ?_)
            have b72x : zB v72 1 40 := by rw [q72]; exact (by have q9 := zmax_b (zB.of (x := 1) 1 (by decide)) bo54x; constructor <;> omega)
            refine z_bipush (pc := 53) (v := 40) C dX7_readCrime_53 (by decide) ?_
            refine z_callV (pc := 55) C zk_X7_73 (k_X7_readNumber _ _ v72 (zB.wk (a' := (-2147483648)) (b' := 1000) b72x (by decide) (by decide)) 40 (zB.wk (a' := 0) (b' := 99) (zB.of (x := 40) 40 (by decide)) (by decide) (by decide)) hI70) rfl rfl (by decide) rfl rfl (Nat.le_of_ble_eq_true rfl) dX7_readCrime_55 (fun r73 g73 q73 => ?_)
            have qa73_40 : (40 : Int32).toInt = 40 := by decide
            obtain ⟨⟨v73, rfl, b73x⟩, hI73, hF73q, hp73_0, hp73_1, hp73_2⟩ := q73
            have hp73_0 := hp73_0 _ rfl
            have hp73_1 := hp73_1 _ rfl
            have hp73_2 := hp73_2 _ rfl
            have hF73 := zFr.tr hF70 hF73q (by decide)
            simp only [Option.toList, List.cons_append, List.nil_append]
            have cr73_18_0_7 : zB (g73 18 0 7) (-1) 120 := hI73 18 0 7
            have ek73_18_0_4 : (g73 18 0 4).toInt = (g70 18 0 4).toInt := by rw [hF73q 18 0 4 rfl]
            have c73_18_0_4x : zB (g73 18 0 4) 0 11 := by first | exact zB.eqv ek73_18_0_4 c70_18_0_4x | (have q9 := c70_18_0_4x; constructor <;> omega)
            have c74x : zB (g73 18 0 7) 0 120 := by first | assumption | (constructor <;> omega)
            have kk7_73 : ∀ x j, g73 7 x j = f 7 x j := fun x j => (hF73q 7 x j rfl).trans (kk7_70 x j)
            refine z_istore (pc := 58) C dX7_readCrime_58 (by rw [hn]; decide) rfl ?_
            refine z_aload_n (pc := 60) C dX7_readCrime_60 rfl ?_
            refine z_bipush (pc := 61) (v := 33) C dX7_readCrime_61 (by decide) ?_
            refine z_callV (pc := 63) C zk_X7_48 (w_X7_takes _ _ 33 (zB.wk (a' := 1) (b' := 126) (zB.of (x := 33) 33 (by decide)) (by decide) (by decide)) hI73) rfl rfl (by decide) rfl rfl (Nat.le_of_ble_eq_true rfl) dX7_readCrime_63 (fun r75 g75 q75 => ?_)
            obtain ⟨⟨v75, rfl, b75x⟩, hI75, hF75q⟩ := q75
            have hF75 := zFr.tr hF73 hF75q (by decide)
            simp only [Option.toList, List.cons_append, List.nil_append]
            have ek75_18_0_7 : (g75 18 0 7).toInt = (g73 18 0 7).toInt := by rw [hF75q 18 0 7 rfl]
            have c75_18_0_7x : zB (g75 18 0 7) 0 120 := by first | exact zB.eqv ek75_18_0_7 c74x | (have q9 := c74x; constructor <;> omega)
            have ek75_18_0_4 : (g75 18 0 4).toInt = (g73 18 0 4).toInt := by rw [hF75q 18 0 4 rfl]
            have c75_18_0_4x : zB (g75 18 0 4) 0 11 := by first | exact zB.eqv ek75_18_0_4 c73_18_0_4x | (have q9 := c73_18_0_4x; constructor <;> omega)
            have c76x : zB (g75 18 0 7) 0 120 := by first | assumption | (constructor <;> omega)
            have kk7_75 : ∀ x j, g75 7 x j = f 7 x j := fun x j => (hF75q 7 x j rfl).trans (kk7_73 x j)
            refine z_istore (pc := 66) C dX7_readCrime_66 (by rw [hn]; decide) rfl ?_
            refine z_aload_n (pc := 68) C dX7_readCrime_68 rfl ?_
            refine z_getI (pc := 69) C zf_X7_36 rfl rfl (by decide) dX7_readCrime_69 ?_
            refine w_gp (fun v => v = g75 18 0 7) rfl (fun v77 q77 => ?_)
            have e77 : v77.toInt = (g75 18 0 7).toInt := by rw [q77]
            have b77x : zB v77 0 120 := by first | exact zB.eqv e77 c76x | (have q9 := c76x; constructor <;> omega)
            refine z_iconst (pc := 72) (v := -1) C dX7_readCrime_72 (by decide) ?_
            refine z_icmp_ne (pc := 73) 116 C dX7_readCrime_73 (by decide) (fun h73_77 => ?_) (fun h73_77 => absurd h73_77 (by have q1 := b77x; have q2 := (zB.of (x := (-1)) (-1) (by decide)); first | (simp only [z32lt, z32le, z32eq]; omega) | (simp only [z32lt, z32le, z32eq] at *; omega)))
            exact z_vret (pc := 116) C hr dX7_readCrime_116 ⟨rfl, hI75, hF75, (by
                                                                                          refine Or.inl ⟨u68, ?_, hb68, ?_, (fun x j => kk7_75 x j)⟩
                                                                                          · unfold zCr zmkC; simp only [zbd, hc1, if_pos hc37, hc38, hd54, hc68]
                                                                                          · rw [z32eq, nI_toInt (by omega)]
                                                                                            omega)⟩
          · skip
            have h1868 : g68 18 0 3 = nI n := (hF68q 18 0 3 rfl).trans h1854
            have hTp68 : ∀ i, i < n → g68 19 0 i = T i := fun i hi => (hF68q 19 0 i rfl).trans (hTp54 i hi)
            have kk7_68 : ∀ x j, g68 7 x j = f 7 x j := fun x j => (hF68q 7 x j rfl).trans (kk7_54 x j)
            have fti68 : (g68 18 0 7).toInt = -1 := by rw [ft68]; decide
            have c79x : zB (g68 18 0 7) (-1) (-1) := by first | assumption | (constructor <;> omega)
            refine z_aload_n (pc := 40) C dX7_readCrime_40 rfl ?_
            refine z_bipush (pc := 41) (v := 46) C dX7_readCrime_41 (by decide) ?_
            refine z_callV (pc := 43) C zk_X7_77 (e_X7_need _ _ 46 (zB.wk (a' := 1) (b' := 126) (zB.of (x := 46) 46 (by decide)) (by decide) (by decide))  T n (u68) hN h1868 hTp68 hq68 hb68 ft68 hI68) rfl rfl (by decide) rfl rfl (Nat.le_of_ble_eq_true rfl) dX7_readCrime_43 (fun r80 g80 q80 => ?_)
            obtain ⟨rfl, hI80, hF80q, hp80⟩ := q80
            have hF80 := zFr.tr hF68 hF80q (by decide)
            simp only [Option.toList, List.cons_append, List.nil_append]
            have cr80_18_0_7 : zB (g80 18 0 7) (-1) 120 := hI80 18 0 7
            have ek80_18_0_4 : (g80 18 0 4).toInt = (g68 18 0 4).toInt := by rw [hF80q 18 0 4 rfl]
            have c80_18_0_4x : zB (g80 18 0 4) 0 11 := by first | exact zB.eqv ek80_18_0_4 c68_18_0_4x | (have q9 := c68_18_0_4x; constructor <;> omega)
            rcases hp80 with ⟨u80, hc80, hb80, hz80⟩ | ⟨u80, hc80, hq80, hb80, ft80⟩
            · skip
              have kk7_80 : ∀ x j, g80 7 x j = f 7 x j := fun x j => (hF80q 7 x j rfl).trans (kk7_68 x j)
              have hzi80 : (g80 18 0 7).toInt = (u80 : Int) := by rw [hz80]; exact nI_toInt (by omega)
              have c81x : zB (g80 18 0 7) 0 120 := by first | assumption | (constructor <;> omega)
              refine z_aload_n (pc := 46) C dX7_readCrime_46 rfl ?_
              refine z_iconst (pc := 47) (v := 1) C dX7_readCrime_47 (by decide) ?_
              refine z_iload (pc := 48) C dX7_readCrime_48 rfl ?_
              refine z_mmax (pc := 50) C zk_X7_80 (Nat.le_of_ble_eq_true rfl) dX7_readCrime_50 ?_
              refine w_gp (fun v => v = imax (1 : Int32) v54) rfl (fun v82 q82 => ?_)
              have b82x : zB v82 1 40 := by rw [q82]; exact (by have q9 := zmax_b (zB.of (x := 1) 1 (by decide)) bo54x; constructor <;> omega)
              refine z_bipush (pc := 53) (v := 40) C dX7_readCrime_53 (by decide) ?_
              refine z_callV (pc := 55) C zk_X7_73 (k_X7_readNumber _ _ v82 (zB.wk (a' := (-2147483648)) (b' := 1000) b82x (by decide) (by decide)) 40 (zB.wk (a' := 0) (b' := 99) (zB.of (x := 40) 40 (by decide)) (by decide) (by decide)) hI80) rfl rfl (by decide) rfl rfl (Nat.le_of_ble_eq_true rfl) dX7_readCrime_55 (fun r83 g83 q83 => ?_)
              have qa83_40 : (40 : Int32).toInt = 40 := by decide
              obtain ⟨⟨v83, rfl, b83x⟩, hI83, hF83q, hp83_0, hp83_1, hp83_2⟩ := q83
              have hp83_0 := hp83_0 _ rfl
              have hp83_1 := hp83_1 _ rfl
              have hp83_2 := hp83_2 _ rfl
              have hF83 := zFr.tr hF80 hF83q (by decide)
              simp only [Option.toList, List.cons_append, List.nil_append]
              have cr83_18_0_7 : zB (g83 18 0 7) (-1) 120 := hI83 18 0 7
              have ek83_18_0_4 : (g83 18 0 4).toInt = (g80 18 0 4).toInt := by rw [hF83q 18 0 4 rfl]
              have c83_18_0_4x : zB (g83 18 0 4) 0 11 := by first | exact zB.eqv ek83_18_0_4 c80_18_0_4x | (have q9 := c80_18_0_4x; constructor <;> omega)
              have c84x : zB (g83 18 0 7) 0 120 := by first | assumption | (constructor <;> omega)
              have kk7_83 : ∀ x j, g83 7 x j = f 7 x j := fun x j => (hF83q 7 x j rfl).trans (kk7_80 x j)
              refine z_istore (pc := 58) C dX7_readCrime_58 (by rw [hn]; decide) rfl ?_
              refine z_aload_n (pc := 60) C dX7_readCrime_60 rfl ?_
              refine z_bipush (pc := 61) (v := 33) C dX7_readCrime_61 (by decide) ?_
              refine z_callV (pc := 63) C zk_X7_48 (w_X7_takes _ _ 33 (zB.wk (a' := 1) (b' := 126) (zB.of (x := 33) 33 (by decide)) (by decide) (by decide)) hI83) rfl rfl (by decide) rfl rfl (Nat.le_of_ble_eq_true rfl) dX7_readCrime_63 (fun r85 g85 q85 => ?_)
              obtain ⟨⟨v85, rfl, b85x⟩, hI85, hF85q⟩ := q85
              have hF85 := zFr.tr hF83 hF85q (by decide)
              simp only [Option.toList, List.cons_append, List.nil_append]
              have ek85_18_0_7 : (g85 18 0 7).toInt = (g83 18 0 7).toInt := by rw [hF85q 18 0 7 rfl]
              have c85_18_0_7x : zB (g85 18 0 7) 0 120 := by first | exact zB.eqv ek85_18_0_7 c84x | (have q9 := c84x; constructor <;> omega)
              have ek85_18_0_4 : (g85 18 0 4).toInt = (g83 18 0 4).toInt := by rw [hF85q 18 0 4 rfl]
              have c85_18_0_4x : zB (g85 18 0 4) 0 11 := by first | exact zB.eqv ek85_18_0_4 c83_18_0_4x | (have q9 := c83_18_0_4x; constructor <;> omega)
              have c86x : zB (g85 18 0 7) 0 120 := by first | assumption | (constructor <;> omega)
              have kk7_85 : ∀ x j, g85 7 x j = f 7 x j := fun x j => (hF85q 7 x j rfl).trans (kk7_83 x j)
              refine z_istore (pc := 66) C dX7_readCrime_66 (by rw [hn]; decide) rfl ?_
              refine z_aload_n (pc := 68) C dX7_readCrime_68 rfl ?_
              refine z_getI (pc := 69) C zf_X7_36 rfl rfl (by decide) dX7_readCrime_69 ?_
              refine w_gp (fun v => v = g85 18 0 7) rfl (fun v87 q87 => ?_)
              have e87 : v87.toInt = (g85 18 0 7).toInt := by rw [q87]
              have b87x : zB v87 0 120 := by first | exact zB.eqv e87 c86x | (have q9 := c86x; constructor <;> omega)
              refine z_iconst (pc := 72) (v := -1) C dX7_readCrime_72 (by decide) ?_
              refine z_icmp_ne (pc := 73) 116 C dX7_readCrime_73 (by decide) (fun h73_87 => ?_) (fun h73_87 => absurd h73_87 (by have q1 := b87x; have q2 := (zB.of (x := (-1)) (-1) (by decide)); first | (simp only [z32lt, z32le, z32eq]; omega) | (simp only [z32lt, z32le, z32eq] at *; omega)))
              exact z_vret (pc := 116) C hr dX7_readCrime_116 ⟨rfl, hI85, hF85, (by
                                                                                          refine Or.inl ⟨u80, ?_, hb80, ?_, (fun x j => kk7_85 x j)⟩
                                                                                          · unfold zCr zmkC; simp only [zbd, hc1, if_pos hc37, hc38, hd54, hc68, hc80]
                                                                                          · rw [z32eq, nI_toInt (by omega)]
                                                                                            omega)⟩
            · skip
              have h1880 : g80 18 0 3 = nI n := (hF80q 18 0 3 rfl).trans h1868
              have hTp80 : ∀ i, i < n → g80 19 0 i = T i := fun i hi => (hF80q 19 0 i rfl).trans (hTp68 i hi)
              have kk7_80 : ∀ x j, g80 7 x j = f 7 x j := fun x j => (hF80q 7 x j rfl).trans (kk7_68 x j)
              have fti80 : (g80 18 0 7).toInt = -1 := by rw [ft80]; decide
              have c89x : zB (g80 18 0 7) (-1) (-1) := by first | assumption | (constructor <;> omega)
              refine z_aload_n (pc := 46) C dX7_readCrime_46 rfl ?_
              refine z_iconst (pc := 47) (v := 1) C dX7_readCrime_47 (by decide) ?_
              refine z_iload (pc := 48) C dX7_readCrime_48 rfl ?_
              refine z_mmax (pc := 50) C zk_X7_80 (Nat.le_of_ble_eq_true rfl) dX7_readCrime_50 ?_
              refine w_gp (fun v => v = imax (1 : Int32) v54) rfl (fun v90 q90 => ?_)
              have b90x : zB v90 1 40 := by rw [q90]; exact (by have q9 := zmax_b (zB.of (x := 1) 1 (by decide)) bo54x; constructor <;> omega)
              refine z_bipush (pc := 53) (v := 40) C dX7_readCrime_53 (by decide) ?_
              refine z_callV (pc := 55) C zk_X7_73 (e_X7_readNumber _ _ v90 (zB.wk (a' := 0) (b' := 40) b90x (by decide) (by decide)) 40 (zB.wk (a' := 0) (b' := 99) (zB.of (x := 40) 40 (by decide)) (by decide) (by decide))  T n (u80) hN h1880 hTp80 hq80 hb80 ft80 hI80) rfl rfl (by decide) rfl rfl (Nat.le_of_ble_eq_true rfl) dX7_readCrime_55 (fun r91 g91 q91 => ?_)
              obtain ⟨⟨v91, rfl, b91x⟩, hI91, hF91q, hp91⟩ := q91
              have hp91 := hp91 _ rfl
              have hF91 := zFr.tr hF80 hF91q (by decide)
              simp only [Option.toList, List.cons_append, List.nil_append]
              have cr91_18_0_7 : zB (g91 18 0 7) (-1) 120 := hI91 18 0 7
              have ek91_18_0_4 : (g91 18 0 4).toInt = (g80 18 0 4).toInt := by rw [hF91q 18 0 4 rfl]
              have c91_18_0_4x : zB (g91 18 0 4) 0 11 := by first | exact zB.eqv ek91_18_0_4 c80_18_0_4x | (have q9 := c80_18_0_4x; constructor <;> omega)
              rcases hp91 with ⟨u91, hc91, hb91, hz91⟩ | ⟨u91, hc91, hq91, hb91, ft91, hlo91, hhi91⟩
              · skip
                have hd91 : znu T n v90.toInt 40 (u80) = _ := hc91
                have kk7_91 : ∀ x j, g91 7 x j = f 7 x j := fun x j => (hF91q 7 x j rfl).trans (kk7_80 x j)
                have hzi91 : (g91 18 0 7).toInt = (u91 : Int) := by rw [hz91]; exact nI_toInt (by omega)
                have c92x : zB (g91 18 0 7) 0 120 := by first | assumption | (constructor <;> omega)
                refine z_istore (pc := 58) C dX7_readCrime_58 (by rw [hn]; decide) rfl ?_
                refine z_aload_n (pc := 60) C dX7_readCrime_60 rfl ?_
                refine z_bipush (pc := 61) (v := 33) C dX7_readCrime_61 (by decide) ?_
                refine z_callV (pc := 63) C zk_X7_48 (w_X7_takes _ _ 33 (zB.wk (a' := 1) (b' := 126) (zB.of (x := 33) 33 (by decide)) (by decide) (by decide)) hI91) rfl rfl (by decide) rfl rfl (Nat.le_of_ble_eq_true rfl) dX7_readCrime_63 (fun r93 g93 q93 => ?_)
                obtain ⟨⟨v93, rfl, b93x⟩, hI93, hF93q⟩ := q93
                have hF93 := zFr.tr hF91 hF93q (by decide)
                simp only [Option.toList, List.cons_append, List.nil_append]
                have ek93_18_0_7 : (g93 18 0 7).toInt = (g91 18 0 7).toInt := by rw [hF93q 18 0 7 rfl]
                have c93_18_0_7x : zB (g93 18 0 7) 0 120 := by first | exact zB.eqv ek93_18_0_7 c92x | (have q9 := c92x; constructor <;> omega)
                have ek93_18_0_4 : (g93 18 0 4).toInt = (g91 18 0 4).toInt := by rw [hF93q 18 0 4 rfl]
                have c93_18_0_4x : zB (g93 18 0 4) 0 11 := by first | exact zB.eqv ek93_18_0_4 c91_18_0_4x | (have q9 := c91_18_0_4x; constructor <;> omega)
                have c94x : zB (g93 18 0 7) 0 120 := by first | assumption | (constructor <;> omega)
                have kk7_93 : ∀ x j, g93 7 x j = f 7 x j := fun x j => (hF93q 7 x j rfl).trans (kk7_91 x j)
                refine z_istore (pc := 66) C dX7_readCrime_66 (by rw [hn]; decide) rfl ?_
                refine z_aload_n (pc := 68) C dX7_readCrime_68 rfl ?_
                refine z_getI (pc := 69) C zf_X7_36 rfl rfl (by decide) dX7_readCrime_69 ?_
                refine w_gp (fun v => v = g93 18 0 7) rfl (fun v95 q95 => ?_)
                have e95 : v95.toInt = (g93 18 0 7).toInt := by rw [q95]
                have b95x : zB v95 0 120 := by first | exact zB.eqv e95 c94x | (have q9 := c94x; constructor <;> omega)
                refine z_iconst (pc := 72) (v := -1) C dX7_readCrime_72 (by decide) ?_
                refine z_icmp_ne (pc := 73) 116 C dX7_readCrime_73 (by decide) (fun h73_95 => ?_) (fun h73_95 => absurd h73_95 (by have q1 := b95x; have q2 := (zB.of (x := (-1)) (-1) (by decide)); first | (simp only [z32lt, z32le, z32eq]; omega) | (simp only [z32lt, z32le, z32eq] at *; omega)))
                exact z_vret (pc := 116) C hr dX7_readCrime_116 ⟨rfl, hI93, hF93, (by
                                                                                          have em : v90.toInt = max 1 v54.toInt := by rw [q90, imax_e]; rfl
                                                                                          rw [em] at hd91
                                                                                          refine Or.inl ⟨u91, ?_, hb91, ?_, (fun x j => kk7_93 x j)⟩
                                                                                          · unfold zCr zmkC; simp only [zbd, hc1, if_pos hc37, hc38, hd54, hc68, hc80, hd91]
                                                                                          · rw [z32eq, nI_toInt (by omega)]
                                                                                            omega)⟩
              · skip
                have hd91 : znu T n v90.toInt 40 (u80) = _ := hc91
                have h1891 : g91 18 0 3 = nI n := (hF91q 18 0 3 rfl).trans h1880
                have hTp91 : ∀ i, i < n → g91 19 0 i = T i := fun i hi => (hF91q 19 0 i rfl).trans (hTp80 i hi)
                have kk7_91 : ∀ x j, g91 7 x j = f 7 x j := fun x j => (hF91q 7 x j rfl).trans (kk7_80 x j)
                have fti91 : (g91 18 0 7).toInt = -1 := by rw [ft91]; decide
                have c97x : zB (g91 18 0 7) (-1) (-1) := by first | assumption | (constructor <;> omega)
                have bo91x : zB v91 1 40 := by have qk91_1 : (40 : Int32).toInt = 40 := (by decide); constructor <;> omega
                refine z_istore (pc := 58) C dX7_readCrime_58 (by rw [hn]; decide) rfl ?_
                refine z_aload_n (pc := 60) C dX7_readCrime_60 rfl ?_
                refine z_bipush (pc := 61) (v := 33) C dX7_readCrime_61 (by decide) ?_
                refine z_callV (pc := 63) C zk_X7_48 (e_X7_takes _ _ 33 (zB.wk (a' := 1) (b' := 126) (zB.of (x := 33) 33 (by decide)) (by decide) (by decide)) T n (u91) hN h1891 hTp91 hq91 hb91 hI91) rfl rfl (by decide) rfl rfl (Nat.le_of_ble_eq_true rfl) dX7_readCrime_63 (fun r98 g98 q98 => ?_)
                obtain ⟨⟨v98, rfl, b98x⟩, hI98, hF98q, hp98⟩ := q98
                have hp98 := hp98 _ rfl
                have hF98 := zFr.tr hF91 hF98q (by decide)
                simp only [Option.toList, List.cons_append, List.nil_append]
                have ek98_18_0_7 : (g98 18 0 7).toInt = (g91 18 0 7).toInt := by rw [hF98q 18 0 7 rfl]
                have c98_18_0_7x : zB (g98 18 0 7) (-1) (-1) := by first | exact zB.eqv ek98_18_0_7 c97x | (have q9 := c97x; constructor <;> omega)
                have ek98_18_0_4 : (g98 18 0 4).toInt = (g91 18 0 4).toInt := by rw [hF98q 18 0 4 rfl]
                have c98_18_0_4x : zB (g98 18 0 4) 0 11 := by first | exact zB.eqv ek98_18_0_4 c91_18_0_4x | (have q9 := c91_18_0_4x; constructor <;> omega)
                have h1898 : g98 18 0 3 = nI n := (hF98q 18 0 3 rfl).trans h1891
                have hTp98 : ∀ i, i < n → g98 19 0 i = T i := fun i hi => (hF98q 19 0 i rfl).trans (hTp91 i hi)
                have ft98 : g98 18 0 7 = -1 := (hF98q 18 0 7 rfl).trans ft91
                have kk7_98 : ∀ x j, g98 7 x j = f 7 x j := fun x j => (hF98q 7 x j rfl).trans (kk7_91 x j)
                rcases hp98 with ⟨hc98, rfl, hq98, hb98⟩ | ⟨hc98, rfl, hq98⟩
                · skip
                  refine z_istore (pc := 66) C dX7_readCrime_66 (by rw [hn]; decide) rfl ?_
                  refine z_aload_n (pc := 68) C dX7_readCrime_68 rfl ?_
                  refine z_getI (pc := 69) C zf_X7_36 rfl rfl (by decide) dX7_readCrime_69 ?_
                  refine w_gp (fun v => v = g98 18 0 7) rfl (fun v99 q99 => ?_)
                  have e99 : v99.toInt = (g98 18 0 7).toInt := by rw [q99]
                  have b99x : zB v99 (-1) (-1) := by first | exact zB.eqv e99 c98_18_0_7x | (have q9 := c98_18_0_7x; constructor <;> omega)
                  refine z_iconst (pc := 72) (v := -1) C dX7_readCrime_72 (by decide) ?_
                  refine z_icmp_ne (pc := 73) 116 C dX7_readCrime_73 (by decide) (fun h73_99 => absurd h73_99 (by have q1 := b99x; have q2 := (zB.of (x := (-1)) (-1) (by decide)); first | (simp only [z32lt, z32le, z32eq]; omega) | (simp only [z32lt, z32le, z32eq] at *; omega))) (fun h73_99 => ?_)
                  refine z_aload_n (pc := 76) C dX7_readCrime_76 rfl ?_
                  refine z_getI (pc := 77) C zf_X7_39 rfl rfl (by decide) dX7_readCrime_77 ?_
                  refine w_gp (fun v => v = g98 18 0 4) rfl (fun v101 q101 => ?_)
                  have e101 : v101.toInt = (g98 18 0 4).toInt := by rw [q101]
                  have b101x : zB v101 0 11 := by first | exact zB.eqv e101 c98_18_0_4x | (have q9 := c98_18_0_4x; constructor <;> omega)
                  refine z_bipush (pc := 80) (v := 12) C dX7_readCrime_80 (by decide) ?_
                  refine z_icmp_ge (pc := 82) 116 C dX7_readCrime_82 (by decide) (fun h82_101 => absurd h82_101 (by have q1 := b101x; have q2 := (zB.of (x := 12) 12 (by decide)); first | (simp only [z32lt, z32le, z32eq]; omega) | (simp only [z32lt, z32le, z32eq] at *; omega))) (fun h82_101 => ?_)
                  refine z_aload_n (pc := 85) C dX7_readCrime_85 rfl ?_
                  refine z_getR (pc := 86) C zf_X7_17 rfl rfl (by decide) dX7_readCrime_86 ?_
                  refine z_aload_n (pc := 89) C dX7_readCrime_89 rfl ?_
                  refine z_getI (pc := 90) C zf_X7_39 rfl rfl (by decide) dX7_readCrime_90 ?_
                  refine w_gp (fun v => v = g98 18 0 4) rfl (fun v103 q103 => ?_)
                  have e103 : v103.toInt = (g98 18 0 4).toInt := by rw [q103]
                  have b103x : zB v103 0 11 := by first | exact zB.eqv e103 c98_18_0_4x | (have q9 := c98_18_0_4x; constructor <;> omega)
                  refine z_aald (pc := 93) C rfl ⟨rfl, by decide⟩ (by decide) (zIx b103x (by decide) (by decide)) dX7_readCrime_93 ?_
                  refine w_grx (by have hq := zN b103x (by decide); show 48 + v103.toNatClampNeg < 60; omega) (fun m104 q104r h104x => ?_)
                  have q104r : m104 = 48 + v103.toNatClampNeg := q104r
                  have k104r : v103.toNatClampNeg = v103.toInt.toNat := rfl
                  refine z_iload_n (pc := 94) C dX7_readCrime_94 rfl ?_
                  refine z_iload_n (pc := 95) C dX7_readCrime_95 rfl ?_
                  refine z_iload_n (pc := 96) C dX7_readCrime_96 rfl ?_
                  refine z_iload (pc := 97) C dX7_readCrime_97 rfl ?_
                  refine z_iload (pc := 99) C dX7_readCrime_99 rfl ?_
                  refine z_iload (pc := 101) C dX7_readCrime_101 rfl ?_
                  refine z_callV (pc := 103) C zk_X7_85 (x_X0_tell _ _ m104 h104x a1 b1 v1 b1x v38 b38x v54 bo54x v91 (zB.wk (a' := 0) (b' := 40) bo91x (by decide) (by decide)) 1 (zB.wk (a' := 0) (b' := 1) (zB.of (x := 1) 1 (by decide)) (by decide) (by decide)) hI98) rfl rfl h104x rfl rfl (Nat.le_of_ble_eq_true rfl) dX7_readCrime_103 (fun r105 g105 q105 => ?_)
                  have qa105_1 : (1 : Int32).toInt = 1 := by decide
                  obtain ⟨rfl, hI105, hF105q, hp105_0⟩ := q105
                  have hF105 := zFr.tr hF98 hF105q (by decide)
                  simp only [Option.toList, List.cons_append, List.nil_append]
                  have ek105_18_0_7 : (g105 18 0 7).toInt = (g98 18 0 7).toInt := by rw [hF105q 18 0 7 rfl]
                  have c105_18_0_7x : zB (g105 18 0 7) (-1) (-1) := by first | exact zB.eqv ek105_18_0_7 c98_18_0_7x | (have q9 := c98_18_0_7x; constructor <;> omega)
                  have ek105_18_0_4 : (g105 18 0 4).toInt = (g98 18 0 4).toInt := by rw [hF105q 18 0 4 rfl]
                  have c105_18_0_4x : zB (g105 18 0 4) 0 11 := by first | exact zB.eqv ek105_18_0_4 c98_18_0_4x | (have q9 := c98_18_0_4x; constructor <;> omega)
                  refine z_aload_n (pc := 106) C dX7_readCrime_106 rfl ?_
                  refine z_dupr (pc := 107) C dX7_readCrime_107 ?_
                  refine z_getI (pc := 108) C zf_X7_39 rfl rfl (by decide) dX7_readCrime_108 ?_
                  refine w_gp (fun v => v = g105 18 0 4) rfl (fun v106 q106 => ?_)
                  have e106 : v106.toInt = (g105 18 0 4).toInt := by rw [q106]
                  have b106x : zB v106 0 11 := by first | exact zB.eqv e106 c105_18_0_4x | (have q9 := c105_18_0_4x; constructor <;> omega)
                  refine z_iconst (pc := 111) (v := 1) C dX7_readCrime_111 (by decide) ?_
                  refine z_iadd (pc := 112) C dX7_readCrime_112 ?_
                  refine w_gp (fun v => v = v106 + (1 : Int32)) rfl (fun v107 q107 => ?_)
                  have e107 : v107.toInt = v106.toInt + 1 := by rw [q107]; exact (zadd_eb b106x (zB.of (x := 1) 1 (by decide)) (by decide) (by decide))
                  have b107x : zB v107 1 12 := by have q1 := b106x; have q2 := (zB.of (x := 1) 1 (by decide)); constructor <;> omega
                  refine z_putI (pc := 113) C zf_X7_39 zp_7_4 rfl rfl (by decide) dX7_readCrime_113 ?_
                  refine w_memx hI105 hF105 (zB.wk (a' := 0) (b' := 12) b107x (by decide) (by decide)) rfl (fun g108 qm108 hI108 hF108 hq108 hx108 => ?_)
                  have ek108_18_0_7 : (g108 18 0 7).toInt = (g105 18 0 7).toInt := by rw [hq108 18 0 7 (by omega)]
                  have c108_18_0_7x : zB (g108 18 0 7) (-1) (-1) := by first | exact zB.eqv ek108_18_0_7 c105_18_0_7x | (have q9 := c105_18_0_7x; constructor <;> omega)
                  have ec108 : (g108 18 0 4).toInt = v107.toInt := by rw [hx108]
                  have c108x : zB (g108 18 0 4) 1 12 := by first | exact zB.eqv ec108 b107x | (have q9 := b107x; constructor <;> omega)
                  exact z_vret (pc := 116) C hr dX7_readCrime_116 ⟨rfl, hI108, hF108, (by
                                                                                          have em : v90.toInt = max 1 v54.toInt := by rw [q90, imax_e]; rfl
                                                                                          rw [em] at hd91
                                                                                          have hnn : m104 = 48 + (f 18 0 4).toInt.toNat := by omega
                                                                                          have hg := hp105_0
                                                                                          rw [hnn] at hg
                                                                                          refine Or.inr ⟨_, zc6 a1 v1 v38 v54 v91 (1 : Int32), ?_, ?_, hb98, ?_, ?_, ?_, ?_⟩
                                                                                          · unfold zCr zmkC; simp only [zbd, hc1, if_pos hc37, hc38, hd54, hc68, hc80, hd91, if_pos hc98]
                                                                                          · rw [qm108, zup_ne _ _ (by omega), hg]; exact hq98
                                                                                          · rw [qm108, zup_ne _ _ (by omega), hg]; exact ft98
                                                                                          · rw [z32eq]
                                                                                            have e1 : (f 18 0 4 + 1 : Int32).toInt = (f 18 0 4).toInt + 1 := zadd_eb pf18_0_4 (zB.of (x := 1) 1 (by decide)) (by decide) (by decide)
                                                                                            omega
                                                                                          · intro j hj
                                                                                            rw [qm108, zup_ne _ _ (by omega), hg]
                                                                                            rcases (show j = 0 ∨ j = 1 ∨ j = 2 ∨ j = 3 ∨ j = 4 ∨ j = 5 by omega) with rfl | rfl | rfl | rfl | rfl | rfl <;> simp [zup, zc6]
                                                                                          · intro x j hj hx
                                                                                            rw [qm108, zup_ne _ _ (by omega), hg, zup_ne _ _ (by omega), zup_ne _ _ (by omega), zup_ne _ _ (by omega), zup_ne _ _ (by omega), zup_ne _ _ (by omega), zup_ne _ _ (by omega)]
                                                                                            exact kk7_98 x j)⟩
                · skip
                  have hb98 : zsp T n (u91) ≤ n := zsp_len hb91
                  refine z_istore (pc := 66) C dX7_readCrime_66 (by rw [hn]; decide) rfl ?_
                  refine z_aload_n (pc := 68) C dX7_readCrime_68 rfl ?_
                  refine z_getI (pc := 69) C zf_X7_36 rfl rfl (by decide) dX7_readCrime_69 ?_
                  refine w_gp (fun v => v = g98 18 0 7) rfl (fun v109 q109 => ?_)
                  have e109 : v109.toInt = (g98 18 0 7).toInt := by rw [q109]
                  have b109x : zB v109 (-1) (-1) := by first | exact zB.eqv e109 c98_18_0_7x | (have q9 := c98_18_0_7x; constructor <;> omega)
                  refine z_iconst (pc := 72) (v := -1) C dX7_readCrime_72 (by decide) ?_
                  refine z_icmp_ne (pc := 73) 116 C dX7_readCrime_73 (by decide) (fun h73_109 => absurd h73_109 (by have q1 := b109x; have q2 := (zB.of (x := (-1)) (-1) (by decide)); first | (simp only [z32lt, z32le, z32eq]; omega) | (simp only [z32lt, z32le, z32eq] at *; omega))) (fun h73_109 => ?_)
                  refine z_aload_n (pc := 76) C dX7_readCrime_76 rfl ?_
                  refine z_getI (pc := 77) C zf_X7_39 rfl rfl (by decide) dX7_readCrime_77 ?_
                  refine w_gp (fun v => v = g98 18 0 4) rfl (fun v111 q111 => ?_)
                  have e111 : v111.toInt = (g98 18 0 4).toInt := by rw [q111]
                  have b111x : zB v111 0 11 := by first | exact zB.eqv e111 c98_18_0_4x | (have q9 := c98_18_0_4x; constructor <;> omega)
                  refine z_bipush (pc := 80) (v := 12) C dX7_readCrime_80 (by decide) ?_
                  refine z_icmp_ge (pc := 82) 116 C dX7_readCrime_82 (by decide) (fun h82_111 => absurd h82_111 (by have q1 := b111x; have q2 := (zB.of (x := 12) 12 (by decide)); first | (simp only [z32lt, z32le, z32eq]; omega) | (simp only [z32lt, z32le, z32eq] at *; omega))) (fun h82_111 => ?_)
                  refine z_aload_n (pc := 85) C dX7_readCrime_85 rfl ?_
                  refine z_getR (pc := 86) C zf_X7_17 rfl rfl (by decide) dX7_readCrime_86 ?_
                  refine z_aload_n (pc := 89) C dX7_readCrime_89 rfl ?_
                  refine z_getI (pc := 90) C zf_X7_39 rfl rfl (by decide) dX7_readCrime_90 ?_
                  refine w_gp (fun v => v = g98 18 0 4) rfl (fun v113 q113 => ?_)
                  have e113 : v113.toInt = (g98 18 0 4).toInt := by rw [q113]
                  have b113x : zB v113 0 11 := by first | exact zB.eqv e113 c98_18_0_4x | (have q9 := c98_18_0_4x; constructor <;> omega)
                  refine z_aald (pc := 93) C rfl ⟨rfl, by decide⟩ (by decide) (zIx b113x (by decide) (by decide)) dX7_readCrime_93 ?_
                  refine w_grx (by have hq := zN b113x (by decide); show 48 + v113.toNatClampNeg < 60; omega) (fun m114 q114r h114x => ?_)
                  have q114r : m114 = 48 + v113.toNatClampNeg := q114r
                  have k114r : v113.toNatClampNeg = v113.toInt.toNat := rfl
                  refine z_iload_n (pc := 94) C dX7_readCrime_94 rfl ?_
                  refine z_iload_n (pc := 95) C dX7_readCrime_95 rfl ?_
                  refine z_iload_n (pc := 96) C dX7_readCrime_96 rfl ?_
                  refine z_iload (pc := 97) C dX7_readCrime_97 rfl ?_
                  refine z_iload (pc := 99) C dX7_readCrime_99 rfl ?_
                  refine z_iload (pc := 101) C dX7_readCrime_101 rfl ?_
                  refine z_callV (pc := 103) C zk_X7_85 (x_X0_tell _ _ m114 h114x a1 b1 v1 b1x v38 b38x v54 bo54x v91 (zB.wk (a' := 0) (b' := 40) bo91x (by decide) (by decide)) 0 (zB.wk (a' := 0) (b' := 1) (zB.of (x := 0) 0 (by decide)) (by decide) (by decide)) hI98) rfl rfl h114x rfl rfl (Nat.le_of_ble_eq_true rfl) dX7_readCrime_103 (fun r115 g115 q115 => ?_)
                  have qa115_0 : (0 : Int32).toInt = 0 := by decide
                  obtain ⟨rfl, hI115, hF115q, hp115_0⟩ := q115
                  have hF115 := zFr.tr hF98 hF115q (by decide)
                  simp only [Option.toList, List.cons_append, List.nil_append]
                  have ek115_18_0_7 : (g115 18 0 7).toInt = (g98 18 0 7).toInt := by rw [hF115q 18 0 7 rfl]
                  have c115_18_0_7x : zB (g115 18 0 7) (-1) (-1) := by first | exact zB.eqv ek115_18_0_7 c98_18_0_7x | (have q9 := c98_18_0_7x; constructor <;> omega)
                  have ek115_18_0_4 : (g115 18 0 4).toInt = (g98 18 0 4).toInt := by rw [hF115q 18 0 4 rfl]
                  have c115_18_0_4x : zB (g115 18 0 4) 0 11 := by first | exact zB.eqv ek115_18_0_4 c98_18_0_4x | (have q9 := c98_18_0_4x; constructor <;> omega)
                  refine z_aload_n (pc := 106) C dX7_readCrime_106 rfl ?_
                  refine z_dupr (pc := 107) C dX7_readCrime_107 ?_
                  refine z_getI (pc := 108) C zf_X7_39 rfl rfl (by decide) dX7_readCrime_108 ?_
                  refine w_gp (fun v => v = g115 18 0 4) rfl (fun v116 q116 => ?_)
                  have e116 : v116.toInt = (g115 18 0 4).toInt := by rw [q116]
                  have b116x : zB v116 0 11 := by first | exact zB.eqv e116 c115_18_0_4x | (have q9 := c115_18_0_4x; constructor <;> omega)
                  refine z_iconst (pc := 111) (v := 1) C dX7_readCrime_111 (by decide) ?_
                  refine z_iadd (pc := 112) C dX7_readCrime_112 ?_
                  refine w_gp (fun v => v = v116 + (1 : Int32)) rfl (fun v117 q117 => ?_)
                  have e117 : v117.toInt = v116.toInt + 1 := by rw [q117]; exact (zadd_eb b116x (zB.of (x := 1) 1 (by decide)) (by decide) (by decide))
                  have b117x : zB v117 1 12 := by have q1 := b116x; have q2 := (zB.of (x := 1) 1 (by decide)); constructor <;> omega
                  refine z_putI (pc := 113) C zf_X7_39 zp_7_4 rfl rfl (by decide) dX7_readCrime_113 ?_
                  refine w_memx hI115 hF115 (zB.wk (a' := 0) (b' := 12) b117x (by decide) (by decide)) rfl (fun g118 qm118 hI118 hF118 hq118 hx118 => ?_)
                  have ek118_18_0_7 : (g118 18 0 7).toInt = (g115 18 0 7).toInt := by rw [hq118 18 0 7 (by omega)]
                  have c118_18_0_7x : zB (g118 18 0 7) (-1) (-1) := by first | exact zB.eqv ek118_18_0_7 c115_18_0_7x | (have q9 := c115_18_0_7x; constructor <;> omega)
                  have ec118 : (g118 18 0 4).toInt = v117.toInt := by rw [hx118]
                  have c118x : zB (g118 18 0 4) 1 12 := by first | exact zB.eqv ec118 b117x | (have q9 := b117x; constructor <;> omega)
                  exact z_vret (pc := 116) C hr dX7_readCrime_116 ⟨rfl, hI118, hF118, (by
                                                                                          have em : v90.toInt = max 1 v54.toInt := by rw [q90, imax_e]; rfl
                                                                                          rw [em] at hd91
                                                                                          have hnn : m114 = 48 + (f 18 0 4).toInt.toNat := by omega
                                                                                          have hg := hp115_0
                                                                                          rw [hnn] at hg
                                                                                          refine Or.inr ⟨_, zc6 a1 v1 v38 v54 v91 (0 : Int32), ?_, ?_, hb98, ?_, ?_, ?_, ?_⟩
                                                                                          · unfold zCr zmkC; simp only [zbd, hc1, if_pos hc37, hc38, hd54, hc68, hc80, hd91, if_neg hc98]
                                                                                          · rw [qm118, zup_ne _ _ (by omega), hg]; exact hq98
                                                                                          · rw [qm118, zup_ne _ _ (by omega), hg]; exact ft98
                                                                                          · rw [z32eq]
                                                                                            have e1 : (f 18 0 4 + 1 : Int32).toInt = (f 18 0 4).toInt + 1 := zadd_eb pf18_0_4 (zB.of (x := 1) 1 (by decide)) (by decide) (by decide)
                                                                                            omega
                                                                                          · intro j hj
                                                                                            rw [qm118, zup_ne _ _ (by omega), hg]
                                                                                            rcases (show j = 0 ∨ j = 1 ∨ j = 2 ∨ j = 3 ∨ j = 4 ∨ j = 5 by omega) with rfl | rfl | rfl | rfl | rfl | rfl <;> simp [zup, zc6]
                                                                                          · intro x j hj hx
                                                                                            rw [qm118, zup_ne _ _ (by omega), hg, zup_ne _ _ (by omega), zup_ne _ _ (by omega), zup_ne _ _ (by omega), zup_ne _ _ (by omega), zup_ne _ _ (by omega), zup_ne _ _ (by omega)]
                                                                                            exact kk7_98 x j)⟩
    · skip
      have hb37 : zsp T n (u1) ≤ n := zsp_len hb1
      refine z_if_eq (pc := 12) 23 C dX7_readCrime_12 (by decide) (fun _ => ?_) (fun h => absurd (by decide) h)
      refine z_iconst (pc := 23) (v := 0) C dX7_readCrime_23 (by decide) ?_
      refine z_istore_n (pc := 24) C dX7_readCrime_24 (by rw [hn]; decide) rfl ?_
      refine z_aload_n (pc := 25) C dX7_readCrime_25 rfl ?_
      refine z_iconst (pc := 26) (v := 0) C dX7_readCrime_26 (by decide) ?_
      refine z_bipush (pc := 27) (v := 40) C dX7_readCrime_27 (by decide) ?_
      refine z_callV (pc := 29) C zk_X7_73 (e_X7_readNumber _ _ 0 (zB.wk (a' := 0) (b' := 40) (zB.of (x := 0) 0 (by decide)) (by decide) (by decide)) 40 (zB.wk (a' := 0) (b' := 99) (zB.of (x := 40) 40 (by decide)) (by decide) (by decide))  T n (zsp T n (u1)) hN h1837 hTp37 hq37 hb37 ft37 hI37) rfl rfl (by decide) rfl rfl (Nat.le_of_ble_eq_true rfl) dX7_readCrime_29 (fun r119 g119 q119 => ?_)
      obtain ⟨⟨v119, rfl, b119x⟩, hI119, hF119q, hp119⟩ := q119
      have hp119 := hp119 _ rfl
      have hF119 := zFr.tr hF37 hF119q (by decide)
      simp only [Option.toList, List.cons_append, List.nil_append]
      have cr119_18_0_7 : zB (g119 18 0 7) (-1) 120 := hI119 18 0 7
      have ek119_18_0_4 : (g119 18 0 4).toInt = (g37 18 0 4).toInt := by rw [hF119q 18 0 4 rfl]
      have c119_18_0_4x : zB (g119 18 0 4) 0 11 := by first | exact zB.eqv ek119_18_0_4 c37_18_0_4x | (have q9 := c37_18_0_4x; constructor <;> omega)
      rcases hp119 with ⟨u119, hc119, hb119, hz119⟩ | ⟨u119, hc119, hq119, hb119, ft119, hlo119, hhi119⟩
      · skip
        have hd119 : znu T n 0 40 (zsp T n (u1)) = _ := hc119
        have kk7_119 : ∀ x j, g119 7 x j = f 7 x j := fun x j => (hF119q 7 x j rfl).trans (kk7_37 x j)
        have hzi119 : (g119 18 0 7).toInt = (u119 : Int) := by rw [hz119]; exact nI_toInt (by omega)
        have c120x : zB (g119 18 0 7) 0 120 := by first | assumption | (constructor <;> omega)
        refine z_istore (pc := 32) C dX7_readCrime_32 (by rw [hn]; decide) rfl ?_
        refine z_aload_n (pc := 34) C dX7_readCrime_34 rfl ?_
        refine z_bipush (pc := 35) (v := 46) C dX7_readCrime_35 (by decide) ?_
        refine z_callV (pc := 37) C zk_X7_77 (k_X7_need _ _ 46 (zB.wk (a' := 1) (b' := 126) (zB.of (x := 46) 46 (by decide)) (by decide) (by decide)) hI119) rfl rfl (by decide) rfl rfl (Nat.le_of_ble_eq_true rfl) dX7_readCrime_37 (fun r121 g121 q121 => ?_)
        have qa121_46 : (46 : Int32).toInt = 46 := by decide
        obtain ⟨rfl, hI121, hF121q, hp121_0, hp121_1⟩ := q121
        have hF121 := zFr.tr hF119 hF121q (by decide)
        simp only [Option.toList, List.cons_append, List.nil_append]
        have cr121_18_0_7 : zB (g121 18 0 7) (-1) 120 := hI121 18 0 7
        have ek121_18_0_4 : (g121 18 0 4).toInt = (g119 18 0 4).toInt := by rw [hF121q 18 0 4 rfl]
        have c121_18_0_4x : zB (g121 18 0 4) 0 11 := by first | exact zB.eqv ek121_18_0_4 c119_18_0_4x | (have q9 := c119_18_0_4x; constructor <;> omega)
        have c122x : zB (g121 18 0 7) 0 120 := by first | assumption | (constructor <;> omega)
        have kk7_121 : ∀ x j, g121 7 x j = f 7 x j := fun x j => (hF121q 7 x j rfl).trans (kk7_119 x j)
        refine z_aload_n (pc := 40) C dX7_readCrime_40 rfl ?_
        refine z_bipush (pc := 41) (v := 46) C dX7_readCrime_41 (by decide) ?_
        refine z_callV (pc := 43) C zk_X7_77 (k_X7_need _ _ 46 (zB.wk (a' := 1) (b' := 126) (zB.of (x := 46) 46 (by decide)) (by decide) (by decide)) hI121) rfl rfl (by decide) rfl rfl (Nat.le_of_ble_eq_true rfl) dX7_readCrime_43 (fun r123 g123 q123 => ?_)
        have qa123_46 : (46 : Int32).toInt = 46 := by decide
        obtain ⟨rfl, hI123, hF123q, hp123_0, hp123_1⟩ := q123
        have hF123 := zFr.tr hF121 hF123q (by decide)
        simp only [Option.toList, List.cons_append, List.nil_append]
        have cr123_18_0_7 : zB (g123 18 0 7) (-1) 120 := hI123 18 0 7
        have ek123_18_0_4 : (g123 18 0 4).toInt = (g121 18 0 4).toInt := by rw [hF123q 18 0 4 rfl]
        have c123_18_0_4x : zB (g123 18 0 4) 0 11 := by first | exact zB.eqv ek123_18_0_4 c121_18_0_4x | (have q9 := c121_18_0_4x; constructor <;> omega)
        have c124x : zB (g123 18 0 7) 0 120 := by first | assumption | (constructor <;> omega)
        have kk7_123 : ∀ x j, g123 7 x j = f 7 x j := fun x j => (hF123q 7 x j rfl).trans (kk7_121 x j)
        refine z_aload_n (pc := 46) C dX7_readCrime_46 rfl ?_
        refine z_iconst (pc := 47) (v := 1) C dX7_readCrime_47 (by decide) ?_
        refine z_iload (pc := 48) C dX7_readCrime_48 rfl ?_
        refine z_mmax (pc := 50) C zk_X7_80 (Nat.le_of_ble_eq_true rfl) dX7_readCrime_50 ?_
        refine w_gp (fun v => v = imax (1 : Int32) v119) rfl (fun v125 q125 => ?_)
        have b125x : zB v125 1 1000 := by rw [q125]; exact (by have q9 := zmax_b (zB.of (x := 1) 1 (by decide)) b119x; constructor <;> omega)
        refine z_bipush (pc := 53) (v := 40) C dX7_readCrime_53 (by decide) ?_
        refine z_callV (pc := 55) C zk_X7_73 (k_X7_readNumber _ _ v125 (zB.wk (a' := (-2147483648)) (b' := 1000) b125x (by decide) (by decide)) 40 (zB.wk (a' := 0) (b' := 99) (zB.of (x := 40) 40 (by decide)) (by decide) (by decide)) hI123) rfl rfl (by decide) rfl rfl (Nat.le_of_ble_eq_true rfl) dX7_readCrime_55 (fun r126 g126 q126 => ?_)
        have qa126_40 : (40 : Int32).toInt = 40 := by decide
        obtain ⟨⟨v126, rfl, b126x⟩, hI126, hF126q, hp126_0, hp126_1, hp126_2⟩ := q126
        have hp126_0 := hp126_0 _ rfl
        have hp126_1 := hp126_1 _ rfl
        have hp126_2 := hp126_2 _ rfl
        have hF126 := zFr.tr hF123 hF126q (by decide)
        simp only [Option.toList, List.cons_append, List.nil_append]
        have cr126_18_0_7 : zB (g126 18 0 7) (-1) 120 := hI126 18 0 7
        have ek126_18_0_4 : (g126 18 0 4).toInt = (g123 18 0 4).toInt := by rw [hF126q 18 0 4 rfl]
        have c126_18_0_4x : zB (g126 18 0 4) 0 11 := by first | exact zB.eqv ek126_18_0_4 c123_18_0_4x | (have q9 := c123_18_0_4x; constructor <;> omega)
        have c127x : zB (g126 18 0 7) 0 120 := by first | assumption | (constructor <;> omega)
        have kk7_126 : ∀ x j, g126 7 x j = f 7 x j := fun x j => (hF126q 7 x j rfl).trans (kk7_123 x j)
        refine z_istore (pc := 58) C dX7_readCrime_58 (by rw [hn]; decide) rfl ?_
        refine z_aload_n (pc := 60) C dX7_readCrime_60 rfl ?_
        refine z_bipush (pc := 61) (v := 33) C dX7_readCrime_61 (by decide) ?_
        refine z_callV (pc := 63) C zk_X7_48 (w_X7_takes _ _ 33 (zB.wk (a' := 1) (b' := 126) (zB.of (x := 33) 33 (by decide)) (by decide) (by decide)) hI126) rfl rfl (by decide) rfl rfl (Nat.le_of_ble_eq_true rfl) dX7_readCrime_63 (fun r128 g128 q128 => ?_)
        obtain ⟨⟨v128, rfl, b128x⟩, hI128, hF128q⟩ := q128
        have hF128 := zFr.tr hF126 hF128q (by decide)
        simp only [Option.toList, List.cons_append, List.nil_append]
        have ek128_18_0_7 : (g128 18 0 7).toInt = (g126 18 0 7).toInt := by rw [hF128q 18 0 7 rfl]
        have c128_18_0_7x : zB (g128 18 0 7) 0 120 := by first | exact zB.eqv ek128_18_0_7 c127x | (have q9 := c127x; constructor <;> omega)
        have ek128_18_0_4 : (g128 18 0 4).toInt = (g126 18 0 4).toInt := by rw [hF128q 18 0 4 rfl]
        have c128_18_0_4x : zB (g128 18 0 4) 0 11 := by first | exact zB.eqv ek128_18_0_4 c126_18_0_4x | (have q9 := c126_18_0_4x; constructor <;> omega)
        have c129x : zB (g128 18 0 7) 0 120 := by first | assumption | (constructor <;> omega)
        have kk7_128 : ∀ x j, g128 7 x j = f 7 x j := fun x j => (hF128q 7 x j rfl).trans (kk7_126 x j)
        refine z_istore (pc := 66) C dX7_readCrime_66 (by rw [hn]; decide) rfl ?_
        refine z_aload_n (pc := 68) C dX7_readCrime_68 rfl ?_
        refine z_getI (pc := 69) C zf_X7_36 rfl rfl (by decide) dX7_readCrime_69 ?_
        refine w_gp (fun v => v = g128 18 0 7) rfl (fun v130 q130 => ?_)
        have e130 : v130.toInt = (g128 18 0 7).toInt := by rw [q130]
        have b130x : zB v130 0 120 := by first | exact zB.eqv e130 c129x | (have q9 := c129x; constructor <;> omega)
        refine z_iconst (pc := 72) (v := -1) C dX7_readCrime_72 (by decide) ?_
        refine z_icmp_ne (pc := 73) 116 C dX7_readCrime_73 (by decide) (fun h73_130 => ?_) (fun h73_130 => absurd h73_130 (by have q1 := b130x; have q2 := (zB.of (x := (-1)) (-1) (by decide)); first | (simp only [z32lt, z32le, z32eq]; omega) | (simp only [z32lt, z32le, z32eq] at *; omega)))
        exact z_vret (pc := 116) C hr dX7_readCrime_116 ⟨rfl, hI128, hF128, (by
                                                                                          refine Or.inl ⟨u119, ?_, hb119, ?_, (fun x j => kk7_128 x j)⟩
                                                                                          · unfold zCr zmkC; simp only [zbd, hc1, if_neg hc37, hd119]
                                                                                          · rw [z32eq, nI_toInt (by omega)]
                                                                                            omega)⟩
      · skip
        have hd119 : znu T n 0 40 (zsp T n (u1)) = _ := hc119
        have h18119 : g119 18 0 3 = nI n := (hF119q 18 0 3 rfl).trans h1837
        have hTp119 : ∀ i, i < n → g119 19 0 i = T i := fun i hi => (hF119q 19 0 i rfl).trans (hTp37 i hi)
        have kk7_119 : ∀ x j, g119 7 x j = f 7 x j := fun x j => (hF119q 7 x j rfl).trans (kk7_37 x j)
        have fti119 : (g119 18 0 7).toInt = -1 := by rw [ft119]; decide
        have c132x : zB (g119 18 0 7) (-1) (-1) := by first | assumption | (constructor <;> omega)
        have bo119x : zB v119 0 40 := by have qk119_0 : (0 : Int32).toInt = 0 := (by decide); have qk119_1 : (40 : Int32).toInt = 40 := (by decide); constructor <;> omega
        refine z_istore (pc := 32) C dX7_readCrime_32 (by rw [hn]; decide) rfl ?_
        refine z_aload_n (pc := 34) C dX7_readCrime_34 rfl ?_
        refine z_bipush (pc := 35) (v := 46) C dX7_readCrime_35 (by decide) ?_
        refine z_callV (pc := 37) C zk_X7_77 (e_X7_need _ _ 46 (zB.wk (a' := 1) (b' := 126) (zB.of (x := 46) 46 (by decide)) (by decide) (by decide))  T n (u119) hN h18119 hTp119 hq119 hb119 ft119 hI119) rfl rfl (by decide) rfl rfl (Nat.le_of_ble_eq_true rfl) dX7_readCrime_37 (fun r133 g133 q133 => ?_)
        obtain ⟨rfl, hI133, hF133q, hp133⟩ := q133
        have hF133 := zFr.tr hF119 hF133q (by decide)
        simp only [Option.toList, List.cons_append, List.nil_append]
        have cr133_18_0_7 : zB (g133 18 0 7) (-1) 120 := hI133 18 0 7
        have ek133_18_0_4 : (g133 18 0 4).toInt = (g119 18 0 4).toInt := by rw [hF133q 18 0 4 rfl]
        have c133_18_0_4x : zB (g133 18 0 4) 0 11 := by first | exact zB.eqv ek133_18_0_4 c119_18_0_4x | (have q9 := c119_18_0_4x; constructor <;> omega)
        rcases hp133 with ⟨u133, hc133, hb133, hz133⟩ | ⟨u133, hc133, hq133, hb133, ft133⟩
        · skip
          have kk7_133 : ∀ x j, g133 7 x j = f 7 x j := fun x j => (hF133q 7 x j rfl).trans (kk7_119 x j)
          have hzi133 : (g133 18 0 7).toInt = (u133 : Int) := by rw [hz133]; exact nI_toInt (by omega)
          have c134x : zB (g133 18 0 7) 0 120 := by first | assumption | (constructor <;> omega)
          refine z_aload_n (pc := 40) C dX7_readCrime_40 rfl ?_
          refine z_bipush (pc := 41) (v := 46) C dX7_readCrime_41 (by decide) ?_
          refine z_callV (pc := 43) C zk_X7_77 (k_X7_need _ _ 46 (zB.wk (a' := 1) (b' := 126) (zB.of (x := 46) 46 (by decide)) (by decide) (by decide)) hI133) rfl rfl (by decide) rfl rfl (Nat.le_of_ble_eq_true rfl) dX7_readCrime_43 (fun r135 g135 q135 => ?_)
          have qa135_46 : (46 : Int32).toInt = 46 := by decide
          obtain ⟨rfl, hI135, hF135q, hp135_0, hp135_1⟩ := q135
          have hF135 := zFr.tr hF133 hF135q (by decide)
          simp only [Option.toList, List.cons_append, List.nil_append]
          have cr135_18_0_7 : zB (g135 18 0 7) (-1) 120 := hI135 18 0 7
          have ek135_18_0_4 : (g135 18 0 4).toInt = (g133 18 0 4).toInt := by rw [hF135q 18 0 4 rfl]
          have c135_18_0_4x : zB (g135 18 0 4) 0 11 := by first | exact zB.eqv ek135_18_0_4 c133_18_0_4x | (have q9 := c133_18_0_4x; constructor <;> omega)
          have c136x : zB (g135 18 0 7) 0 120 := by first | assumption | (constructor <;> omega)
          have kk7_135 : ∀ x j, g135 7 x j = f 7 x j := fun x j => (hF135q 7 x j rfl).trans (kk7_133 x j)
          refine z_aload_n (pc := 46) C dX7_readCrime_46 rfl ?_
          refine z_iconst (pc := 47) (v := 1) C dX7_readCrime_47 (by decide) ?_
          refine z_iload (pc := 48) C dX7_readCrime_48 rfl ?_
          refine z_mmax (pc := 50) C zk_X7_80 (Nat.le_of_ble_eq_true rfl) dX7_readCrime_50 ?_
          refine w_gp (fun v => v = imax (1 : Int32) v119) rfl (fun v137 q137 => ?_)
          have b137x : zB v137 1 40 := by rw [q137]; exact (by have q9 := zmax_b (zB.of (x := 1) 1 (by decide)) bo119x; constructor <;> omega)
          refine z_bipush (pc := 53) (v := 40) C dX7_readCrime_53 (by decide) ?_
          refine z_callV (pc := 55) C zk_X7_73 (k_X7_readNumber _ _ v137 (zB.wk (a' := (-2147483648)) (b' := 1000) b137x (by decide) (by decide)) 40 (zB.wk (a' := 0) (b' := 99) (zB.of (x := 40) 40 (by decide)) (by decide) (by decide)) hI135) rfl rfl (by decide) rfl rfl (Nat.le_of_ble_eq_true rfl) dX7_readCrime_55 (fun r138 g138 q138 => ?_)
          have qa138_40 : (40 : Int32).toInt = 40 := by decide
          obtain ⟨⟨v138, rfl, b138x⟩, hI138, hF138q, hp138_0, hp138_1, hp138_2⟩ := q138
          have hp138_0 := hp138_0 _ rfl
          have hp138_1 := hp138_1 _ rfl
          have hp138_2 := hp138_2 _ rfl
          have hF138 := zFr.tr hF135 hF138q (by decide)
          simp only [Option.toList, List.cons_append, List.nil_append]
          have cr138_18_0_7 : zB (g138 18 0 7) (-1) 120 := hI138 18 0 7
          have ek138_18_0_4 : (g138 18 0 4).toInt = (g135 18 0 4).toInt := by rw [hF138q 18 0 4 rfl]
          have c138_18_0_4x : zB (g138 18 0 4) 0 11 := by first | exact zB.eqv ek138_18_0_4 c135_18_0_4x | (have q9 := c135_18_0_4x; constructor <;> omega)
          have c139x : zB (g138 18 0 7) 0 120 := by first | assumption | (constructor <;> omega)
          have kk7_138 : ∀ x j, g138 7 x j = f 7 x j := fun x j => (hF138q 7 x j rfl).trans (kk7_135 x j)
          refine z_istore (pc := 58) C dX7_readCrime_58 (by rw [hn]; decide) rfl ?_
          refine z_aload_n (pc := 60) C dX7_readCrime_60 rfl ?_
          refine z_bipush (pc := 61) (v := 33) C dX7_readCrime_61 (by decide) ?_
          refine z_callV (pc := 63) C zk_X7_48 (w_X7_takes _ _ 33 (zB.wk (a' := 1) (b' := 126) (zB.of (x := 33) 33 (by decide)) (by decide) (by decide)) hI138) rfl rfl (by decide) rfl rfl (Nat.le_of_ble_eq_true rfl) dX7_readCrime_63 (fun r140 g140 q140 => ?_)
          obtain ⟨⟨v140, rfl, b140x⟩, hI140, hF140q⟩ := q140
          have hF140 := zFr.tr hF138 hF140q (by decide)
          simp only [Option.toList, List.cons_append, List.nil_append]
          have ek140_18_0_7 : (g140 18 0 7).toInt = (g138 18 0 7).toInt := by rw [hF140q 18 0 7 rfl]
          have c140_18_0_7x : zB (g140 18 0 7) 0 120 := by first | exact zB.eqv ek140_18_0_7 c139x | (have q9 := c139x; constructor <;> omega)
          have ek140_18_0_4 : (g140 18 0 4).toInt = (g138 18 0 4).toInt := by rw [hF140q 18 0 4 rfl]
          have c140_18_0_4x : zB (g140 18 0 4) 0 11 := by first | exact zB.eqv ek140_18_0_4 c138_18_0_4x | (have q9 := c138_18_0_4x; constructor <;> omega)
          have c141x : zB (g140 18 0 7) 0 120 := by first | assumption | (constructor <;> omega)
          have kk7_140 : ∀ x j, g140 7 x j = f 7 x j := fun x j => (hF140q 7 x j rfl).trans (kk7_138 x j)
          refine z_istore (pc := 66) C dX7_readCrime_66 (by rw [hn]; decide) rfl ?_
          refine z_aload_n (pc := 68) C dX7_readCrime_68 rfl ?_
          refine z_getI (pc := 69) C zf_X7_36 rfl rfl (by decide) dX7_readCrime_69 ?_
          refine w_gp (fun v => v = g140 18 0 7) rfl (fun v142 q142 => ?_)
          have e142 : v142.toInt = (g140 18 0 7).toInt := by rw [q142]
          have b142x : zB v142 0 120 := by first | exact zB.eqv e142 c141x | (have q9 := c141x; constructor <;> omega)
          refine z_iconst (pc := 72) (v := -1) C dX7_readCrime_72 (by decide) ?_
          refine z_icmp_ne (pc := 73) 116 C dX7_readCrime_73 (by decide) (fun h73_142 => ?_) (fun h73_142 => absurd h73_142 (by have q1 := b142x; have q2 := (zB.of (x := (-1)) (-1) (by decide)); first | (simp only [z32lt, z32le, z32eq]; omega) | (simp only [z32lt, z32le, z32eq] at *; omega)))
          exact z_vret (pc := 116) C hr dX7_readCrime_116 ⟨rfl, hI140, hF140, (by
                                                                                          refine Or.inl ⟨u133, ?_, hb133, ?_, (fun x j => kk7_140 x j)⟩
                                                                                          · unfold zCr zmkC; simp only [zbd, hc1, if_neg hc37, hd119, hc133]
                                                                                          · rw [z32eq, nI_toInt (by omega)]
                                                                                            omega)⟩
        · skip
          have h18133 : g133 18 0 3 = nI n := (hF133q 18 0 3 rfl).trans h18119
          have hTp133 : ∀ i, i < n → g133 19 0 i = T i := fun i hi => (hF133q 19 0 i rfl).trans (hTp119 i hi)
          have kk7_133 : ∀ x j, g133 7 x j = f 7 x j := fun x j => (hF133q 7 x j rfl).trans (kk7_119 x j)
          have fti133 : (g133 18 0 7).toInt = -1 := by rw [ft133]; decide
          have c144x : zB (g133 18 0 7) (-1) (-1) := by first | assumption | (constructor <;> omega)
          refine z_aload_n (pc := 40) C dX7_readCrime_40 rfl ?_
          refine z_bipush (pc := 41) (v := 46) C dX7_readCrime_41 (by decide) ?_
          refine z_callV (pc := 43) C zk_X7_77 (e_X7_need _ _ 46 (zB.wk (a' := 1) (b' := 126) (zB.of (x := 46) 46 (by decide)) (by decide) (by decide))  T n (u133) hN h18133 hTp133 hq133 hb133 ft133 hI133) rfl rfl (by decide) rfl rfl (Nat.le_of_ble_eq_true rfl) dX7_readCrime_43 (fun r145 g145 q145 => ?_)
          obtain ⟨rfl, hI145, hF145q, hp145⟩ := q145
          have hF145 := zFr.tr hF133 hF145q (by decide)
          simp only [Option.toList, List.cons_append, List.nil_append]
          have cr145_18_0_7 : zB (g145 18 0 7) (-1) 120 := hI145 18 0 7
          have ek145_18_0_4 : (g145 18 0 4).toInt = (g133 18 0 4).toInt := by rw [hF145q 18 0 4 rfl]
          have c145_18_0_4x : zB (g145 18 0 4) 0 11 := by first | exact zB.eqv ek145_18_0_4 c133_18_0_4x | (have q9 := c133_18_0_4x; constructor <;> omega)
          rcases hp145 with ⟨u145, hc145, hb145, hz145⟩ | ⟨u145, hc145, hq145, hb145, ft145⟩
          · skip
            have kk7_145 : ∀ x j, g145 7 x j = f 7 x j := fun x j => (hF145q 7 x j rfl).trans (kk7_133 x j)
            have hzi145 : (g145 18 0 7).toInt = (u145 : Int) := by rw [hz145]; exact nI_toInt (by omega)
            have c146x : zB (g145 18 0 7) 0 120 := by first | assumption | (constructor <;> omega)
            refine z_aload_n (pc := 46) C dX7_readCrime_46 rfl ?_
            refine z_iconst (pc := 47) (v := 1) C dX7_readCrime_47 (by decide) ?_
            refine z_iload (pc := 48) C dX7_readCrime_48 rfl ?_
            refine z_mmax (pc := 50) C zk_X7_80 (Nat.le_of_ble_eq_true rfl) dX7_readCrime_50 ?_
            refine w_gp (fun v => v = imax (1 : Int32) v119) rfl (fun v147 q147 => ?_)
            have b147x : zB v147 1 40 := by rw [q147]; exact (by have q9 := zmax_b (zB.of (x := 1) 1 (by decide)) bo119x; constructor <;> omega)
            refine z_bipush (pc := 53) (v := 40) C dX7_readCrime_53 (by decide) ?_
            refine z_callV (pc := 55) C zk_X7_73 (k_X7_readNumber _ _ v147 (zB.wk (a' := (-2147483648)) (b' := 1000) b147x (by decide) (by decide)) 40 (zB.wk (a' := 0) (b' := 99) (zB.of (x := 40) 40 (by decide)) (by decide) (by decide)) hI145) rfl rfl (by decide) rfl rfl (Nat.le_of_ble_eq_true rfl) dX7_readCrime_55 (fun r148 g148 q148 => ?_)
            have qa148_40 : (40 : Int32).toInt = 40 := by decide
            obtain ⟨⟨v148, rfl, b148x⟩, hI148, hF148q, hp148_0, hp148_1, hp148_2⟩ := q148
            have hp148_0 := hp148_0 _ rfl
            have hp148_1 := hp148_1 _ rfl
            have hp148_2 := hp148_2 _ rfl
            have hF148 := zFr.tr hF145 hF148q (by decide)
            simp only [Option.toList, List.cons_append, List.nil_append]
            have cr148_18_0_7 : zB (g148 18 0 7) (-1) 120 := hI148 18 0 7
            have ek148_18_0_4 : (g148 18 0 4).toInt = (g145 18 0 4).toInt := by rw [hF148q 18 0 4 rfl]
            have c148_18_0_4x : zB (g148 18 0 4) 0 11 := by first | exact zB.eqv ek148_18_0_4 c145_18_0_4x | (have q9 := c145_18_0_4x; constructor <;> omega)
            have c149x : zB (g148 18 0 7) 0 120 := by first | assumption | (constructor <;> omega)
            have kk7_148 : ∀ x j, g148 7 x j = f 7 x j := fun x j => (hF148q 7 x j rfl).trans (kk7_145 x j)
            refine z_istore (pc := 58) C dX7_readCrime_58 (by rw [hn]; decide) rfl ?_
            refine z_aload_n (pc := 60) C dX7_readCrime_60 rfl ?_
            refine z_bipush (pc := 61) (v := 33) C dX7_readCrime_61 (by decide) ?_
            refine z_callV (pc := 63) C zk_X7_48 (w_X7_takes _ _ 33 (zB.wk (a' := 1) (b' := 126) (zB.of (x := 33) 33 (by decide)) (by decide) (by decide)) hI148) rfl rfl (by decide) rfl rfl (Nat.le_of_ble_eq_true rfl) dX7_readCrime_63 (fun r150 g150 q150 => ?_)
            obtain ⟨⟨v150, rfl, b150x⟩, hI150, hF150q⟩ := q150
            have hF150 := zFr.tr hF148 hF150q (by decide)
            simp only [Option.toList, List.cons_append, List.nil_append]
            have ek150_18_0_7 : (g150 18 0 7).toInt = (g148 18 0 7).toInt := by rw [hF150q 18 0 7 rfl]
            have c150_18_0_7x : zB (g150 18 0 7) 0 120 := by first | exact zB.eqv ek150_18_0_7 c149x | (have q9 := c149x; constructor <;> omega)
            have ek150_18_0_4 : (g150 18 0 4).toInt = (g148 18 0 4).toInt := by rw [hF150q 18 0 4 rfl]
            have c150_18_0_4x : zB (g150 18 0 4) 0 11 := by first | exact zB.eqv ek150_18_0_4 c148_18_0_4x | (have q9 := c148_18_0_4x; constructor <;> omega)
            have c151x : zB (g150 18 0 7) 0 120 := by first | assumption | (constructor <;> omega)
            have kk7_150 : ∀ x j, g150 7 x j = f 7 x j := fun x j => (hF150q 7 x j rfl).trans (kk7_148 x j)
            refine z_istore (pc := 66) C dX7_readCrime_66 (by rw [hn]; decide) rfl ?_
            refine z_aload_n (pc := 68) C dX7_readCrime_68 rfl ?_
            refine z_getI (pc := 69) C zf_X7_36 rfl rfl (by decide) dX7_readCrime_69 ?_
            refine w_gp (fun v => v = g150 18 0 7) rfl (fun v152 q152 => ?_)
            have e152 : v152.toInt = (g150 18 0 7).toInt := by rw [q152]
            have b152x : zB v152 0 120 := by first | exact zB.eqv e152 c151x | (have q9 := c151x; constructor <;> omega)
            refine z_iconst (pc := 72) (v := -1) C dX7_readCrime_72 (by decide) ?_
            refine z_icmp_ne (pc := 73) 116 C dX7_readCrime_73 (by decide) (fun h73_152 => ?_) (fun h73_152 => absurd h73_152 (by have q1 := b152x; have q2 := (zB.of (x := (-1)) (-1) (by decide)); first | (simp only [z32lt, z32le, z32eq]; omega) | (simp only [z32lt, z32le, z32eq] at *; omega)))
            exact z_vret (pc := 116) C hr dX7_readCrime_116 ⟨rfl, hI150, hF150, (by
                                                                                          refine Or.inl ⟨u145, ?_, hb145, ?_, (fun x j => kk7_150 x j)⟩
                                                                                          · unfold zCr zmkC; simp only [zbd, hc1, if_neg hc37, hd119, hc133, hc145]
                                                                                          · rw [z32eq, nI_toInt (by omega)]
                                                                                            omega)⟩
          · skip
            have h18145 : g145 18 0 3 = nI n := (hF145q 18 0 3 rfl).trans h18133
            have hTp145 : ∀ i, i < n → g145 19 0 i = T i := fun i hi => (hF145q 19 0 i rfl).trans (hTp133 i hi)
            have kk7_145 : ∀ x j, g145 7 x j = f 7 x j := fun x j => (hF145q 7 x j rfl).trans (kk7_133 x j)
            have fti145 : (g145 18 0 7).toInt = -1 := by rw [ft145]; decide
            have c154x : zB (g145 18 0 7) (-1) (-1) := by first | assumption | (constructor <;> omega)
            refine z_aload_n (pc := 46) C dX7_readCrime_46 rfl ?_
            refine z_iconst (pc := 47) (v := 1) C dX7_readCrime_47 (by decide) ?_
            refine z_iload (pc := 48) C dX7_readCrime_48 rfl ?_
            refine z_mmax (pc := 50) C zk_X7_80 (Nat.le_of_ble_eq_true rfl) dX7_readCrime_50 ?_
            refine w_gp (fun v => v = imax (1 : Int32) v119) rfl (fun v155 q155 => ?_)
            have b155x : zB v155 1 40 := by rw [q155]; exact (by have q9 := zmax_b (zB.of (x := 1) 1 (by decide)) bo119x; constructor <;> omega)
            refine z_bipush (pc := 53) (v := 40) C dX7_readCrime_53 (by decide) ?_
            refine z_callV (pc := 55) C zk_X7_73 (e_X7_readNumber _ _ v155 (zB.wk (a' := 0) (b' := 40) b155x (by decide) (by decide)) 40 (zB.wk (a' := 0) (b' := 99) (zB.of (x := 40) 40 (by decide)) (by decide) (by decide))  T n (u145) hN h18145 hTp145 hq145 hb145 ft145 hI145) rfl rfl (by decide) rfl rfl (Nat.le_of_ble_eq_true rfl) dX7_readCrime_55 (fun r156 g156 q156 => ?_)
            obtain ⟨⟨v156, rfl, b156x⟩, hI156, hF156q, hp156⟩ := q156
            have hp156 := hp156 _ rfl
            have hF156 := zFr.tr hF145 hF156q (by decide)
            simp only [Option.toList, List.cons_append, List.nil_append]
            have cr156_18_0_7 : zB (g156 18 0 7) (-1) 120 := hI156 18 0 7
            have ek156_18_0_4 : (g156 18 0 4).toInt = (g145 18 0 4).toInt := by rw [hF156q 18 0 4 rfl]
            have c156_18_0_4x : zB (g156 18 0 4) 0 11 := by first | exact zB.eqv ek156_18_0_4 c145_18_0_4x | (have q9 := c145_18_0_4x; constructor <;> omega)
            rcases hp156 with ⟨u156, hc156, hb156, hz156⟩ | ⟨u156, hc156, hq156, hb156, ft156, hlo156, hhi156⟩
            · skip
              have hd156 : znu T n v155.toInt 40 (u145) = _ := hc156
              have kk7_156 : ∀ x j, g156 7 x j = f 7 x j := fun x j => (hF156q 7 x j rfl).trans (kk7_145 x j)
              have hzi156 : (g156 18 0 7).toInt = (u156 : Int) := by rw [hz156]; exact nI_toInt (by omega)
              have c157x : zB (g156 18 0 7) 0 120 := by first | assumption | (constructor <;> omega)
              refine z_istore (pc := 58) C dX7_readCrime_58 (by rw [hn]; decide) rfl ?_
              refine z_aload_n (pc := 60) C dX7_readCrime_60 rfl ?_
              refine z_bipush (pc := 61) (v := 33) C dX7_readCrime_61 (by decide) ?_
              refine z_callV (pc := 63) C zk_X7_48 (w_X7_takes _ _ 33 (zB.wk (a' := 1) (b' := 126) (zB.of (x := 33) 33 (by decide)) (by decide) (by decide)) hI156) rfl rfl (by decide) rfl rfl (Nat.le_of_ble_eq_true rfl) dX7_readCrime_63 (fun r158 g158 q158 => ?_)
              obtain ⟨⟨v158, rfl, b158x⟩, hI158, hF158q⟩ := q158
              have hF158 := zFr.tr hF156 hF158q (by decide)
              simp only [Option.toList, List.cons_append, List.nil_append]
              have ek158_18_0_7 : (g158 18 0 7).toInt = (g156 18 0 7).toInt := by rw [hF158q 18 0 7 rfl]
              have c158_18_0_7x : zB (g158 18 0 7) 0 120 := by first | exact zB.eqv ek158_18_0_7 c157x | (have q9 := c157x; constructor <;> omega)
              have ek158_18_0_4 : (g158 18 0 4).toInt = (g156 18 0 4).toInt := by rw [hF158q 18 0 4 rfl]
              have c158_18_0_4x : zB (g158 18 0 4) 0 11 := by first | exact zB.eqv ek158_18_0_4 c156_18_0_4x | (have q9 := c156_18_0_4x; constructor <;> omega)
              have c159x : zB (g158 18 0 7) 0 120 := by first | assumption | (constructor <;> omega)
              have kk7_158 : ∀ x j, g158 7 x j = f 7 x j := fun x j => (hF158q 7 x j rfl).trans (kk7_156 x j)
              refine z_istore (pc := 66) C dX7_readCrime_66 (by rw [hn]; decide) rfl ?_
              refine z_aload_n (pc := 68) C dX7_readCrime_68 rfl ?_
              refine z_getI (pc := 69) C zf_X7_36 rfl rfl (by decide) dX7_readCrime_69 ?_
              refine w_gp (fun v => v = g158 18 0 7) rfl (fun v160 q160 => ?_)
              have e160 : v160.toInt = (g158 18 0 7).toInt := by rw [q160]
              have b160x : zB v160 0 120 := by first | exact zB.eqv e160 c159x | (have q9 := c159x; constructor <;> omega)
              refine z_iconst (pc := 72) (v := -1) C dX7_readCrime_72 (by decide) ?_
              refine z_icmp_ne (pc := 73) 116 C dX7_readCrime_73 (by decide) (fun h73_160 => ?_) (fun h73_160 => absurd h73_160 (by have q1 := b160x; have q2 := (zB.of (x := (-1)) (-1) (by decide)); first | (simp only [z32lt, z32le, z32eq]; omega) | (simp only [z32lt, z32le, z32eq] at *; omega)))
              exact z_vret (pc := 116) C hr dX7_readCrime_116 ⟨rfl, hI158, hF158, (by
                                                                                          have em : v155.toInt = max 1 v119.toInt := by rw [q155, imax_e]; rfl
                                                                                          rw [em] at hd156
                                                                                          refine Or.inl ⟨u156, ?_, hb156, ?_, (fun x j => kk7_158 x j)⟩
                                                                                          · unfold zCr zmkC; simp only [zbd, hc1, if_neg hc37, hd119, hc133, hc145, hd156]
                                                                                          · rw [z32eq, nI_toInt (by omega)]
                                                                                            omega)⟩
            · skip
              have hd156 : znu T n v155.toInt 40 (u145) = _ := hc156
              have h18156 : g156 18 0 3 = nI n := (hF156q 18 0 3 rfl).trans h18145
              have hTp156 : ∀ i, i < n → g156 19 0 i = T i := fun i hi => (hF156q 19 0 i rfl).trans (hTp145 i hi)
              have kk7_156 : ∀ x j, g156 7 x j = f 7 x j := fun x j => (hF156q 7 x j rfl).trans (kk7_145 x j)
              have fti156 : (g156 18 0 7).toInt = -1 := by rw [ft156]; decide
              have c162x : zB (g156 18 0 7) (-1) (-1) := by first | assumption | (constructor <;> omega)
              have bo156x : zB v156 1 40 := by have qk156_1 : (40 : Int32).toInt = 40 := (by decide); constructor <;> omega
              refine z_istore (pc := 58) C dX7_readCrime_58 (by rw [hn]; decide) rfl ?_
              refine z_aload_n (pc := 60) C dX7_readCrime_60 rfl ?_
              refine z_bipush (pc := 61) (v := 33) C dX7_readCrime_61 (by decide) ?_
              refine z_callV (pc := 63) C zk_X7_48 (e_X7_takes _ _ 33 (zB.wk (a' := 1) (b' := 126) (zB.of (x := 33) 33 (by decide)) (by decide) (by decide)) T n (u156) hN h18156 hTp156 hq156 hb156 hI156) rfl rfl (by decide) rfl rfl (Nat.le_of_ble_eq_true rfl) dX7_readCrime_63 (fun r163 g163 q163 => ?_)
              obtain ⟨⟨v163, rfl, b163x⟩, hI163, hF163q, hp163⟩ := q163
              have hp163 := hp163 _ rfl
              have hF163 := zFr.tr hF156 hF163q (by decide)
              simp only [Option.toList, List.cons_append, List.nil_append]
              have ek163_18_0_7 : (g163 18 0 7).toInt = (g156 18 0 7).toInt := by rw [hF163q 18 0 7 rfl]
              have c163_18_0_7x : zB (g163 18 0 7) (-1) (-1) := by first | exact zB.eqv ek163_18_0_7 c162x | (have q9 := c162x; constructor <;> omega)
              have ek163_18_0_4 : (g163 18 0 4).toInt = (g156 18 0 4).toInt := by rw [hF163q 18 0 4 rfl]
              have c163_18_0_4x : zB (g163 18 0 4) 0 11 := by first | exact zB.eqv ek163_18_0_4 c156_18_0_4x | (have q9 := c156_18_0_4x; constructor <;> omega)
              have h18163 : g163 18 0 3 = nI n := (hF163q 18 0 3 rfl).trans h18156
              have hTp163 : ∀ i, i < n → g163 19 0 i = T i := fun i hi => (hF163q 19 0 i rfl).trans (hTp156 i hi)
              have ft163 : g163 18 0 7 = -1 := (hF163q 18 0 7 rfl).trans ft156
              have kk7_163 : ∀ x j, g163 7 x j = f 7 x j := fun x j => (hF163q 7 x j rfl).trans (kk7_156 x j)
              rcases hp163 with ⟨hc163, rfl, hq163, hb163⟩ | ⟨hc163, rfl, hq163⟩
              · skip
                refine z_istore (pc := 66) C dX7_readCrime_66 (by rw [hn]; decide) rfl ?_
                refine z_aload_n (pc := 68) C dX7_readCrime_68 rfl ?_
                refine z_getI (pc := 69) C zf_X7_36 rfl rfl (by decide) dX7_readCrime_69 ?_
                refine w_gp (fun v => v = g163 18 0 7) rfl (fun v164 q164 => ?_)
                have e164 : v164.toInt = (g163 18 0 7).toInt := by rw [q164]
                have b164x : zB v164 (-1) (-1) := by first | exact zB.eqv e164 c163_18_0_7x | (have q9 := c163_18_0_7x; constructor <;> omega)
                refine z_iconst (pc := 72) (v := -1) C dX7_readCrime_72 (by decide) ?_
                refine z_icmp_ne (pc := 73) 116 C dX7_readCrime_73 (by decide) (fun h73_164 => absurd h73_164 (by have q1 := b164x; have q2 := (zB.of (x := (-1)) (-1) (by decide)); first | (simp only [z32lt, z32le, z32eq]; omega) | (simp only [z32lt, z32le, z32eq] at *; omega))) (fun h73_164 => ?_)
                refine z_aload_n (pc := 76) C dX7_readCrime_76 rfl ?_
                refine z_getI (pc := 77) C zf_X7_39 rfl rfl (by decide) dX7_readCrime_77 ?_
                refine w_gp (fun v => v = g163 18 0 4) rfl (fun v166 q166 => ?_)
                have e166 : v166.toInt = (g163 18 0 4).toInt := by rw [q166]
                have b166x : zB v166 0 11 := by first | exact zB.eqv e166 c163_18_0_4x | (have q9 := c163_18_0_4x; constructor <;> omega)
                refine z_bipush (pc := 80) (v := 12) C dX7_readCrime_80 (by decide) ?_
                refine z_icmp_ge (pc := 82) 116 C dX7_readCrime_82 (by decide) (fun h82_166 => absurd h82_166 (by have q1 := b166x; have q2 := (zB.of (x := 12) 12 (by decide)); first | (simp only [z32lt, z32le, z32eq]; omega) | (simp only [z32lt, z32le, z32eq] at *; omega))) (fun h82_166 => ?_)
                refine z_aload_n (pc := 85) C dX7_readCrime_85 rfl ?_
                refine z_getR (pc := 86) C zf_X7_17 rfl rfl (by decide) dX7_readCrime_86 ?_
                refine z_aload_n (pc := 89) C dX7_readCrime_89 rfl ?_
                refine z_getI (pc := 90) C zf_X7_39 rfl rfl (by decide) dX7_readCrime_90 ?_
                refine w_gp (fun v => v = g163 18 0 4) rfl (fun v168 q168 => ?_)
                have e168 : v168.toInt = (g163 18 0 4).toInt := by rw [q168]
                have b168x : zB v168 0 11 := by first | exact zB.eqv e168 c163_18_0_4x | (have q9 := c163_18_0_4x; constructor <;> omega)
                refine z_aald (pc := 93) C rfl ⟨rfl, by decide⟩ (by decide) (zIx b168x (by decide) (by decide)) dX7_readCrime_93 ?_
                refine w_grx (by have hq := zN b168x (by decide); show 48 + v168.toNatClampNeg < 60; omega) (fun m169 q169r h169x => ?_)
                have q169r : m169 = 48 + v168.toNatClampNeg := q169r
                have k169r : v168.toNatClampNeg = v168.toInt.toNat := rfl
                refine z_iload_n (pc := 94) C dX7_readCrime_94 rfl ?_
                refine z_iload_n (pc := 95) C dX7_readCrime_95 rfl ?_
                refine z_iload_n (pc := 96) C dX7_readCrime_96 rfl ?_
                refine z_iload (pc := 97) C dX7_readCrime_97 rfl ?_
                refine z_iload (pc := 99) C dX7_readCrime_99 rfl ?_
                refine z_iload (pc := 101) C dX7_readCrime_101 rfl ?_
                refine z_callV (pc := 103) C zk_X7_85 (x_X0_tell _ _ m169 h169x a1 b1 v1 b1x 0 (zB.wk (a' := 0) (b' := 63) (zB.of (x := 0) 0 (by decide)) (by decide) (by decide)) v119 bo119x v156 (zB.wk (a' := 0) (b' := 40) bo156x (by decide) (by decide)) 1 (zB.wk (a' := 0) (b' := 1) (zB.of (x := 1) 1 (by decide)) (by decide) (by decide)) hI163) rfl rfl h169x rfl rfl (Nat.le_of_ble_eq_true rfl) dX7_readCrime_103 (fun r170 g170 q170 => ?_)
                have qa170_0 : (0 : Int32).toInt = 0 := by decide
                have qa170_1 : (1 : Int32).toInt = 1 := by decide
                obtain ⟨rfl, hI170, hF170q, hp170_0⟩ := q170
                have hF170 := zFr.tr hF163 hF170q (by decide)
                simp only [Option.toList, List.cons_append, List.nil_append]
                have ek170_18_0_7 : (g170 18 0 7).toInt = (g163 18 0 7).toInt := by rw [hF170q 18 0 7 rfl]
                have c170_18_0_7x : zB (g170 18 0 7) (-1) (-1) := by first | exact zB.eqv ek170_18_0_7 c163_18_0_7x | (have q9 := c163_18_0_7x; constructor <;> omega)
                have ek170_18_0_4 : (g170 18 0 4).toInt = (g163 18 0 4).toInt := by rw [hF170q 18 0 4 rfl]
                have c170_18_0_4x : zB (g170 18 0 4) 0 11 := by first | exact zB.eqv ek170_18_0_4 c163_18_0_4x | (have q9 := c163_18_0_4x; constructor <;> omega)
                refine z_aload_n (pc := 106) C dX7_readCrime_106 rfl ?_
                refine z_dupr (pc := 107) C dX7_readCrime_107 ?_
                refine z_getI (pc := 108) C zf_X7_39 rfl rfl (by decide) dX7_readCrime_108 ?_
                refine w_gp (fun v => v = g170 18 0 4) rfl (fun v171 q171 => ?_)
                have e171 : v171.toInt = (g170 18 0 4).toInt := by rw [q171]
                have b171x : zB v171 0 11 := by first | exact zB.eqv e171 c170_18_0_4x | (have q9 := c170_18_0_4x; constructor <;> omega)
                refine z_iconst (pc := 111) (v := 1) C dX7_readCrime_111 (by decide) ?_
                refine z_iadd (pc := 112) C dX7_readCrime_112 ?_
                refine w_gp (fun v => v = v171 + (1 : Int32)) rfl (fun v172 q172 => ?_)
                have e172 : v172.toInt = v171.toInt + 1 := by rw [q172]; exact (zadd_eb b171x (zB.of (x := 1) 1 (by decide)) (by decide) (by decide))
                have b172x : zB v172 1 12 := by have q1 := b171x; have q2 := (zB.of (x := 1) 1 (by decide)); constructor <;> omega
                refine z_putI (pc := 113) C zf_X7_39 zp_7_4 rfl rfl (by decide) dX7_readCrime_113 ?_
                refine w_memx hI170 hF170 (zB.wk (a' := 0) (b' := 12) b172x (by decide) (by decide)) rfl (fun g173 qm173 hI173 hF173 hq173 hx173 => ?_)
                have ek173_18_0_7 : (g173 18 0 7).toInt = (g170 18 0 7).toInt := by rw [hq173 18 0 7 (by omega)]
                have c173_18_0_7x : zB (g173 18 0 7) (-1) (-1) := by first | exact zB.eqv ek173_18_0_7 c170_18_0_7x | (have q9 := c170_18_0_7x; constructor <;> omega)
                have ec173 : (g173 18 0 4).toInt = v172.toInt := by rw [hx173]
                have c173x : zB (g173 18 0 4) 1 12 := by first | exact zB.eqv ec173 b172x | (have q9 := b172x; constructor <;> omega)
                exact z_vret (pc := 116) C hr dX7_readCrime_116 ⟨rfl, hI173, hF173, (by
                                                                                          have em : v155.toInt = max 1 v119.toInt := by rw [q155, imax_e]; rfl
                                                                                          rw [em] at hd156
                                                                                          have hnn : m169 = 48 + (f 18 0 4).toInt.toNat := by omega
                                                                                          have hg := hp170_0
                                                                                          rw [hnn] at hg
                                                                                          refine Or.inr ⟨_, zc6 a1 v1 (0 : Int32) v119 v156 (1 : Int32), ?_, ?_, hb163, ?_, ?_, ?_, ?_⟩
                                                                                          · unfold zCr zmkC; simp only [zbd, hc1, if_neg hc37, hd119, hc133, hc145, hd156, if_pos hc163]
                                                                                          · rw [qm173, zup_ne _ _ (by omega), hg]; exact hq163
                                                                                          · rw [qm173, zup_ne _ _ (by omega), hg]; exact ft163
                                                                                          · rw [z32eq]
                                                                                            have e1 : (f 18 0 4 + 1 : Int32).toInt = (f 18 0 4).toInt + 1 := zadd_eb pf18_0_4 (zB.of (x := 1) 1 (by decide)) (by decide) (by decide)
                                                                                            omega
                                                                                          · intro j hj
                                                                                            rw [qm173, zup_ne _ _ (by omega), hg]
                                                                                            rcases (show j = 0 ∨ j = 1 ∨ j = 2 ∨ j = 3 ∨ j = 4 ∨ j = 5 by omega) with rfl | rfl | rfl | rfl | rfl | rfl <;> simp [zup, zc6]
                                                                                          · intro x j hj hx
                                                                                            rw [qm173, zup_ne _ _ (by omega), hg, zup_ne _ _ (by omega), zup_ne _ _ (by omega), zup_ne _ _ (by omega), zup_ne _ _ (by omega), zup_ne _ _ (by omega), zup_ne _ _ (by omega)]
                                                                                            exact kk7_163 x j)⟩
              · skip
                have hb163 : zsp T n (u156) ≤ n := zsp_len hb156
                refine z_istore (pc := 66) C dX7_readCrime_66 (by rw [hn]; decide) rfl ?_
                refine z_aload_n (pc := 68) C dX7_readCrime_68 rfl ?_
                refine z_getI (pc := 69) C zf_X7_36 rfl rfl (by decide) dX7_readCrime_69 ?_
                refine w_gp (fun v => v = g163 18 0 7) rfl (fun v174 q174 => ?_)
                have e174 : v174.toInt = (g163 18 0 7).toInt := by rw [q174]
                have b174x : zB v174 (-1) (-1) := by first | exact zB.eqv e174 c163_18_0_7x | (have q9 := c163_18_0_7x; constructor <;> omega)
                refine z_iconst (pc := 72) (v := -1) C dX7_readCrime_72 (by decide) ?_
                refine z_icmp_ne (pc := 73) 116 C dX7_readCrime_73 (by decide) (fun h73_174 => absurd h73_174 (by have q1 := b174x; have q2 := (zB.of (x := (-1)) (-1) (by decide)); first | (simp only [z32lt, z32le, z32eq]; omega) | (simp only [z32lt, z32le, z32eq] at *; omega))) (fun h73_174 => ?_)
                refine z_aload_n (pc := 76) C dX7_readCrime_76 rfl ?_
                refine z_getI (pc := 77) C zf_X7_39 rfl rfl (by decide) dX7_readCrime_77 ?_
                refine w_gp (fun v => v = g163 18 0 4) rfl (fun v176 q176 => ?_)
                have e176 : v176.toInt = (g163 18 0 4).toInt := by rw [q176]
                have b176x : zB v176 0 11 := by first | exact zB.eqv e176 c163_18_0_4x | (have q9 := c163_18_0_4x; constructor <;> omega)
                refine z_bipush (pc := 80) (v := 12) C dX7_readCrime_80 (by decide) ?_
                refine z_icmp_ge (pc := 82) 116 C dX7_readCrime_82 (by decide) (fun h82_176 => absurd h82_176 (by have q1 := b176x; have q2 := (zB.of (x := 12) 12 (by decide)); first | (simp only [z32lt, z32le, z32eq]; omega) | (simp only [z32lt, z32le, z32eq] at *; omega))) (fun h82_176 => ?_)
                refine z_aload_n (pc := 85) C dX7_readCrime_85 rfl ?_
                refine z_getR (pc := 86) C zf_X7_17 rfl rfl (by decide) dX7_readCrime_86 ?_
                refine z_aload_n (pc := 89) C dX7_readCrime_89 rfl ?_
                refine z_getI (pc := 90) C zf_X7_39 rfl rfl (by decide) dX7_readCrime_90 ?_
                refine w_gp (fun v => v = g163 18 0 4) rfl (fun v178 q178 => ?_)
                have e178 : v178.toInt = (g163 18 0 4).toInt := by rw [q178]
                have b178x : zB v178 0 11 := by first | exact zB.eqv e178 c163_18_0_4x | (have q9 := c163_18_0_4x; constructor <;> omega)
                refine z_aald (pc := 93) C rfl ⟨rfl, by decide⟩ (by decide) (zIx b178x (by decide) (by decide)) dX7_readCrime_93 ?_
                refine w_grx (by have hq := zN b178x (by decide); show 48 + v178.toNatClampNeg < 60; omega) (fun m179 q179r h179x => ?_)
                have q179r : m179 = 48 + v178.toNatClampNeg := q179r
                have k179r : v178.toNatClampNeg = v178.toInt.toNat := rfl
                refine z_iload_n (pc := 94) C dX7_readCrime_94 rfl ?_
                refine z_iload_n (pc := 95) C dX7_readCrime_95 rfl ?_
                refine z_iload_n (pc := 96) C dX7_readCrime_96 rfl ?_
                refine z_iload (pc := 97) C dX7_readCrime_97 rfl ?_
                refine z_iload (pc := 99) C dX7_readCrime_99 rfl ?_
                refine z_iload (pc := 101) C dX7_readCrime_101 rfl ?_
                refine z_callV (pc := 103) C zk_X7_85 (x_X0_tell _ _ m179 h179x a1 b1 v1 b1x 0 (zB.wk (a' := 0) (b' := 63) (zB.of (x := 0) 0 (by decide)) (by decide) (by decide)) v119 bo119x v156 (zB.wk (a' := 0) (b' := 40) bo156x (by decide) (by decide)) 0 (zB.wk (a' := 0) (b' := 1) (zB.of (x := 0) 0 (by decide)) (by decide) (by decide)) hI163) rfl rfl h179x rfl rfl (Nat.le_of_ble_eq_true rfl) dX7_readCrime_103 (fun r180 g180 q180 => ?_)
                have qa180_0 : (0 : Int32).toInt = 0 := by decide
                obtain ⟨rfl, hI180, hF180q, hp180_0⟩ := q180
                have hF180 := zFr.tr hF163 hF180q (by decide)
                simp only [Option.toList, List.cons_append, List.nil_append]
                have ek180_18_0_7 : (g180 18 0 7).toInt = (g163 18 0 7).toInt := by rw [hF180q 18 0 7 rfl]
                have c180_18_0_7x : zB (g180 18 0 7) (-1) (-1) := by first | exact zB.eqv ek180_18_0_7 c163_18_0_7x | (have q9 := c163_18_0_7x; constructor <;> omega)
                have ek180_18_0_4 : (g180 18 0 4).toInt = (g163 18 0 4).toInt := by rw [hF180q 18 0 4 rfl]
                have c180_18_0_4x : zB (g180 18 0 4) 0 11 := by first | exact zB.eqv ek180_18_0_4 c163_18_0_4x | (have q9 := c163_18_0_4x; constructor <;> omega)
                refine z_aload_n (pc := 106) C dX7_readCrime_106 rfl ?_
                refine z_dupr (pc := 107) C dX7_readCrime_107 ?_
                refine z_getI (pc := 108) C zf_X7_39 rfl rfl (by decide) dX7_readCrime_108 ?_
                refine w_gp (fun v => v = g180 18 0 4) rfl (fun v181 q181 => ?_)
                have e181 : v181.toInt = (g180 18 0 4).toInt := by rw [q181]
                have b181x : zB v181 0 11 := by first | exact zB.eqv e181 c180_18_0_4x | (have q9 := c180_18_0_4x; constructor <;> omega)
                refine z_iconst (pc := 111) (v := 1) C dX7_readCrime_111 (by decide) ?_
                refine z_iadd (pc := 112) C dX7_readCrime_112 ?_
                refine w_gp (fun v => v = v181 + (1 : Int32)) rfl (fun v182 q182 => ?_)
                have e182 : v182.toInt = v181.toInt + 1 := by rw [q182]; exact (zadd_eb b181x (zB.of (x := 1) 1 (by decide)) (by decide) (by decide))
                have b182x : zB v182 1 12 := by have q1 := b181x; have q2 := (zB.of (x := 1) 1 (by decide)); constructor <;> omega
                refine z_putI (pc := 113) C zf_X7_39 zp_7_4 rfl rfl (by decide) dX7_readCrime_113 ?_
                refine w_memx hI180 hF180 (zB.wk (a' := 0) (b' := 12) b182x (by decide) (by decide)) rfl (fun g183 qm183 hI183 hF183 hq183 hx183 => ?_)
                have ek183_18_0_7 : (g183 18 0 7).toInt = (g180 18 0 7).toInt := by rw [hq183 18 0 7 (by omega)]
                have c183_18_0_7x : zB (g183 18 0 7) (-1) (-1) := by first | exact zB.eqv ek183_18_0_7 c180_18_0_7x | (have q9 := c180_18_0_7x; constructor <;> omega)
                have ec183 : (g183 18 0 4).toInt = v182.toInt := by rw [hx183]
                have c183x : zB (g183 18 0 4) 1 12 := by first | exact zB.eqv ec183 b182x | (have q9 := b182x; constructor <;> omega)
                exact z_vret (pc := 116) C hr dX7_readCrime_116 ⟨rfl, hI183, hF183, (by
                                                                                          have em : v155.toInt = max 1 v119.toInt := by rw [q155, imax_e]; rfl
                                                                                          rw [em] at hd156
                                                                                          have hnn : m179 = 48 + (f 18 0 4).toInt.toNat := by omega
                                                                                          have hg := hp180_0
                                                                                          rw [hnn] at hg
                                                                                          refine Or.inr ⟨_, zc6 a1 v1 (0 : Int32) v119 v156 (0 : Int32), ?_, ?_, hb163, ?_, ?_, ?_, ?_⟩
                                                                                          · unfold zCr zmkC; simp only [zbd, hc1, if_neg hc37, hd119, hc133, hc145, hd156, if_neg hc163]
                                                                                          · rw [qm183, zup_ne _ _ (by omega), hg]; exact hq163
                                                                                          · rw [qm183, zup_ne _ _ (by omega), hg]; exact ft163
                                                                                          · rw [z32eq]
                                                                                            have e1 : (f 18 0 4 + 1 : Int32).toInt = (f 18 0 4).toInt + 1 := zadd_eb pf18_0_4 (zB.of (x := 1) 1 (by decide)) (by decide) (by decide)
                                                                                            omega
                                                                                          · intro j hj
                                                                                            rw [qm183, zup_ne _ _ (by omega), hg]
                                                                                            rcases (show j = 0 ∨ j = 1 ∨ j = 2 ∨ j = 3 ∨ j = 4 ∨ j = 5 by omega) with rfl | rfl | rfl | rfl | rfl | rfl <;> simp [zup, zc6]
                                                                                          · intro x j hj hx
                                                                                            rw [qm183, zup_ne _ _ (by omega), hg, zup_ne _ _ (by omega), zup_ne _ _ (by omega), zup_ne _ _ (by omega), zup_ne _ _ (by omega), zup_ne _ _ (by omega), zup_ne _ _ (by omega)]
                                                                                            exact kk7_163 x j)⟩

set_option maxRecDepth 100000 in
set_option maxHeartbeats 4000000 in
theorem e_X7_readPaper (d : Nat) (f : zM) (a1 : Int32) (b1 : zB a1 0 5) (pf18_0_5 : zB (f 18 0 5) 0 11) (T : Nat → Int32) (n p : Nat) (hN : n ≤ 120) (h18 : f 18 0 3 = nI n) (hTp : ∀ i, i < n → f 19 0 i = T i) (hp : f 18 0 6 = nI p) (hb : p ≤ n) (ft : f 18 0 7 = -1) (hI : zInv f) : ZMs (d + 6) yX7_readPaper cX7_readPaper 9 none [zr 18 0, zi a1] f (fun r g => r = none ∧ zInv g ∧ zFr [(11, some 0), (11, some 1), (11, some 2), (11, some 3), (11, some 4), (11, some 5), (11, some 6), (11, some 7), (18, some 5), (18, some 6), (18, some 7)] f g ∧ ((∃ e, zpaC T n a1 p = .inl e ∧ e ≤ n ∧ g 18 0 7 = nI e ∧ (∀ x j, g 11 x j = f 11 x j)) ∨ (∃ q c, zpaC T n a1 p = .inr (c, q) ∧ g 18 0 6 = nI q ∧ q ≤ n ∧ g 18 0 7 = -1 ∧ g 18 0 5 = f 18 0 5 + 1 ∧ (∀ j, j < 8 → g 11 (24 + (f 18 0 5).toInt.toNat) j = c j) ∧ (∀ x j, j < 8 → x ≠ 24 + (f 18 0 5).toInt.toNat → g 11 x j = f 11 x j)))) := by
  refine ZMs.intro (by decide +kernel) (Nat.le_of_ble_eq_true rfl) ?_
  intro X C hr hn hT
  have hF : zFr [(11, some 0), (11, some 1), (11, some 2), (11, some 3), (11, some 4), (11, some 5), (11, some 6), (11, some 7), (18, some 5), (18, some 6), (18, some 7)] f f := zFr.rf _ _
  have ct18_0_7 : zB (f 18 0 7) (-1) 120 := hI 18 0 7
  show Z X 0 [some (zr 18 0), some (zi a1), none, none, none, none, none, none, none] [] f
  refine z_aload_n (pc := 0) C dX7_readPaper_0 rfl ?_
  refine z_iload_n (pc := 1) C dX7_readPaper_1 rfl ?_
  refine z_callV (pc := 2) C zk_X7_60 (e_X7_readLand _ _ a1 (zB.wk (a' := (-4)) (b' := 5) b1 (by decide) (by decide))  T n (p) hN h18 hTp hp hb ft hI) rfl rfl (by decide) rfl rfl (Nat.le_of_ble_eq_true rfl) dX7_readPaper_2 (fun r1 g1 q1 => ?_)
  obtain ⟨⟨v1, rfl, b1x⟩, hI1, hF1q, hp1⟩ := q1
  have hp1 := hp1 _ rfl
  have hF1 := zFr.tr hF hF1q (by decide)
  simp only [Option.toList, List.cons_append, List.nil_append]
  have cr1_18_0_7 : zB (g1 18 0 7) (-1) 120 := hI1 18 0 7
  have ek1_18_0_5 : (g1 18 0 5).toInt = (f 18 0 5).toInt := by rw [hF1q 18 0 5 rfl]
  have c1_18_0_5x : zB (g1 18 0 5) 0 11 := by first | exact zB.eqv ek1_18_0_5 pf18_0_5 | (have q9 := pf18_0_5; constructor <;> omega)
  rcases hp1 with ⟨u1, hc1, hb1, hz1⟩ | ⟨u1, hc1, hq1, hb1, ft1⟩
  · skip
    have kk11_1 : ∀ x j, g1 11 x j = f 11 x j := fun x j => (hF1q 11 x j rfl).trans ((fun _ _ => rfl) x j)
    have hzi1 : (g1 18 0 7).toInt = (u1 : Int) := by rw [hz1]; exact nI_toInt (by omega)
    have c2x : zB (g1 18 0 7) 0 120 := by first | assumption | (constructor <;> omega)
    refine z_istore_n (pc := 5) C dX7_readPaper_5 (by rw [hn]; decide) rfl ?_
    refine z_aload_n (pc := 6) C dX7_readPaper_6 rfl ?_
    refine z_bipush (pc := 7) (v := 121) C dX7_readPaper_7 (by decide) ?_
    refine z_callV (pc := 9) C zk_X7_48 (w_X7_takes _ _ 121 (zB.wk (a' := 1) (b' := 126) (zB.of (x := 121) 121 (by decide)) (by decide) (by decide)) hI1) rfl rfl (by decide) rfl rfl (Nat.le_of_ble_eq_true rfl) dX7_readPaper_9 (fun r3 g3 q3 => ?_)
    obtain ⟨⟨v3, rfl, b3x⟩, hI3, hF3q⟩ := q3
    have hF3 := zFr.tr hF1 hF3q (by decide)
    simp only [Option.toList, List.cons_append, List.nil_append]
    have ek3_18_0_7 : (g3 18 0 7).toInt = (g1 18 0 7).toInt := by rw [hF3q 18 0 7 rfl]
    have c3_18_0_7x : zB (g3 18 0 7) 0 120 := by first | exact zB.eqv ek3_18_0_7 c2x | (have q9 := c2x; constructor <;> omega)
    have ek3_18_0_5 : (g3 18 0 5).toInt = (g1 18 0 5).toInt := by rw [hF3q 18 0 5 rfl]
    have c3_18_0_5x : zB (g3 18 0 5) 0 11 := by first | exact zB.eqv ek3_18_0_5 c1_18_0_5x | (have q9 := c1_18_0_5x; constructor <;> omega)
    have c4x : zB (g3 18 0 7) 0 120 := by first | assumption | (constructor <;> omega)
    have kk11_3 : ∀ x j, g3 11 x j = f 11 x j := fun x j => (hF3q 11 x j rfl).trans (kk11_1 x j)
    refine z_istore_n (pc := 12) C dX7_readPaper_12 (by rw [hn]; decide) rfl ?_
    refine z_iconst (pc := 13) (v := 1) C dX7_readPaper_13 (by decide) ?_
    refine z_istore (pc := 14) C dX7_readPaper_14 (by rw [hn]; decide) rfl ?_
    refine z_iload_n (pc := 16) C dX7_readPaper_16 rfl ?_
    refine z_if_eq (pc := 17) 32 C dX7_readPaper_17 (by decide) (fun h17_4 => ?_) (fun h17_4 => ?_)
    · skip
      have b6x : zB v3 0 0 := by have q1 := b3x; have q2 := (zB.of (x := 0) 0 (by decide)); simp only [z32lt, z32le, z32eq, Int32.reduceToInt, Int32.toInt_zero] at h17_4; constructor <;> omega
      refine z_aload_n (pc := 32) C dX7_readPaper_32 rfl ?_
      refine z_bipush (pc := 33) (v := 42) C dX7_readPaper_33 (by decide) ?_
      refine z_callV (pc := 35) C zk_X7_77 (k_X7_need _ _ 42 (zB.wk (a' := 1) (b' := 126) (zB.of (x := 42) 42 (by decide)) (by decide) (by decide)) hI3) rfl rfl (by decide) rfl rfl (Nat.le_of_ble_eq_true rfl) dX7_readPaper_35 (fun r7 g7 q7 => ?_)
      have qa7_42 : (42 : Int32).toInt = 42 := by decide
      obtain ⟨rfl, hI7, hF7q, hp7_0, hp7_1⟩ := q7
      have hF7 := zFr.tr hF3 hF7q (by decide)
      simp only [Option.toList, List.cons_append, List.nil_append]
      have cr7_18_0_7 : zB (g7 18 0 7) (-1) 120 := hI7 18 0 7
      have ek7_18_0_5 : (g7 18 0 5).toInt = (g3 18 0 5).toInt := by rw [hF7q 18 0 5 rfl]
      have c7_18_0_5x : zB (g7 18 0 5) 0 11 := by first | exact zB.eqv ek7_18_0_5 c3_18_0_5x | (have q9 := c3_18_0_5x; constructor <;> omega)
      have c8x : zB (g7 18 0 7) 0 120 := by first | assumption | (constructor <;> omega)
      have kk11_7 : ∀ x j, g7 11 x j = f 11 x j := fun x j => (hF7q 11 x j rfl).trans (kk11_3 x j)
      refine z_aload_n (pc := 38) C dX7_readPaper_38 rfl ?_
      refine z_ldcT (pc := 39) (i := 0) (tx := "") C hT (Or.inl ⟨rfl, rfl⟩) dX7_readPaper_39 ?_
      refine z_iconst (pc := 41) (v := 0) C dX7_readPaper_41 (by decide) ?_
      refine z_callVS (pc := 42) C hT zk_X7_91 (k_X7_readLetters_0 _ _ 0 (zB.wk (a' := 0) (b' := 1) (zB.of (x := 0) 0 (by decide)) (by decide) (by decide)) hI7) rfl rfl (by decide) rfl rfl (Nat.le_of_ble_eq_true rfl) dX7_readPaper_42 (fun r9 g9 q9 => ?_)
      have qa9_0 : (0 : Int32).toInt = 0 := by decide
      obtain ⟨⟨v9, rfl, b9x⟩, hI9, hF9q, hp9_0, hp9_1⟩ := q9
      have hp9_0 := hp9_0 _ rfl
      have hp9_1 := hp9_1 _ rfl
      have hF9 := zFr.tr hF7 hF9q (by decide)
      simp only [Option.toList, List.cons_append, List.nil_append]
      have cr9_18_0_7 : zB (g9 18 0 7) (-1) 120 := hI9 18 0 7
      have ek9_18_0_5 : (g9 18 0 5).toInt = (g7 18 0 5).toInt := by rw [hF9q 18 0 5 rfl]
      have c9_18_0_5x : zB (g9 18 0 5) 0 11 := by first | exact zB.eqv ek9_18_0_5 c7_18_0_5x | (have q9 := c7_18_0_5x; constructor <;> omega)
      have c10x : zB (g9 18 0 7) 0 120 := by first | assumption | (constructor <;> omega)
      have kk11_9 : ∀ x j, g9 11 x j = f 11 x j := fun x j => (hF9q 11 x j rfl).trans (kk11_7 x j)
      refine z_istore (pc := 45) C dX7_readPaper_45 (by rw [hn]; decide) rfl ?_
      refine z_aload_n (pc := 47) C dX7_readPaper_47 rfl ?_
      refine z_bipush (pc := 48) (v := 116) C dX7_readPaper_48 (by decide) ?_
      refine z_callV (pc := 50) C zk_X7_48 (w_X7_takes _ _ 116 (zB.wk (a' := 1) (b' := 126) (zB.of (x := 116) 116 (by decide)) (by decide) (by decide)) hI9) rfl rfl (by decide) rfl rfl (Nat.le_of_ble_eq_true rfl) dX7_readPaper_50 (fun r11 g11 q11 => ?_)
      obtain ⟨⟨v11, rfl, b11x⟩, hI11, hF11q⟩ := q11
      have hF11 := zFr.tr hF9 hF11q (by decide)
      simp only [Option.toList, List.cons_append, List.nil_append]
      have ek11_18_0_7 : (g11 18 0 7).toInt = (g9 18 0 7).toInt := by rw [hF11q 18 0 7 rfl]
      have c11_18_0_7x : zB (g11 18 0 7) 0 120 := by first | exact zB.eqv ek11_18_0_7 c10x | (have q9 := c10x; constructor <;> omega)
      have ek11_18_0_5 : (g11 18 0 5).toInt = (g9 18 0 5).toInt := by rw [hF11q 18 0 5 rfl]
      have c11_18_0_5x : zB (g11 18 0 5) 0 11 := by first | exact zB.eqv ek11_18_0_5 c9_18_0_5x | (have q9 := c9_18_0_5x; constructor <;> omega)
      have c12x : zB (g11 18 0 7) 0 120 := by first | assumption | (constructor <;> omega)
      have kk11_11 : ∀ x j, g11 11 x j = f 11 x j := fun x j => (hF11q 11 x j rfl).trans (kk11_9 x j)
      refine z_if_eq (pc := 53) 66 C dX7_readPaper_53 (by decide) (fun h53_12 => ?_) (fun h53_12 => ?_)
      · skip
        have b14x : zB v11 0 0 := by have q1 := b11x; have q2 := (zB.of (x := 0) 0 (by decide)); simp only [z32lt, z32le, z32eq, Int32.reduceToInt, Int32.toInt_zero] at h53_12; constructor <;> omega
        refine z_iconst (pc := 66) (v := 0) C dX7_readPaper_66 (by decide) ?_
        refine z_istore (pc := 67) C dX7_readPaper_67 (by rw [hn]; decide) rfl ?_
        refine z_aload_n (pc := 69) C dX7_readPaper_69 rfl ?_
        refine z_bipush (pc := 70) (v := 43) C dX7_readPaper_70 (by decide) ?_
        refine z_callV (pc := 72) C zk_X7_48 (w_X7_takes _ _ 43 (zB.wk (a' := 1) (b' := 126) (zB.of (x := 43) 43 (by decide)) (by decide) (by decide)) hI11) rfl rfl (by decide) rfl rfl (Nat.le_of_ble_eq_true rfl) dX7_readPaper_72 (fun r15 g15 q15 => ?_)
        obtain ⟨⟨v15, rfl, b15x⟩, hI15, hF15q⟩ := q15
        have hF15 := zFr.tr hF11 hF15q (by decide)
        simp only [Option.toList, List.cons_append, List.nil_append]
        have ek15_18_0_7 : (g15 18 0 7).toInt = (g11 18 0 7).toInt := by rw [hF15q 18 0 7 rfl]
        have c15_18_0_7x : zB (g15 18 0 7) 0 120 := by first | exact zB.eqv ek15_18_0_7 c12x | (have q9 := c12x; constructor <;> omega)
        have ek15_18_0_5 : (g15 18 0 5).toInt = (g11 18 0 5).toInt := by rw [hF15q 18 0 5 rfl]
        have c15_18_0_5x : zB (g15 18 0 5) 0 11 := by first | exact zB.eqv ek15_18_0_5 c11_18_0_5x | (have q9 := c11_18_0_5x; constructor <;> omega)
        have c16x : zB (g15 18 0 7) 0 120 := by first | assumption | (constructor <;> omega)
        have kk11_15 : ∀ x j, g15 11 x j = f 11 x j := fun x j => (hF15q 11 x j rfl).trans (kk11_11 x j)
        refine z_if_eq (pc := 75) 85 C dX7_readPaper_75 (by decide) (fun h75_16 => ?_) (fun h75_16 => ?_)
        · skip
          have b18x : zB v15 0 0 := by have q1 := b15x; have q2 := (zB.of (x := 0) 0 (by decide)); simp only [z32lt, z32le, z32eq, Int32.reduceToInt, Int32.toInt_zero] at h75_16; constructor <;> omega
          refine z_iconst (pc := 85) (v := 0) C dX7_readPaper_85 (by decide) ?_
          refine z_istore (pc := 86) C dX7_readPaper_86 (by rw [hn]; decide) rfl ?_
          refine z_aload_n (pc := 88) C dX7_readPaper_88 rfl ?_
          refine z_getI (pc := 89) C zf_X7_36 rfl rfl (by decide) dX7_readPaper_89 ?_
          refine w_gp (fun v => v = g15 18 0 7) rfl (fun v19 q19 => ?_)
          have e19 : v19.toInt = (g15 18 0 7).toInt := by rw [q19]
          have b19x : zB v19 0 120 := by first | exact zB.eqv e19 c16x | (have q9 := c16x; constructor <;> omega)
          refine z_iconst (pc := 92) (v := -1) C dX7_readPaper_92 (by decide) ?_
          refine z_icmp_ne (pc := 93) 161 C dX7_readPaper_93 (by decide) (fun h93_19 => ?_) (fun h93_19 => absurd h93_19 (by have q1 := b19x; have q2 := (zB.of (x := (-1)) (-1) (by decide)); first | (simp only [z32lt, z32le, z32eq]; omega) | (simp only [z32lt, z32le, z32eq] at *; omega)))
          exact z_vret (pc := 161) C hr dX7_readPaper_161 ⟨rfl, hI15, hF15, (by
                                                                                          refine Or.inl ⟨u1, ?_, hb1, ?_, (fun x j => kk11_15 x j)⟩
                                                                                          · unfold zpaC zPa zbrC; simp only [zbd, zPb, hc1]
                                                                                          · rw [z32eq, nI_toInt (by omega)]
                                                                                            omega)⟩
        · skip
          have b21x : zB v15 1 1 := by have q1 := b15x; have q2 := (zB.of (x := 0) 0 (by decide)); simp only [z32lt, z32le, z32eq, Int32.reduceToInt, Int32.toInt_zero] at h75_16; constructor <;> omega
          refine z_aload_n (pc := 78) C dX7_readPaper_78 rfl ?_
          refine z_callVS (pc := 79) C hT zk_X7_95 (k_X7_readPromises _ _  hI15) rfl rfl (by decide) rfl rfl (Nat.le_of_ble_eq_true rfl) dX7_readPaper_79 (fun r22 g22 q22 => ?_)
          obtain ⟨⟨v22, rfl, b22x⟩, hI22, hF22q, hp22_0, hp22_1⟩ := q22
          have hp22_0 := hp22_0 _ rfl
          have hp22_1 := hp22_1 _ rfl
          have hF22 := zFr.tr hF15 hF22q (by decide)
          simp only [Option.toList, List.cons_append, List.nil_append]
          have cr22_18_0_7 : zB (g22 18 0 7) (-1) 120 := hI22 18 0 7
          have ek22_18_0_5 : (g22 18 0 5).toInt = (g15 18 0 5).toInt := by rw [hF22q 18 0 5 rfl]
          have c22_18_0_5x : zB (g22 18 0 5) 0 11 := by first | exact zB.eqv ek22_18_0_5 c15_18_0_5x | (have q9 := c15_18_0_5x; constructor <;> omega)
          have c23x : zB (g22 18 0 7) 0 120 := by first | assumption | (constructor <;> omega)
          have kk11_22 : ∀ x j, g22 11 x j = f 11 x j := fun x j => (hF22q 11 x j rfl).trans (kk11_15 x j)
          refine z_goto (pc := 82) 86 C dX7_readPaper_82 (by decide) ?_
          refine z_istore (pc := 86) C dX7_readPaper_86 (by rw [hn]; decide) rfl ?_
          refine z_aload_n (pc := 88) C dX7_readPaper_88 rfl ?_
          refine z_getI (pc := 89) C zf_X7_36 rfl rfl (by decide) dX7_readPaper_89 ?_
          refine w_gp (fun v => v = g22 18 0 7) rfl (fun v24 q24 => ?_)
          have e24 : v24.toInt = (g22 18 0 7).toInt := by rw [q24]
          have b24x : zB v24 0 120 := by first | exact zB.eqv e24 c23x | (have q9 := c23x; constructor <;> omega)
          refine z_iconst (pc := 92) (v := -1) C dX7_readPaper_92 (by decide) ?_
          refine z_icmp_ne (pc := 93) 161 C dX7_readPaper_93 (by decide) (fun h93_24 => ?_) (fun h93_24 => absurd h93_24 (by have q1 := b24x; have q2 := (zB.of (x := (-1)) (-1) (by decide)); first | (simp only [z32lt, z32le, z32eq]; omega) | (simp only [z32lt, z32le, z32eq] at *; omega)))
          exact z_vret (pc := 161) C hr dX7_readPaper_161 ⟨rfl, hI22, hF22, (by
                                                                                          refine Or.inl ⟨u1, ?_, hb1, ?_, (fun x j => kk11_22 x j)⟩
                                                                                          · unfold zpaC zPa zbrC; simp only [zbd, zPb, hc1]
                                                                                          · rw [z32eq, nI_toInt (by omega)]
                                                                                            omega)⟩
      · skip
        have b26x : zB v11 1 1 := by have q1 := b11x; have q2 := (zB.of (x := 0) 0 (by decide)); simp only [z32lt, z32le, z32eq, Int32.reduceToInt, Int32.toInt_zero] at h53_12; constructor <;> omega
        refine z_aload_n (pc := 56) C dX7_readPaper_56 rfl ?_
        refine z_iconst (pc := 57) (v := 1) C dX7_readPaper_57 (by decide) ?_
        refine z_bipush (pc := 58) (v := 99) C dX7_readPaper_58 (by decide) ?_
        refine z_callV (pc := 60) C zk_X7_73 (k_X7_readNumber _ _ 1 (zB.wk (a' := (-2147483648)) (b' := 1000) (zB.of (x := 1) 1 (by decide)) (by decide) (by decide)) 99 (zB.wk (a' := 0) (b' := 99) (zB.of (x := 99) 99 (by decide)) (by decide) (by decide)) hI11) rfl rfl (by decide) rfl rfl (Nat.le_of_ble_eq_true rfl) dX7_readPaper_60 (fun r27 g27 q27 => ?_)
        have qa27_1 : (1 : Int32).toInt = 1 := by decide
        have qa27_99 : (99 : Int32).toInt = 99 := by decide
        obtain ⟨⟨v27, rfl, b27x⟩, hI27, hF27q, hp27_0, hp27_1, hp27_2⟩ := q27
        have hp27_0 := hp27_0 _ rfl
        have hp27_1 := hp27_1 _ rfl
        have hp27_2 := hp27_2 _ rfl
        have hF27 := zFr.tr hF11 hF27q (by decide)
        simp only [Option.toList, List.cons_append, List.nil_append]
        have cr27_18_0_7 : zB (g27 18 0 7) (-1) 120 := hI27 18 0 7
        have ek27_18_0_5 : (g27 18 0 5).toInt = (g11 18 0 5).toInt := by rw [hF27q 18 0 5 rfl]
        have c27_18_0_5x : zB (g27 18 0 5) 0 11 := by first | exact zB.eqv ek27_18_0_5 c11_18_0_5x | (have q9 := c11_18_0_5x; constructor <;> omega)
        have c28x : zB (g27 18 0 7) 0 120 := by first | assumption | (constructor <;> omega)
        have kk11_27 : ∀ x j, g27 11 x j = f 11 x j := fun x j => (hF27q 11 x j rfl).trans (kk11_11 x j)
        refine z_goto (pc := 63) 67 C dX7_readPaper_63 (by decide) ?_
        refine z_istore (pc := 67) C dX7_readPaper_67 (by rw [hn]; decide) rfl ?_
        refine z_aload_n (pc := 69) C dX7_readPaper_69 rfl ?_
        refine z_bipush (pc := 70) (v := 43) C dX7_readPaper_70 (by decide) ?_
        refine z_callV (pc := 72) C zk_X7_48 (w_X7_takes _ _ 43 (zB.wk (a' := 1) (b' := 126) (zB.of (x := 43) 43 (by decide)) (by decide) (by decide)) hI27) rfl rfl (by decide) rfl rfl (Nat.le_of_ble_eq_true rfl) dX7_readPaper_72 (fun r29 g29 q29 => ?_)
        obtain ⟨⟨v29, rfl, b29x⟩, hI29, hF29q⟩ := q29
        have hF29 := zFr.tr hF27 hF29q (by decide)
        simp only [Option.toList, List.cons_append, List.nil_append]
        have ek29_18_0_7 : (g29 18 0 7).toInt = (g27 18 0 7).toInt := by rw [hF29q 18 0 7 rfl]
        have c29_18_0_7x : zB (g29 18 0 7) 0 120 := by first | exact zB.eqv ek29_18_0_7 c28x | (have q9 := c28x; constructor <;> omega)
        have ek29_18_0_5 : (g29 18 0 5).toInt = (g27 18 0 5).toInt := by rw [hF29q 18 0 5 rfl]
        have c29_18_0_5x : zB (g29 18 0 5) 0 11 := by first | exact zB.eqv ek29_18_0_5 c27_18_0_5x | (have q9 := c27_18_0_5x; constructor <;> omega)
        have c30x : zB (g29 18 0 7) 0 120 := by first | assumption | (constructor <;> omega)
        have kk11_29 : ∀ x j, g29 11 x j = f 11 x j := fun x j => (hF29q 11 x j rfl).trans (kk11_27 x j)
        refine z_if_eq (pc := 75) 85 C dX7_readPaper_75 (by decide) (fun h75_30 => ?_) (fun h75_30 => ?_)
        · skip
          have b32x : zB v29 0 0 := by have q1 := b29x; have q2 := (zB.of (x := 0) 0 (by decide)); simp only [z32lt, z32le, z32eq, Int32.reduceToInt, Int32.toInt_zero] at h75_30; constructor <;> omega
          refine z_iconst (pc := 85) (v := 0) C dX7_readPaper_85 (by decide) ?_
          refine z_istore (pc := 86) C dX7_readPaper_86 (by rw [hn]; decide) rfl ?_
          refine z_aload_n (pc := 88) C dX7_readPaper_88 rfl ?_
          refine z_getI (pc := 89) C zf_X7_36 rfl rfl (by decide) dX7_readPaper_89 ?_
          refine w_gp (fun v => v = g29 18 0 7) rfl (fun v33 q33 => ?_)
          have e33 : v33.toInt = (g29 18 0 7).toInt := by rw [q33]
          have b33x : zB v33 0 120 := by first | exact zB.eqv e33 c30x | (have q9 := c30x; constructor <;> omega)
          refine z_iconst (pc := 92) (v := -1) C dX7_readPaper_92 (by decide) ?_
          refine z_icmp_ne (pc := 93) 161 C dX7_readPaper_93 (by decide) (fun h93_33 => ?_) (fun h93_33 => absurd h93_33 (by have q1 := b33x; have q2 := (zB.of (x := (-1)) (-1) (by decide)); first | (simp only [z32lt, z32le, z32eq]; omega) | (simp only [z32lt, z32le, z32eq] at *; omega)))
          exact z_vret (pc := 161) C hr dX7_readPaper_161 ⟨rfl, hI29, hF29, (by
                                                                                          refine Or.inl ⟨u1, ?_, hb1, ?_, (fun x j => kk11_29 x j)⟩
                                                                                          · unfold zpaC zPa zbrC; simp only [zbd, zPb, hc1]
                                                                                          · rw [z32eq, nI_toInt (by omega)]
                                                                                            omega)⟩
        · skip
          have b35x : zB v29 1 1 := by have q1 := b29x; have q2 := (zB.of (x := 0) 0 (by decide)); simp only [z32lt, z32le, z32eq, Int32.reduceToInt, Int32.toInt_zero] at h75_30; constructor <;> omega
          refine z_aload_n (pc := 78) C dX7_readPaper_78 rfl ?_
          refine z_callVS (pc := 79) C hT zk_X7_95 (k_X7_readPromises _ _  hI29) rfl rfl (by decide) rfl rfl (Nat.le_of_ble_eq_true rfl) dX7_readPaper_79 (fun r36 g36 q36 => ?_)
          obtain ⟨⟨v36, rfl, b36x⟩, hI36, hF36q, hp36_0, hp36_1⟩ := q36
          have hp36_0 := hp36_0 _ rfl
          have hp36_1 := hp36_1 _ rfl
          have hF36 := zFr.tr hF29 hF36q (by decide)
          simp only [Option.toList, List.cons_append, List.nil_append]
          have cr36_18_0_7 : zB (g36 18 0 7) (-1) 120 := hI36 18 0 7
          have ek36_18_0_5 : (g36 18 0 5).toInt = (g29 18 0 5).toInt := by rw [hF36q 18 0 5 rfl]
          have c36_18_0_5x : zB (g36 18 0 5) 0 11 := by first | exact zB.eqv ek36_18_0_5 c29_18_0_5x | (have q9 := c29_18_0_5x; constructor <;> omega)
          have c37x : zB (g36 18 0 7) 0 120 := by first | assumption | (constructor <;> omega)
          have kk11_36 : ∀ x j, g36 11 x j = f 11 x j := fun x j => (hF36q 11 x j rfl).trans (kk11_29 x j)
          refine z_goto (pc := 82) 86 C dX7_readPaper_82 (by decide) ?_
          refine z_istore (pc := 86) C dX7_readPaper_86 (by rw [hn]; decide) rfl ?_
          refine z_aload_n (pc := 88) C dX7_readPaper_88 rfl ?_
          refine z_getI (pc := 89) C zf_X7_36 rfl rfl (by decide) dX7_readPaper_89 ?_
          refine w_gp (fun v => v = g36 18 0 7) rfl (fun v38 q38 => ?_)
          have e38 : v38.toInt = (g36 18 0 7).toInt := by rw [q38]
          have b38x : zB v38 0 120 := by first | exact zB.eqv e38 c37x | (have q9 := c37x; constructor <;> omega)
          refine z_iconst (pc := 92) (v := -1) C dX7_readPaper_92 (by decide) ?_
          refine z_icmp_ne (pc := 93) 161 C dX7_readPaper_93 (by decide) (fun h93_38 => ?_) (fun h93_38 => absurd h93_38 (by have q1 := b38x; have q2 := (zB.of (x := (-1)) (-1) (by decide)); first | (simp only [z32lt, z32le, z32eq]; omega) | (simp only [z32lt, z32le, z32eq] at *; omega)))
          exact z_vret (pc := 161) C hr dX7_readPaper_161 ⟨rfl, hI36, hF36, (by
                                                                                          refine Or.inl ⟨u1, ?_, hb1, ?_, (fun x j => kk11_36 x j)⟩
                                                                                          · unfold zpaC zPa zbrC; simp only [zbd, zPb, hc1]
                                                                                          · rw [z32eq, nI_toInt (by omega)]
                                                                                            omega)⟩
    · skip
      have b40x : zB v3 1 1 := by have q1 := b3x; have q2 := (zB.of (x := 0) 0 (by decide)); simp only [z32lt, z32le, z32eq, Int32.reduceToInt, Int32.toInt_zero] at h17_4; constructor <;> omega
      refine z_aload_n (pc := 20) C dX7_readPaper_20 rfl ?_
      refine z_iconst (pc := 21) (v := 1) C dX7_readPaper_21 (by decide) ?_
      refine z_bipush (pc := 22) (v := 40) C dX7_readPaper_22 (by decide) ?_
      refine z_callV (pc := 24) C zk_X7_73 (k_X7_readNumber _ _ 1 (zB.wk (a' := (-2147483648)) (b' := 1000) (zB.of (x := 1) 1 (by decide)) (by decide) (by decide)) 40 (zB.wk (a' := 0) (b' := 99) (zB.of (x := 40) 40 (by decide)) (by decide) (by decide)) hI3) rfl rfl (by decide) rfl rfl (Nat.le_of_ble_eq_true rfl) dX7_readPaper_24 (fun r41 g41 q41 => ?_)
      have qa41_1 : (1 : Int32).toInt = 1 := by decide
      have qa41_40 : (40 : Int32).toInt = 40 := by decide
      obtain ⟨⟨v41, rfl, b41x⟩, hI41, hF41q, hp41_0, hp41_1, hp41_2⟩ := q41
      have hp41_0 := hp41_0 _ rfl
      have hp41_1 := hp41_1 _ rfl
      have hp41_2 := hp41_2 _ rfl
      have hF41 := zFr.tr hF3 hF41q (by decide)
      simp only [Option.toList, List.cons_append, List.nil_append]
      have cr41_18_0_7 : zB (g41 18 0 7) (-1) 120 := hI41 18 0 7
      have ek41_18_0_5 : (g41 18 0 5).toInt = (g3 18 0 5).toInt := by rw [hF41q 18 0 5 rfl]
      have c41_18_0_5x : zB (g41 18 0 5) 0 11 := by first | exact zB.eqv ek41_18_0_5 c3_18_0_5x | (have q9 := c3_18_0_5x; constructor <;> omega)
      have c42x : zB (g41 18 0 7) 0 120 := by first | assumption | (constructor <;> omega)
      have kk11_41 : ∀ x j, g41 11 x j = f 11 x j := fun x j => (hF41q 11 x j rfl).trans (kk11_3 x j)
      refine z_istore (pc := 27) C dX7_readPaper_27 (by rw [hn]; decide) rfl ?_
      refine z_goto (pc := 29) 38 C dX7_readPaper_29 (by decide) ?_
      refine z_aload_n (pc := 38) C dX7_readPaper_38 rfl ?_
      refine z_ldcT (pc := 39) (i := 0) (tx := "") C hT (Or.inl ⟨rfl, rfl⟩) dX7_readPaper_39 ?_
      refine z_iconst (pc := 41) (v := 0) C dX7_readPaper_41 (by decide) ?_
      refine z_callVS (pc := 42) C hT zk_X7_91 (k_X7_readLetters_0 _ _ 0 (zB.wk (a' := 0) (b' := 1) (zB.of (x := 0) 0 (by decide)) (by decide) (by decide)) hI41) rfl rfl (by decide) rfl rfl (Nat.le_of_ble_eq_true rfl) dX7_readPaper_42 (fun r43 g43 q43 => ?_)
      have qa43_0 : (0 : Int32).toInt = 0 := by decide
      obtain ⟨⟨v43, rfl, b43x⟩, hI43, hF43q, hp43_0, hp43_1⟩ := q43
      have hp43_0 := hp43_0 _ rfl
      have hp43_1 := hp43_1 _ rfl
      have hF43 := zFr.tr hF41 hF43q (by decide)
      simp only [Option.toList, List.cons_append, List.nil_append]
      have cr43_18_0_7 : zB (g43 18 0 7) (-1) 120 := hI43 18 0 7
      have ek43_18_0_5 : (g43 18 0 5).toInt = (g41 18 0 5).toInt := by rw [hF43q 18 0 5 rfl]
      have c43_18_0_5x : zB (g43 18 0 5) 0 11 := by first | exact zB.eqv ek43_18_0_5 c41_18_0_5x | (have q9 := c41_18_0_5x; constructor <;> omega)
      have c44x : zB (g43 18 0 7) 0 120 := by first | assumption | (constructor <;> omega)
      have kk11_43 : ∀ x j, g43 11 x j = f 11 x j := fun x j => (hF43q 11 x j rfl).trans (kk11_41 x j)
      refine z_istore (pc := 45) C dX7_readPaper_45 (by rw [hn]; decide) rfl ?_
      refine z_aload_n (pc := 47) C dX7_readPaper_47 rfl ?_
      refine z_bipush (pc := 48) (v := 116) C dX7_readPaper_48 (by decide) ?_
      refine z_callV (pc := 50) C zk_X7_48 (w_X7_takes _ _ 116 (zB.wk (a' := 1) (b' := 126) (zB.of (x := 116) 116 (by decide)) (by decide) (by decide)) hI43) rfl rfl (by decide) rfl rfl (Nat.le_of_ble_eq_true rfl) dX7_readPaper_50 (fun r45 g45 q45 => ?_)
      obtain ⟨⟨v45, rfl, b45x⟩, hI45, hF45q⟩ := q45
      have hF45 := zFr.tr hF43 hF45q (by decide)
      simp only [Option.toList, List.cons_append, List.nil_append]
      have ek45_18_0_7 : (g45 18 0 7).toInt = (g43 18 0 7).toInt := by rw [hF45q 18 0 7 rfl]
      have c45_18_0_7x : zB (g45 18 0 7) 0 120 := by first | exact zB.eqv ek45_18_0_7 c44x | (have q9 := c44x; constructor <;> omega)
      have ek45_18_0_5 : (g45 18 0 5).toInt = (g43 18 0 5).toInt := by rw [hF45q 18 0 5 rfl]
      have c45_18_0_5x : zB (g45 18 0 5) 0 11 := by first | exact zB.eqv ek45_18_0_5 c43_18_0_5x | (have q9 := c43_18_0_5x; constructor <;> omega)
      have c46x : zB (g45 18 0 7) 0 120 := by first | assumption | (constructor <;> omega)
      have kk11_45 : ∀ x j, g45 11 x j = f 11 x j := fun x j => (hF45q 11 x j rfl).trans (kk11_43 x j)
      refine z_if_eq (pc := 53) 66 C dX7_readPaper_53 (by decide) (fun h53_46 => ?_) (fun h53_46 => ?_)
      · skip
        have b48x : zB v45 0 0 := by have q1 := b45x; have q2 := (zB.of (x := 0) 0 (by decide)); simp only [z32lt, z32le, z32eq, Int32.reduceToInt, Int32.toInt_zero] at h53_46; constructor <;> omega
        refine z_iconst (pc := 66) (v := 0) C dX7_readPaper_66 (by decide) ?_
        refine z_istore (pc := 67) C dX7_readPaper_67 (by rw [hn]; decide) rfl ?_
        refine z_aload_n (pc := 69) C dX7_readPaper_69 rfl ?_
        refine z_bipush (pc := 70) (v := 43) C dX7_readPaper_70 (by decide) ?_
        refine z_callV (pc := 72) C zk_X7_48 (w_X7_takes _ _ 43 (zB.wk (a' := 1) (b' := 126) (zB.of (x := 43) 43 (by decide)) (by decide) (by decide)) hI45) rfl rfl (by decide) rfl rfl (Nat.le_of_ble_eq_true rfl) dX7_readPaper_72 (fun r49 g49 q49 => ?_)
        obtain ⟨⟨v49, rfl, b49x⟩, hI49, hF49q⟩ := q49
        have hF49 := zFr.tr hF45 hF49q (by decide)
        simp only [Option.toList, List.cons_append, List.nil_append]
        have ek49_18_0_7 : (g49 18 0 7).toInt = (g45 18 0 7).toInt := by rw [hF49q 18 0 7 rfl]
        have c49_18_0_7x : zB (g49 18 0 7) 0 120 := by first | exact zB.eqv ek49_18_0_7 c46x | (have q9 := c46x; constructor <;> omega)
        have ek49_18_0_5 : (g49 18 0 5).toInt = (g45 18 0 5).toInt := by rw [hF49q 18 0 5 rfl]
        have c49_18_0_5x : zB (g49 18 0 5) 0 11 := by first | exact zB.eqv ek49_18_0_5 c45_18_0_5x | (have q9 := c45_18_0_5x; constructor <;> omega)
        have c50x : zB (g49 18 0 7) 0 120 := by first | assumption | (constructor <;> omega)
        have kk11_49 : ∀ x j, g49 11 x j = f 11 x j := fun x j => (hF49q 11 x j rfl).trans (kk11_45 x j)
        refine z_if_eq (pc := 75) 85 C dX7_readPaper_75 (by decide) (fun h75_50 => ?_) (fun h75_50 => ?_)
        · skip
          have b52x : zB v49 0 0 := by have q1 := b49x; have q2 := (zB.of (x := 0) 0 (by decide)); simp only [z32lt, z32le, z32eq, Int32.reduceToInt, Int32.toInt_zero] at h75_50; constructor <;> omega
          refine z_iconst (pc := 85) (v := 0) C dX7_readPaper_85 (by decide) ?_
          refine z_istore (pc := 86) C dX7_readPaper_86 (by rw [hn]; decide) rfl ?_
          refine z_aload_n (pc := 88) C dX7_readPaper_88 rfl ?_
          refine z_getI (pc := 89) C zf_X7_36 rfl rfl (by decide) dX7_readPaper_89 ?_
          refine w_gp (fun v => v = g49 18 0 7) rfl (fun v53 q53 => ?_)
          have e53 : v53.toInt = (g49 18 0 7).toInt := by rw [q53]
          have b53x : zB v53 0 120 := by first | exact zB.eqv e53 c50x | (have q9 := c50x; constructor <;> omega)
          refine z_iconst (pc := 92) (v := -1) C dX7_readPaper_92 (by decide) ?_
          refine z_icmp_ne (pc := 93) 161 C dX7_readPaper_93 (by decide) (fun h93_53 => ?_) (fun h93_53 => absurd h93_53 (by have q1 := b53x; have q2 := (zB.of (x := (-1)) (-1) (by decide)); first | (simp only [z32lt, z32le, z32eq]; omega) | (simp only [z32lt, z32le, z32eq] at *; omega)))
          exact z_vret (pc := 161) C hr dX7_readPaper_161 ⟨rfl, hI49, hF49, (by
                                                                                          refine Or.inl ⟨u1, ?_, hb1, ?_, (fun x j => kk11_49 x j)⟩
                                                                                          · unfold zpaC zPa zbrC; simp only [zbd, zPb, hc1]
                                                                                          · rw [z32eq, nI_toInt (by omega)]
                                                                                            omega)⟩
        · skip
          have b55x : zB v49 1 1 := by have q1 := b49x; have q2 := (zB.of (x := 0) 0 (by decide)); simp only [z32lt, z32le, z32eq, Int32.reduceToInt, Int32.toInt_zero] at h75_50; constructor <;> omega
          refine z_aload_n (pc := 78) C dX7_readPaper_78 rfl ?_
          refine z_callVS (pc := 79) C hT zk_X7_95 (k_X7_readPromises _ _  hI49) rfl rfl (by decide) rfl rfl (Nat.le_of_ble_eq_true rfl) dX7_readPaper_79 (fun r56 g56 q56 => ?_)
          obtain ⟨⟨v56, rfl, b56x⟩, hI56, hF56q, hp56_0, hp56_1⟩ := q56
          have hp56_0 := hp56_0 _ rfl
          have hp56_1 := hp56_1 _ rfl
          have hF56 := zFr.tr hF49 hF56q (by decide)
          simp only [Option.toList, List.cons_append, List.nil_append]
          have cr56_18_0_7 : zB (g56 18 0 7) (-1) 120 := hI56 18 0 7
          have ek56_18_0_5 : (g56 18 0 5).toInt = (g49 18 0 5).toInt := by rw [hF56q 18 0 5 rfl]
          have c56_18_0_5x : zB (g56 18 0 5) 0 11 := by first | exact zB.eqv ek56_18_0_5 c49_18_0_5x | (have q9 := c49_18_0_5x; constructor <;> omega)
          have c57x : zB (g56 18 0 7) 0 120 := by first | assumption | (constructor <;> omega)
          have kk11_56 : ∀ x j, g56 11 x j = f 11 x j := fun x j => (hF56q 11 x j rfl).trans (kk11_49 x j)
          refine z_goto (pc := 82) 86 C dX7_readPaper_82 (by decide) ?_
          refine z_istore (pc := 86) C dX7_readPaper_86 (by rw [hn]; decide) rfl ?_
          refine z_aload_n (pc := 88) C dX7_readPaper_88 rfl ?_
          refine z_getI (pc := 89) C zf_X7_36 rfl rfl (by decide) dX7_readPaper_89 ?_
          refine w_gp (fun v => v = g56 18 0 7) rfl (fun v58 q58 => ?_)
          have e58 : v58.toInt = (g56 18 0 7).toInt := by rw [q58]
          have b58x : zB v58 0 120 := by first | exact zB.eqv e58 c57x | (have q9 := c57x; constructor <;> omega)
          refine z_iconst (pc := 92) (v := -1) C dX7_readPaper_92 (by decide) ?_
          refine z_icmp_ne (pc := 93) 161 C dX7_readPaper_93 (by decide) (fun h93_58 => ?_) (fun h93_58 => absurd h93_58 (by have q1 := b58x; have q2 := (zB.of (x := (-1)) (-1) (by decide)); first | (simp only [z32lt, z32le, z32eq]; omega) | (simp only [z32lt, z32le, z32eq] at *; omega)))
          exact z_vret (pc := 161) C hr dX7_readPaper_161 ⟨rfl, hI56, hF56, (by
                                                                                          refine Or.inl ⟨u1, ?_, hb1, ?_, (fun x j => kk11_56 x j)⟩
                                                                                          · unfold zpaC zPa zbrC; simp only [zbd, zPb, hc1]
                                                                                          · rw [z32eq, nI_toInt (by omega)]
                                                                                            omega)⟩
      · skip
        have b60x : zB v45 1 1 := by have q1 := b45x; have q2 := (zB.of (x := 0) 0 (by decide)); simp only [z32lt, z32le, z32eq, Int32.reduceToInt, Int32.toInt_zero] at h53_46; constructor <;> omega
        refine z_aload_n (pc := 56) C dX7_readPaper_56 rfl ?_
        refine z_iconst (pc := 57) (v := 1) C dX7_readPaper_57 (by decide) ?_
        refine z_bipush (pc := 58) (v := 99) C dX7_readPaper_58 (by decide) ?_
        refine z_callV (pc := 60) C zk_X7_73 (k_X7_readNumber _ _ 1 (zB.wk (a' := (-2147483648)) (b' := 1000) (zB.of (x := 1) 1 (by decide)) (by decide) (by decide)) 99 (zB.wk (a' := 0) (b' := 99) (zB.of (x := 99) 99 (by decide)) (by decide) (by decide)) hI45) rfl rfl (by decide) rfl rfl (Nat.le_of_ble_eq_true rfl) dX7_readPaper_60 (fun r61 g61 q61 => ?_)
        have qa61_1 : (1 : Int32).toInt = 1 := by decide
        have qa61_99 : (99 : Int32).toInt = 99 := by decide
        obtain ⟨⟨v61, rfl, b61x⟩, hI61, hF61q, hp61_0, hp61_1, hp61_2⟩ := q61
        have hp61_0 := hp61_0 _ rfl
        have hp61_1 := hp61_1 _ rfl
        have hp61_2 := hp61_2 _ rfl
        have hF61 := zFr.tr hF45 hF61q (by decide)
        simp only [Option.toList, List.cons_append, List.nil_append]
        have cr61_18_0_7 : zB (g61 18 0 7) (-1) 120 := hI61 18 0 7
        have ek61_18_0_5 : (g61 18 0 5).toInt = (g45 18 0 5).toInt := by rw [hF61q 18 0 5 rfl]
        have c61_18_0_5x : zB (g61 18 0 5) 0 11 := by first | exact zB.eqv ek61_18_0_5 c45_18_0_5x | (have q9 := c45_18_0_5x; constructor <;> omega)
        have c62x : zB (g61 18 0 7) 0 120 := by first | assumption | (constructor <;> omega)
        have kk11_61 : ∀ x j, g61 11 x j = f 11 x j := fun x j => (hF61q 11 x j rfl).trans (kk11_45 x j)
        refine z_goto (pc := 63) 67 C dX7_readPaper_63 (by decide) ?_
        refine z_istore (pc := 67) C dX7_readPaper_67 (by rw [hn]; decide) rfl ?_
        refine z_aload_n (pc := 69) C dX7_readPaper_69 rfl ?_
        refine z_bipush (pc := 70) (v := 43) C dX7_readPaper_70 (by decide) ?_
        refine z_callV (pc := 72) C zk_X7_48 (w_X7_takes _ _ 43 (zB.wk (a' := 1) (b' := 126) (zB.of (x := 43) 43 (by decide)) (by decide) (by decide)) hI61) rfl rfl (by decide) rfl rfl (Nat.le_of_ble_eq_true rfl) dX7_readPaper_72 (fun r63 g63 q63 => ?_)
        obtain ⟨⟨v63, rfl, b63x⟩, hI63, hF63q⟩ := q63
        have hF63 := zFr.tr hF61 hF63q (by decide)
        simp only [Option.toList, List.cons_append, List.nil_append]
        have ek63_18_0_7 : (g63 18 0 7).toInt = (g61 18 0 7).toInt := by rw [hF63q 18 0 7 rfl]
        have c63_18_0_7x : zB (g63 18 0 7) 0 120 := by first | exact zB.eqv ek63_18_0_7 c62x | (have q9 := c62x; constructor <;> omega)
        have ek63_18_0_5 : (g63 18 0 5).toInt = (g61 18 0 5).toInt := by rw [hF63q 18 0 5 rfl]
        have c63_18_0_5x : zB (g63 18 0 5) 0 11 := by first | exact zB.eqv ek63_18_0_5 c61_18_0_5x | (have q9 := c61_18_0_5x; constructor <;> omega)
        have c64x : zB (g63 18 0 7) 0 120 := by first | assumption | (constructor <;> omega)
        have kk11_63 : ∀ x j, g63 11 x j = f 11 x j := fun x j => (hF63q 11 x j rfl).trans (kk11_61 x j)
        refine z_if_eq (pc := 75) 85 C dX7_readPaper_75 (by decide) (fun h75_64 => ?_) (fun h75_64 => ?_)
        · skip
          have b66x : zB v63 0 0 := by have q1 := b63x; have q2 := (zB.of (x := 0) 0 (by decide)); simp only [z32lt, z32le, z32eq, Int32.reduceToInt, Int32.toInt_zero] at h75_64; constructor <;> omega
          refine z_iconst (pc := 85) (v := 0) C dX7_readPaper_85 (by decide) ?_
          refine z_istore (pc := 86) C dX7_readPaper_86 (by rw [hn]; decide) rfl ?_
          refine z_aload_n (pc := 88) C dX7_readPaper_88 rfl ?_
          refine z_getI (pc := 89) C zf_X7_36 rfl rfl (by decide) dX7_readPaper_89 ?_
          refine w_gp (fun v => v = g63 18 0 7) rfl (fun v67 q67 => ?_)
          have e67 : v67.toInt = (g63 18 0 7).toInt := by rw [q67]
          have b67x : zB v67 0 120 := by first | exact zB.eqv e67 c64x | (have q9 := c64x; constructor <;> omega)
          refine z_iconst (pc := 92) (v := -1) C dX7_readPaper_92 (by decide) ?_
          refine z_icmp_ne (pc := 93) 161 C dX7_readPaper_93 (by decide) (fun h93_67 => ?_) (fun h93_67 => absurd h93_67 (by have q1 := b67x; have q2 := (zB.of (x := (-1)) (-1) (by decide)); first | (simp only [z32lt, z32le, z32eq]; omega) | (simp only [z32lt, z32le, z32eq] at *; omega)))
          exact z_vret (pc := 161) C hr dX7_readPaper_161 ⟨rfl, hI63, hF63, (by
                                                                                          refine Or.inl ⟨u1, ?_, hb1, ?_, (fun x j => kk11_63 x j)⟩
                                                                                          · unfold zpaC zPa zbrC; simp only [zbd, zPb, hc1]
                                                                                          · rw [z32eq, nI_toInt (by omega)]
                                                                                            omega)⟩
        · skip
          have b69x : zB v63 1 1 := by have q1 := b63x; have q2 := (zB.of (x := 0) 0 (by decide)); simp only [z32lt, z32le, z32eq, Int32.reduceToInt, Int32.toInt_zero] at h75_64; constructor <;> omega
          refine z_aload_n (pc := 78) C dX7_readPaper_78 rfl ?_
          refine z_callVS (pc := 79) C hT zk_X7_95 (k_X7_readPromises _ _  hI63) rfl rfl (by decide) rfl rfl (Nat.le_of_ble_eq_true rfl) dX7_readPaper_79 (fun r70 g70 q70 => ?_)
          obtain ⟨⟨v70, rfl, b70x⟩, hI70, hF70q, hp70_0, hp70_1⟩ := q70
          have hp70_0 := hp70_0 _ rfl
          have hp70_1 := hp70_1 _ rfl
          have hF70 := zFr.tr hF63 hF70q (by decide)
          simp only [Option.toList, List.cons_append, List.nil_append]
          have cr70_18_0_7 : zB (g70 18 0 7) (-1) 120 := hI70 18 0 7
          have ek70_18_0_5 : (g70 18 0 5).toInt = (g63 18 0 5).toInt := by rw [hF70q 18 0 5 rfl]
          have c70_18_0_5x : zB (g70 18 0 5) 0 11 := by first | exact zB.eqv ek70_18_0_5 c63_18_0_5x | (have q9 := c63_18_0_5x; constructor <;> omega)
          have c71x : zB (g70 18 0 7) 0 120 := by first | assumption | (constructor <;> omega)
          have kk11_70 : ∀ x j, g70 11 x j = f 11 x j := fun x j => (hF70q 11 x j rfl).trans (kk11_63 x j)
          refine z_goto (pc := 82) 86 C dX7_readPaper_82 (by decide) ?_
          refine z_istore (pc := 86) C dX7_readPaper_86 (by rw [hn]; decide) rfl ?_
          refine z_aload_n (pc := 88) C dX7_readPaper_88 rfl ?_
          refine z_getI (pc := 89) C zf_X7_36 rfl rfl (by decide) dX7_readPaper_89 ?_
          refine w_gp (fun v => v = g70 18 0 7) rfl (fun v72 q72 => ?_)
          have e72 : v72.toInt = (g70 18 0 7).toInt := by rw [q72]
          have b72x : zB v72 0 120 := by first | exact zB.eqv e72 c71x | (have q9 := c71x; constructor <;> omega)
          refine z_iconst (pc := 92) (v := -1) C dX7_readPaper_92 (by decide) ?_
          refine z_icmp_ne (pc := 93) 161 C dX7_readPaper_93 (by decide) (fun h93_72 => ?_) (fun h93_72 => absurd h93_72 (by have q1 := b72x; have q2 := (zB.of (x := (-1)) (-1) (by decide)); first | (simp only [z32lt, z32le, z32eq]; omega) | (simp only [z32lt, z32le, z32eq] at *; omega)))
          exact z_vret (pc := 161) C hr dX7_readPaper_161 ⟨rfl, hI70, hF70, (by
                                                                                          refine Or.inl ⟨u1, ?_, hb1, ?_, (fun x j => kk11_70 x j)⟩
                                                                                          · unfold zpaC zPa zbrC; simp only [zbd, zPb, hc1]
                                                                                          · rw [z32eq, nI_toInt (by omega)]
                                                                                            omega)⟩
  · skip
    have h181 : g1 18 0 3 = nI n := (hF1q 18 0 3 rfl).trans h18
    have hTp1 : ∀ i, i < n → g1 19 0 i = T i := fun i hi => (hF1q 19 0 i rfl).trans (hTp i hi)
    have kk11_1 : ∀ x j, g1 11 x j = f 11 x j := fun x j => (hF1q 11 x j rfl).trans ((fun _ _ => rfl) x j)
    have fti1 : (g1 18 0 7).toInt = -1 := by rw [ft1]; decide
    have c74x : zB (g1 18 0 7) (-1) (-1) := by first | assumption | (constructor <;> omega)
    refine z_istore_n (pc := 5) C dX7_readPaper_5 (by rw [hn]; decide) rfl ?_
    refine z_aload_n (pc := 6) C dX7_readPaper_6 rfl ?_
    refine z_bipush (pc := 7) (v := 121) C dX7_readPaper_7 (by decide) ?_
    refine z_callV (pc := 9) C zk_X7_48 (e_X7_takes _ _ 121 (zB.wk (a' := 1) (b' := 126) (zB.of (x := 121) 121 (by decide)) (by decide) (by decide)) T n (u1) hN h181 hTp1 hq1 hb1 hI1) rfl rfl (by decide) rfl rfl (Nat.le_of_ble_eq_true rfl) dX7_readPaper_9 (fun r75 g75 q75 => ?_)
    obtain ⟨⟨v75, rfl, b75x⟩, hI75, hF75q, hp75⟩ := q75
    have hp75 := hp75 _ rfl
    have hF75 := zFr.tr hF1 hF75q (by decide)
    simp only [Option.toList, List.cons_append, List.nil_append]
    have ek75_18_0_7 : (g75 18 0 7).toInt = (g1 18 0 7).toInt := by rw [hF75q 18 0 7 rfl]
    have c75_18_0_7x : zB (g75 18 0 7) (-1) (-1) := by first | exact zB.eqv ek75_18_0_7 c74x | (have q9 := c74x; constructor <;> omega)
    have ek75_18_0_5 : (g75 18 0 5).toInt = (g1 18 0 5).toInt := by rw [hF75q 18 0 5 rfl]
    have c75_18_0_5x : zB (g75 18 0 5) 0 11 := by first | exact zB.eqv ek75_18_0_5 c1_18_0_5x | (have q9 := c1_18_0_5x; constructor <;> omega)
    have h1875 : g75 18 0 3 = nI n := (hF75q 18 0 3 rfl).trans h181
    have hTp75 : ∀ i, i < n → g75 19 0 i = T i := fun i hi => (hF75q 19 0 i rfl).trans (hTp1 i hi)
    have ft75 : g75 18 0 7 = -1 := (hF75q 18 0 7 rfl).trans ft1
    have kk11_75 : ∀ x j, g75 11 x j = f 11 x j := fun x j => (hF75q 11 x j rfl).trans (kk11_1 x j)
    rcases hp75 with ⟨hc75, rfl, hq75, hb75⟩ | ⟨hc75, rfl, hq75⟩
    · skip
      refine z_istore_n (pc := 12) C dX7_readPaper_12 (by rw [hn]; decide) rfl ?_
      refine z_iconst (pc := 13) (v := 1) C dX7_readPaper_13 (by decide) ?_
      refine z_istore (pc := 14) C dX7_readPaper_14 (by rw [hn]; decide) rfl ?_
      refine z_iload_n (pc := 16) C dX7_readPaper_16 rfl ?_
      refine z_if_eq (pc := 17) 32 C dX7_readPaper_17 (by decide) (fun h17_75 => absurd h17_75 (by decide)) (fun h17_75 => ?_)
      refine z_aload_n (pc := 20) C dX7_readPaper_20 rfl ?_
      refine z_iconst (pc := 21) (v := 1) C dX7_readPaper_21 (by decide) ?_
      refine z_bipush (pc := 22) (v := 40) C dX7_readPaper_22 (by decide) ?_
      refine z_callV (pc := 24) C zk_X7_73 (e_X7_readNumber _ _ 1 (zB.wk (a' := 0) (b' := 40) (zB.of (x := 1) 1 (by decide)) (by decide) (by decide)) 40 (zB.wk (a' := 0) (b' := 99) (zB.of (x := 40) 40 (by decide)) (by decide) (by decide))  T n (zsp T n (u1) + 1) hN h1875 hTp75 hq75 hb75 ft75 hI75) rfl rfl (by decide) rfl rfl (Nat.le_of_ble_eq_true rfl) dX7_readPaper_24 (fun r77 g77 q77 => ?_)
      obtain ⟨⟨v77, rfl, b77x⟩, hI77, hF77q, hp77⟩ := q77
      have hp77 := hp77 _ rfl
      have hF77 := zFr.tr hF75 hF77q (by decide)
      simp only [Option.toList, List.cons_append, List.nil_append]
      have cr77_18_0_7 : zB (g77 18 0 7) (-1) 120 := hI77 18 0 7
      have ek77_18_0_5 : (g77 18 0 5).toInt = (g75 18 0 5).toInt := by rw [hF77q 18 0 5 rfl]
      have c77_18_0_5x : zB (g77 18 0 5) 0 11 := by first | exact zB.eqv ek77_18_0_5 c75_18_0_5x | (have q9 := c75_18_0_5x; constructor <;> omega)
      rcases hp77 with ⟨u77, hc77, hb77, hz77⟩ | ⟨u77, hc77, hq77, hb77, ft77, hlo77, hhi77⟩
      · skip
        have hd77 : znu T n 1 40 (zsp T n (u1) + 1) = _ := hc77
        have kk11_77 : ∀ x j, g77 11 x j = f 11 x j := fun x j => (hF77q 11 x j rfl).trans (kk11_75 x j)
        have hzi77 : (g77 18 0 7).toInt = (u77 : Int) := by rw [hz77]; exact nI_toInt (by omega)
        have c78x : zB (g77 18 0 7) 0 120 := by first | assumption | (constructor <;> omega)
        refine z_istore (pc := 27) C dX7_readPaper_27 (by rw [hn]; decide) rfl ?_
        refine z_goto (pc := 29) 38 C dX7_readPaper_29 (by decide) ?_
        refine z_aload_n (pc := 38) C dX7_readPaper_38 rfl ?_
        refine z_ldcT (pc := 39) (i := 0) (tx := "") C hT (Or.inl ⟨rfl, rfl⟩) dX7_readPaper_39 ?_
        refine z_iconst (pc := 41) (v := 0) C dX7_readPaper_41 (by decide) ?_
        refine z_callVS (pc := 42) C hT zk_X7_91 (k_X7_readLetters_0 _ _ 0 (zB.wk (a' := 0) (b' := 1) (zB.of (x := 0) 0 (by decide)) (by decide) (by decide)) hI77) rfl rfl (by decide) rfl rfl (Nat.le_of_ble_eq_true rfl) dX7_readPaper_42 (fun r79 g79 q79 => ?_)
        have qa79_0 : (0 : Int32).toInt = 0 := by decide
        obtain ⟨⟨v79, rfl, b79x⟩, hI79, hF79q, hp79_0, hp79_1⟩ := q79
        have hp79_0 := hp79_0 _ rfl
        have hp79_1 := hp79_1 _ rfl
        have hF79 := zFr.tr hF77 hF79q (by decide)
        simp only [Option.toList, List.cons_append, List.nil_append]
        have cr79_18_0_7 : zB (g79 18 0 7) (-1) 120 := hI79 18 0 7
        have ek79_18_0_5 : (g79 18 0 5).toInt = (g77 18 0 5).toInt := by rw [hF79q 18 0 5 rfl]
        have c79_18_0_5x : zB (g79 18 0 5) 0 11 := by first | exact zB.eqv ek79_18_0_5 c77_18_0_5x | (have q9 := c77_18_0_5x; constructor <;> omega)
        have c80x : zB (g79 18 0 7) 0 120 := by first | assumption | (constructor <;> omega)
        have kk11_79 : ∀ x j, g79 11 x j = f 11 x j := fun x j => (hF79q 11 x j rfl).trans (kk11_77 x j)
        refine z_istore (pc := 45) C dX7_readPaper_45 (by rw [hn]; decide) rfl ?_
        refine z_aload_n (pc := 47) C dX7_readPaper_47 rfl ?_
        refine z_bipush (pc := 48) (v := 116) C dX7_readPaper_48 (by decide) ?_
        refine z_callV (pc := 50) C zk_X7_48 (w_X7_takes _ _ 116 (zB.wk (a' := 1) (b' := 126) (zB.of (x := 116) 116 (by decide)) (by decide) (by decide)) hI79) rfl rfl (by decide) rfl rfl (Nat.le_of_ble_eq_true rfl) dX7_readPaper_50 (fun r81 g81 q81 => ?_)
        obtain ⟨⟨v81, rfl, b81x⟩, hI81, hF81q⟩ := q81
        have hF81 := zFr.tr hF79 hF81q (by decide)
        simp only [Option.toList, List.cons_append, List.nil_append]
        have ek81_18_0_7 : (g81 18 0 7).toInt = (g79 18 0 7).toInt := by rw [hF81q 18 0 7 rfl]
        have c81_18_0_7x : zB (g81 18 0 7) 0 120 := by first | exact zB.eqv ek81_18_0_7 c80x | (have q9 := c80x; constructor <;> omega)
        have ek81_18_0_5 : (g81 18 0 5).toInt = (g79 18 0 5).toInt := by rw [hF81q 18 0 5 rfl]
        have c81_18_0_5x : zB (g81 18 0 5) 0 11 := by first | exact zB.eqv ek81_18_0_5 c79_18_0_5x | (have q9 := c79_18_0_5x; constructor <;> omega)
        have c82x : zB (g81 18 0 7) 0 120 := by first | assumption | (constructor <;> omega)
        have kk11_81 : ∀ x j, g81 11 x j = f 11 x j := fun x j => (hF81q 11 x j rfl).trans (kk11_79 x j)
        refine z_if_eq (pc := 53) 66 C dX7_readPaper_53 (by decide) (fun h53_82 => ?_) (fun h53_82 => ?_)
        · skip
          have b84x : zB v81 0 0 := by have q1 := b81x; have q2 := (zB.of (x := 0) 0 (by decide)); simp only [z32lt, z32le, z32eq, Int32.reduceToInt, Int32.toInt_zero] at h53_82; constructor <;> omega
          refine z_iconst (pc := 66) (v := 0) C dX7_readPaper_66 (by decide) ?_
          refine z_istore (pc := 67) C dX7_readPaper_67 (by rw [hn]; decide) rfl ?_
          refine z_aload_n (pc := 69) C dX7_readPaper_69 rfl ?_
          refine z_bipush (pc := 70) (v := 43) C dX7_readPaper_70 (by decide) ?_
          refine z_callV (pc := 72) C zk_X7_48 (w_X7_takes _ _ 43 (zB.wk (a' := 1) (b' := 126) (zB.of (x := 43) 43 (by decide)) (by decide) (by decide)) hI81) rfl rfl (by decide) rfl rfl (Nat.le_of_ble_eq_true rfl) dX7_readPaper_72 (fun r85 g85 q85 => ?_)
          obtain ⟨⟨v85, rfl, b85x⟩, hI85, hF85q⟩ := q85
          have hF85 := zFr.tr hF81 hF85q (by decide)
          simp only [Option.toList, List.cons_append, List.nil_append]
          have ek85_18_0_7 : (g85 18 0 7).toInt = (g81 18 0 7).toInt := by rw [hF85q 18 0 7 rfl]
          have c85_18_0_7x : zB (g85 18 0 7) 0 120 := by first | exact zB.eqv ek85_18_0_7 c82x | (have q9 := c82x; constructor <;> omega)
          have ek85_18_0_5 : (g85 18 0 5).toInt = (g81 18 0 5).toInt := by rw [hF85q 18 0 5 rfl]
          have c85_18_0_5x : zB (g85 18 0 5) 0 11 := by first | exact zB.eqv ek85_18_0_5 c81_18_0_5x | (have q9 := c81_18_0_5x; constructor <;> omega)
          have c86x : zB (g85 18 0 7) 0 120 := by first | assumption | (constructor <;> omega)
          have kk11_85 : ∀ x j, g85 11 x j = f 11 x j := fun x j => (hF85q 11 x j rfl).trans (kk11_81 x j)
          refine z_if_eq (pc := 75) 85 C dX7_readPaper_75 (by decide) (fun h75_86 => ?_) (fun h75_86 => ?_)
          · skip
            have b88x : zB v85 0 0 := by have q1 := b85x; have q2 := (zB.of (x := 0) 0 (by decide)); simp only [z32lt, z32le, z32eq, Int32.reduceToInt, Int32.toInt_zero] at h75_86; constructor <;> omega
            refine z_iconst (pc := 85) (v := 0) C dX7_readPaper_85 (by decide) ?_
            refine z_istore (pc := 86) C dX7_readPaper_86 (by rw [hn]; decide) rfl ?_
            refine z_aload_n (pc := 88) C dX7_readPaper_88 rfl ?_
            refine z_getI (pc := 89) C zf_X7_36 rfl rfl (by decide) dX7_readPaper_89 ?_
            refine w_gp (fun v => v = g85 18 0 7) rfl (fun v89 q89 => ?_)
            have e89 : v89.toInt = (g85 18 0 7).toInt := by rw [q89]
            have b89x : zB v89 0 120 := by first | exact zB.eqv e89 c86x | (have q9 := c86x; constructor <;> omega)
            refine z_iconst (pc := 92) (v := -1) C dX7_readPaper_92 (by decide) ?_
            refine z_icmp_ne (pc := 93) 161 C dX7_readPaper_93 (by decide) (fun h93_89 => ?_) (fun h93_89 => absurd h93_89 (by have q1 := b89x; have q2 := (zB.of (x := (-1)) (-1) (by decide)); first | (simp only [z32lt, z32le, z32eq]; omega) | (simp only [z32lt, z32le, z32eq] at *; omega)))
            exact z_vret (pc := 161) C hr dX7_readPaper_161 ⟨rfl, hI85, hF85, (by
                                                                                          refine Or.inl ⟨u77, ?_, hb77, ?_, (fun x j => kk11_85 x j)⟩
                                                                                          · unfold zpaC zPa zbrC; simp only [zbd, zPb, hc1, if_pos hc75, hd77]
                                                                                          · rw [z32eq, nI_toInt (by omega)]
                                                                                            omega)⟩
          · skip
            have b91x : zB v85 1 1 := by have q1 := b85x; have q2 := (zB.of (x := 0) 0 (by decide)); simp only [z32lt, z32le, z32eq, Int32.reduceToInt, Int32.toInt_zero] at h75_86; constructor <;> omega
            refine z_aload_n (pc := 78) C dX7_readPaper_78 rfl ?_
            refine z_callVS (pc := 79) C hT zk_X7_95 (k_X7_readPromises _ _  hI85) rfl rfl (by decide) rfl rfl (Nat.le_of_ble_eq_true rfl) dX7_readPaper_79 (fun r92 g92 q92 => ?_)
            obtain ⟨⟨v92, rfl, b92x⟩, hI92, hF92q, hp92_0, hp92_1⟩ := q92
            have hp92_0 := hp92_0 _ rfl
            have hp92_1 := hp92_1 _ rfl
            have hF92 := zFr.tr hF85 hF92q (by decide)
            simp only [Option.toList, List.cons_append, List.nil_append]
            have cr92_18_0_7 : zB (g92 18 0 7) (-1) 120 := hI92 18 0 7
            have ek92_18_0_5 : (g92 18 0 5).toInt = (g85 18 0 5).toInt := by rw [hF92q 18 0 5 rfl]
            have c92_18_0_5x : zB (g92 18 0 5) 0 11 := by first | exact zB.eqv ek92_18_0_5 c85_18_0_5x | (have q9 := c85_18_0_5x; constructor <;> omega)
            have c93x : zB (g92 18 0 7) 0 120 := by first | assumption | (constructor <;> omega)
            have kk11_92 : ∀ x j, g92 11 x j = f 11 x j := fun x j => (hF92q 11 x j rfl).trans (kk11_85 x j)
            refine z_goto (pc := 82) 86 C dX7_readPaper_82 (by decide) ?_
            refine z_istore (pc := 86) C dX7_readPaper_86 (by rw [hn]; decide) rfl ?_
            refine z_aload_n (pc := 88) C dX7_readPaper_88 rfl ?_
            refine z_getI (pc := 89) C zf_X7_36 rfl rfl (by decide) dX7_readPaper_89 ?_
            refine w_gp (fun v => v = g92 18 0 7) rfl (fun v94 q94 => ?_)
            have e94 : v94.toInt = (g92 18 0 7).toInt := by rw [q94]
            have b94x : zB v94 0 120 := by first | exact zB.eqv e94 c93x | (have q9 := c93x; constructor <;> omega)
            refine z_iconst (pc := 92) (v := -1) C dX7_readPaper_92 (by decide) ?_
            refine z_icmp_ne (pc := 93) 161 C dX7_readPaper_93 (by decide) (fun h93_94 => ?_) (fun h93_94 => absurd h93_94 (by have q1 := b94x; have q2 := (zB.of (x := (-1)) (-1) (by decide)); first | (simp only [z32lt, z32le, z32eq]; omega) | (simp only [z32lt, z32le, z32eq] at *; omega)))
            exact z_vret (pc := 161) C hr dX7_readPaper_161 ⟨rfl, hI92, hF92, (by
                                                                                          refine Or.inl ⟨u77, ?_, hb77, ?_, (fun x j => kk11_92 x j)⟩
                                                                                          · unfold zpaC zPa zbrC; simp only [zbd, zPb, hc1, if_pos hc75, hd77]
                                                                                          · rw [z32eq, nI_toInt (by omega)]
                                                                                            omega)⟩
        · skip
          have b96x : zB v81 1 1 := by have q1 := b81x; have q2 := (zB.of (x := 0) 0 (by decide)); simp only [z32lt, z32le, z32eq, Int32.reduceToInt, Int32.toInt_zero] at h53_82; constructor <;> omega
          refine z_aload_n (pc := 56) C dX7_readPaper_56 rfl ?_
          refine z_iconst (pc := 57) (v := 1) C dX7_readPaper_57 (by decide) ?_
          refine z_bipush (pc := 58) (v := 99) C dX7_readPaper_58 (by decide) ?_
          refine z_callV (pc := 60) C zk_X7_73 (k_X7_readNumber _ _ 1 (zB.wk (a' := (-2147483648)) (b' := 1000) (zB.of (x := 1) 1 (by decide)) (by decide) (by decide)) 99 (zB.wk (a' := 0) (b' := 99) (zB.of (x := 99) 99 (by decide)) (by decide) (by decide)) hI81) rfl rfl (by decide) rfl rfl (Nat.le_of_ble_eq_true rfl) dX7_readPaper_60 (fun r97 g97 q97 => ?_)
          have qa97_1 : (1 : Int32).toInt = 1 := by decide
          have qa97_99 : (99 : Int32).toInt = 99 := by decide
          obtain ⟨⟨v97, rfl, b97x⟩, hI97, hF97q, hp97_0, hp97_1, hp97_2⟩ := q97
          have hp97_0 := hp97_0 _ rfl
          have hp97_1 := hp97_1 _ rfl
          have hp97_2 := hp97_2 _ rfl
          have hF97 := zFr.tr hF81 hF97q (by decide)
          simp only [Option.toList, List.cons_append, List.nil_append]
          have cr97_18_0_7 : zB (g97 18 0 7) (-1) 120 := hI97 18 0 7
          have ek97_18_0_5 : (g97 18 0 5).toInt = (g81 18 0 5).toInt := by rw [hF97q 18 0 5 rfl]
          have c97_18_0_5x : zB (g97 18 0 5) 0 11 := by first | exact zB.eqv ek97_18_0_5 c81_18_0_5x | (have q9 := c81_18_0_5x; constructor <;> omega)
          have c98x : zB (g97 18 0 7) 0 120 := by first | assumption | (constructor <;> omega)
          have kk11_97 : ∀ x j, g97 11 x j = f 11 x j := fun x j => (hF97q 11 x j rfl).trans (kk11_81 x j)
          refine z_goto (pc := 63) 67 C dX7_readPaper_63 (by decide) ?_
          refine z_istore (pc := 67) C dX7_readPaper_67 (by rw [hn]; decide) rfl ?_
          refine z_aload_n (pc := 69) C dX7_readPaper_69 rfl ?_
          refine z_bipush (pc := 70) (v := 43) C dX7_readPaper_70 (by decide) ?_
          refine z_callV (pc := 72) C zk_X7_48 (w_X7_takes _ _ 43 (zB.wk (a' := 1) (b' := 126) (zB.of (x := 43) 43 (by decide)) (by decide) (by decide)) hI97) rfl rfl (by decide) rfl rfl (Nat.le_of_ble_eq_true rfl) dX7_readPaper_72 (fun r99 g99 q99 => ?_)
          obtain ⟨⟨v99, rfl, b99x⟩, hI99, hF99q⟩ := q99
          have hF99 := zFr.tr hF97 hF99q (by decide)
          simp only [Option.toList, List.cons_append, List.nil_append]
          have ek99_18_0_7 : (g99 18 0 7).toInt = (g97 18 0 7).toInt := by rw [hF99q 18 0 7 rfl]
          have c99_18_0_7x : zB (g99 18 0 7) 0 120 := by first | exact zB.eqv ek99_18_0_7 c98x | (have q9 := c98x; constructor <;> omega)
          have ek99_18_0_5 : (g99 18 0 5).toInt = (g97 18 0 5).toInt := by rw [hF99q 18 0 5 rfl]
          have c99_18_0_5x : zB (g99 18 0 5) 0 11 := by first | exact zB.eqv ek99_18_0_5 c97_18_0_5x | (have q9 := c97_18_0_5x; constructor <;> omega)
          have c100x : zB (g99 18 0 7) 0 120 := by first | assumption | (constructor <;> omega)
          have kk11_99 : ∀ x j, g99 11 x j = f 11 x j := fun x j => (hF99q 11 x j rfl).trans (kk11_97 x j)
          refine z_if_eq (pc := 75) 85 C dX7_readPaper_75 (by decide) (fun h75_100 => ?_) (fun h75_100 => ?_)
          · skip
            have b102x : zB v99 0 0 := by have q1 := b99x; have q2 := (zB.of (x := 0) 0 (by decide)); simp only [z32lt, z32le, z32eq, Int32.reduceToInt, Int32.toInt_zero] at h75_100; constructor <;> omega
            refine z_iconst (pc := 85) (v := 0) C dX7_readPaper_85 (by decide) ?_
            refine z_istore (pc := 86) C dX7_readPaper_86 (by rw [hn]; decide) rfl ?_
            refine z_aload_n (pc := 88) C dX7_readPaper_88 rfl ?_
            refine z_getI (pc := 89) C zf_X7_36 rfl rfl (by decide) dX7_readPaper_89 ?_
            refine w_gp (fun v => v = g99 18 0 7) rfl (fun v103 q103 => ?_)
            have e103 : v103.toInt = (g99 18 0 7).toInt := by rw [q103]
            have b103x : zB v103 0 120 := by first | exact zB.eqv e103 c100x | (have q9 := c100x; constructor <;> omega)
            refine z_iconst (pc := 92) (v := -1) C dX7_readPaper_92 (by decide) ?_
            refine z_icmp_ne (pc := 93) 161 C dX7_readPaper_93 (by decide) (fun h93_103 => ?_) (fun h93_103 => absurd h93_103 (by have q1 := b103x; have q2 := (zB.of (x := (-1)) (-1) (by decide)); first | (simp only [z32lt, z32le, z32eq]; omega) | (simp only [z32lt, z32le, z32eq] at *; omega)))
            exact z_vret (pc := 161) C hr dX7_readPaper_161 ⟨rfl, hI99, hF99, (by
                                                                                          refine Or.inl ⟨u77, ?_, hb77, ?_, (fun x j => kk11_99 x j)⟩
                                                                                          · unfold zpaC zPa zbrC; simp only [zbd, zPb, hc1, if_pos hc75, hd77]
                                                                                          · rw [z32eq, nI_toInt (by omega)]
                                                                                            omega)⟩
          · skip
            have b105x : zB v99 1 1 := by have q1 := b99x; have q2 := (zB.of (x := 0) 0 (by decide)); simp only [z32lt, z32le, z32eq, Int32.reduceToInt, Int32.toInt_zero] at h75_100; constructor <;> omega
            refine z_aload_n (pc := 78) C dX7_readPaper_78 rfl ?_
            refine z_callVS (pc := 79) C hT zk_X7_95 (k_X7_readPromises _ _  hI99) rfl rfl (by decide) rfl rfl (Nat.le_of_ble_eq_true rfl) dX7_readPaper_79 (fun r106 g106 q106 => ?_)
            obtain ⟨⟨v106, rfl, b106x⟩, hI106, hF106q, hp106_0, hp106_1⟩ := q106
            have hp106_0 := hp106_0 _ rfl
            have hp106_1 := hp106_1 _ rfl
            have hF106 := zFr.tr hF99 hF106q (by decide)
            simp only [Option.toList, List.cons_append, List.nil_append]
            have cr106_18_0_7 : zB (g106 18 0 7) (-1) 120 := hI106 18 0 7
            have ek106_18_0_5 : (g106 18 0 5).toInt = (g99 18 0 5).toInt := by rw [hF106q 18 0 5 rfl]
            have c106_18_0_5x : zB (g106 18 0 5) 0 11 := by first | exact zB.eqv ek106_18_0_5 c99_18_0_5x | (have q9 := c99_18_0_5x; constructor <;> omega)
            have c107x : zB (g106 18 0 7) 0 120 := by first | assumption | (constructor <;> omega)
            have kk11_106 : ∀ x j, g106 11 x j = f 11 x j := fun x j => (hF106q 11 x j rfl).trans (kk11_99 x j)
            refine z_goto (pc := 82) 86 C dX7_readPaper_82 (by decide) ?_
            refine z_istore (pc := 86) C dX7_readPaper_86 (by rw [hn]; decide) rfl ?_
            refine z_aload_n (pc := 88) C dX7_readPaper_88 rfl ?_
            refine z_getI (pc := 89) C zf_X7_36 rfl rfl (by decide) dX7_readPaper_89 ?_
            refine w_gp (fun v => v = g106 18 0 7) rfl (fun v108 q108 => ?_)
            have e108 : v108.toInt = (g106 18 0 7).toInt := by rw [q108]
            have b108x : zB v108 0 120 := by first | exact zB.eqv e108 c107x | (have q9 := c107x; constructor <;> omega)
            refine z_iconst (pc := 92) (v := -1) C dX7_readPaper_92 (by decide) ?_
            refine z_icmp_ne (pc := 93) 161 C dX7_readPaper_93 (by decide) (fun h93_108 => ?_) (fun h93_108 => absurd h93_108 (by have q1 := b108x; have q2 := (zB.of (x := (-1)) (-1) (by decide)); first | (simp only [z32lt, z32le, z32eq]; omega) | (simp only [z32lt, z32le, z32eq] at *; omega)))
            exact z_vret (pc := 161) C hr dX7_readPaper_161 ⟨rfl, hI106, hF106, (by
                                                                                          refine Or.inl ⟨u77, ?_, hb77, ?_, (fun x j => kk11_106 x j)⟩
                                                                                          · unfold zpaC zPa zbrC; simp only [zbd, zPb, hc1, if_pos hc75, hd77]
                                                                                          · rw [z32eq, nI_toInt (by omega)]
                                                                                            omega)⟩
      · skip
        have hd77 : znu T n 1 40 (zsp T n (u1) + 1) = _ := hc77
        have h1877 : g77 18 0 3 = nI n := (hF77q 18 0 3 rfl).trans h1875
        have hTp77 : ∀ i, i < n → g77 19 0 i = T i := fun i hi => (hF77q 19 0 i rfl).trans (hTp75 i hi)
        have kk11_77 : ∀ x j, g77 11 x j = f 11 x j := fun x j => (hF77q 11 x j rfl).trans (kk11_75 x j)
        have fti77 : (g77 18 0 7).toInt = -1 := by rw [ft77]; decide
        have c110x : zB (g77 18 0 7) (-1) (-1) := by first | assumption | (constructor <;> omega)
        have bo77x : zB v77 1 40 := by have qk77_0 : (1 : Int32).toInt = 1 := (by decide); have qk77_1 : (40 : Int32).toInt = 40 := (by decide); constructor <;> omega
        refine z_istore (pc := 27) C dX7_readPaper_27 (by rw [hn]; decide) rfl ?_
        refine z_goto (pc := 29) 38 C dX7_readPaper_29 (by decide) ?_
        refine z_aload_n (pc := 38) C dX7_readPaper_38 rfl ?_
        refine z_ldcT (pc := 39) (i := 0) (tx := "") C hT (Or.inl ⟨rfl, rfl⟩) dX7_readPaper_39 ?_
        refine z_iconst (pc := 41) (v := 0) C dX7_readPaper_41 (by decide) ?_
        refine z_callVS (pc := 42) C hT zk_X7_91 (e_X7_readLetters_0 _ _ 0 (zB.of (x := 0) 0 (by decide))  T n (u77) hN h1877 hTp77 hq77 hb77 ft77 hI77) rfl rfl (by decide) rfl rfl (Nat.le_of_ble_eq_true rfl) dX7_readPaper_42 (fun r111 g111 q111 => ?_)
        obtain ⟨⟨v111, rfl, b111x⟩, hI111, hF111q, hp111⟩ := q111
        have hp111 := hp111 _ rfl
        have hF111 := zFr.tr hF77 hF111q (by decide)
        simp only [Option.toList, List.cons_append, List.nil_append]
        have cr111_18_0_7 : zB (g111 18 0 7) (-1) 120 := hI111 18 0 7
        have ek111_18_0_5 : (g111 18 0 5).toInt = (g77 18 0 5).toInt := by rw [hF111q 18 0 5 rfl]
        have c111_18_0_5x : zB (g111 18 0 5) 0 11 := by first | exact zB.eqv ek111_18_0_5 c77_18_0_5x | (have q9 := c77_18_0_5x; constructor <;> omega)
        rcases hp111 with ⟨u111, hc111, hb111, hz111⟩ | ⟨u111, hc111, hq111, hb111, ft111⟩
        · skip
          have kk11_111 : ∀ x j, g111 11 x j = f 11 x j := fun x j => (hF111q 11 x j rfl).trans (kk11_77 x j)
          have hzi111 : (g111 18 0 7).toInt = (u111 : Int) := by rw [hz111]; exact nI_toInt (by omega)
          have c112x : zB (g111 18 0 7) 0 120 := by first | assumption | (constructor <;> omega)
          refine z_istore (pc := 45) C dX7_readPaper_45 (by rw [hn]; decide) rfl ?_
          refine z_aload_n (pc := 47) C dX7_readPaper_47 rfl ?_
          refine z_bipush (pc := 48) (v := 116) C dX7_readPaper_48 (by decide) ?_
          refine z_callV (pc := 50) C zk_X7_48 (w_X7_takes _ _ 116 (zB.wk (a' := 1) (b' := 126) (zB.of (x := 116) 116 (by decide)) (by decide) (by decide)) hI111) rfl rfl (by decide) rfl rfl (Nat.le_of_ble_eq_true rfl) dX7_readPaper_50 (fun r113 g113 q113 => ?_)
          obtain ⟨⟨v113, rfl, b113x⟩, hI113, hF113q⟩ := q113
          have hF113 := zFr.tr hF111 hF113q (by decide)
          simp only [Option.toList, List.cons_append, List.nil_append]
          have ek113_18_0_7 : (g113 18 0 7).toInt = (g111 18 0 7).toInt := by rw [hF113q 18 0 7 rfl]
          have c113_18_0_7x : zB (g113 18 0 7) 0 120 := by first | exact zB.eqv ek113_18_0_7 c112x | (have q9 := c112x; constructor <;> omega)
          have ek113_18_0_5 : (g113 18 0 5).toInt = (g111 18 0 5).toInt := by rw [hF113q 18 0 5 rfl]
          have c113_18_0_5x : zB (g113 18 0 5) 0 11 := by first | exact zB.eqv ek113_18_0_5 c111_18_0_5x | (have q9 := c111_18_0_5x; constructor <;> omega)
          have c114x : zB (g113 18 0 7) 0 120 := by first | assumption | (constructor <;> omega)
          have kk11_113 : ∀ x j, g113 11 x j = f 11 x j := fun x j => (hF113q 11 x j rfl).trans (kk11_111 x j)
          refine z_if_eq (pc := 53) 66 C dX7_readPaper_53 (by decide) (fun h53_114 => ?_) (fun h53_114 => ?_)
          · skip
            have b116x : zB v113 0 0 := by have q1 := b113x; have q2 := (zB.of (x := 0) 0 (by decide)); simp only [z32lt, z32le, z32eq, Int32.reduceToInt, Int32.toInt_zero] at h53_114; constructor <;> omega
            refine z_iconst (pc := 66) (v := 0) C dX7_readPaper_66 (by decide) ?_
            refine z_istore (pc := 67) C dX7_readPaper_67 (by rw [hn]; decide) rfl ?_
            refine z_aload_n (pc := 69) C dX7_readPaper_69 rfl ?_
            refine z_bipush (pc := 70) (v := 43) C dX7_readPaper_70 (by decide) ?_
            refine z_callV (pc := 72) C zk_X7_48 (w_X7_takes _ _ 43 (zB.wk (a' := 1) (b' := 126) (zB.of (x := 43) 43 (by decide)) (by decide) (by decide)) hI113) rfl rfl (by decide) rfl rfl (Nat.le_of_ble_eq_true rfl) dX7_readPaper_72 (fun r117 g117 q117 => ?_)
            obtain ⟨⟨v117, rfl, b117x⟩, hI117, hF117q⟩ := q117
            have hF117 := zFr.tr hF113 hF117q (by decide)
            simp only [Option.toList, List.cons_append, List.nil_append]
            have ek117_18_0_7 : (g117 18 0 7).toInt = (g113 18 0 7).toInt := by rw [hF117q 18 0 7 rfl]
            have c117_18_0_7x : zB (g117 18 0 7) 0 120 := by first | exact zB.eqv ek117_18_0_7 c114x | (have q9 := c114x; constructor <;> omega)
            have ek117_18_0_5 : (g117 18 0 5).toInt = (g113 18 0 5).toInt := by rw [hF117q 18 0 5 rfl]
            have c117_18_0_5x : zB (g117 18 0 5) 0 11 := by first | exact zB.eqv ek117_18_0_5 c113_18_0_5x | (have q9 := c113_18_0_5x; constructor <;> omega)
            have c118x : zB (g117 18 0 7) 0 120 := by first | assumption | (constructor <;> omega)
            have kk11_117 : ∀ x j, g117 11 x j = f 11 x j := fun x j => (hF117q 11 x j rfl).trans (kk11_113 x j)
            refine z_if_eq (pc := 75) 85 C dX7_readPaper_75 (by decide) (fun h75_118 => ?_) (fun h75_118 => ?_)
            · skip
              have b120x : zB v117 0 0 := by have q1 := b117x; have q2 := (zB.of (x := 0) 0 (by decide)); simp only [z32lt, z32le, z32eq, Int32.reduceToInt, Int32.toInt_zero] at h75_118; constructor <;> omega
              refine z_iconst (pc := 85) (v := 0) C dX7_readPaper_85 (by decide) ?_
              refine z_istore (pc := 86) C dX7_readPaper_86 (by rw [hn]; decide) rfl ?_
              refine z_aload_n (pc := 88) C dX7_readPaper_88 rfl ?_
              refine z_getI (pc := 89) C zf_X7_36 rfl rfl (by decide) dX7_readPaper_89 ?_
              refine w_gp (fun v => v = g117 18 0 7) rfl (fun v121 q121 => ?_)
              have e121 : v121.toInt = (g117 18 0 7).toInt := by rw [q121]
              have b121x : zB v121 0 120 := by first | exact zB.eqv e121 c118x | (have q9 := c118x; constructor <;> omega)
              refine z_iconst (pc := 92) (v := -1) C dX7_readPaper_92 (by decide) ?_
              refine z_icmp_ne (pc := 93) 161 C dX7_readPaper_93 (by decide) (fun h93_121 => ?_) (fun h93_121 => absurd h93_121 (by have q1 := b121x; have q2 := (zB.of (x := (-1)) (-1) (by decide)); first | (simp only [z32lt, z32le, z32eq]; omega) | (simp only [z32lt, z32le, z32eq] at *; omega)))
              exact z_vret (pc := 161) C hr dX7_readPaper_161 ⟨rfl, hI117, hF117, (by
                                                                                          refine Or.inl ⟨u111, ?_, hb111, ?_, (fun x j => kk11_117 x j)⟩
                                                                                          · unfold zpaC zPa zbrC; simp only [zbd, zPb, hc1, if_pos hc75, hd77, hc111]
                                                                                          · rw [z32eq, nI_toInt (by omega)]
                                                                                            omega)⟩
            · skip
              have b123x : zB v117 1 1 := by have q1 := b117x; have q2 := (zB.of (x := 0) 0 (by decide)); simp only [z32lt, z32le, z32eq, Int32.reduceToInt, Int32.toInt_zero] at h75_118; constructor <;> omega
              refine z_aload_n (pc := 78) C dX7_readPaper_78 rfl ?_
              refine z_callVS (pc := 79) C hT zk_X7_95 (k_X7_readPromises _ _  hI117) rfl rfl (by decide) rfl rfl (Nat.le_of_ble_eq_true rfl) dX7_readPaper_79 (fun r124 g124 q124 => ?_)
              obtain ⟨⟨v124, rfl, b124x⟩, hI124, hF124q, hp124_0, hp124_1⟩ := q124
              have hp124_0 := hp124_0 _ rfl
              have hp124_1 := hp124_1 _ rfl
              have hF124 := zFr.tr hF117 hF124q (by decide)
              simp only [Option.toList, List.cons_append, List.nil_append]
              have cr124_18_0_7 : zB (g124 18 0 7) (-1) 120 := hI124 18 0 7
              have ek124_18_0_5 : (g124 18 0 5).toInt = (g117 18 0 5).toInt := by rw [hF124q 18 0 5 rfl]
              have c124_18_0_5x : zB (g124 18 0 5) 0 11 := by first | exact zB.eqv ek124_18_0_5 c117_18_0_5x | (have q9 := c117_18_0_5x; constructor <;> omega)
              have c125x : zB (g124 18 0 7) 0 120 := by first | assumption | (constructor <;> omega)
              have kk11_124 : ∀ x j, g124 11 x j = f 11 x j := fun x j => (hF124q 11 x j rfl).trans (kk11_117 x j)
              refine z_goto (pc := 82) 86 C dX7_readPaper_82 (by decide) ?_
              refine z_istore (pc := 86) C dX7_readPaper_86 (by rw [hn]; decide) rfl ?_
              refine z_aload_n (pc := 88) C dX7_readPaper_88 rfl ?_
              refine z_getI (pc := 89) C zf_X7_36 rfl rfl (by decide) dX7_readPaper_89 ?_
              refine w_gp (fun v => v = g124 18 0 7) rfl (fun v126 q126 => ?_)
              have e126 : v126.toInt = (g124 18 0 7).toInt := by rw [q126]
              have b126x : zB v126 0 120 := by first | exact zB.eqv e126 c125x | (have q9 := c125x; constructor <;> omega)
              refine z_iconst (pc := 92) (v := -1) C dX7_readPaper_92 (by decide) ?_
              refine z_icmp_ne (pc := 93) 161 C dX7_readPaper_93 (by decide) (fun h93_126 => ?_) (fun h93_126 => absurd h93_126 (by have q1 := b126x; have q2 := (zB.of (x := (-1)) (-1) (by decide)); first | (simp only [z32lt, z32le, z32eq]; omega) | (simp only [z32lt, z32le, z32eq] at *; omega)))
              exact z_vret (pc := 161) C hr dX7_readPaper_161 ⟨rfl, hI124, hF124, (by
                                                                                          refine Or.inl ⟨u111, ?_, hb111, ?_, (fun x j => kk11_124 x j)⟩
                                                                                          · unfold zpaC zPa zbrC; simp only [zbd, zPb, hc1, if_pos hc75, hd77, hc111]
                                                                                          · rw [z32eq, nI_toInt (by omega)]
                                                                                            omega)⟩
          · skip
            have b128x : zB v113 1 1 := by have q1 := b113x; have q2 := (zB.of (x := 0) 0 (by decide)); simp only [z32lt, z32le, z32eq, Int32.reduceToInt, Int32.toInt_zero] at h53_114; constructor <;> omega
            refine z_aload_n (pc := 56) C dX7_readPaper_56 rfl ?_
            refine z_iconst (pc := 57) (v := 1) C dX7_readPaper_57 (by decide) ?_
            refine z_bipush (pc := 58) (v := 99) C dX7_readPaper_58 (by decide) ?_
            refine z_callV (pc := 60) C zk_X7_73 (k_X7_readNumber _ _ 1 (zB.wk (a' := (-2147483648)) (b' := 1000) (zB.of (x := 1) 1 (by decide)) (by decide) (by decide)) 99 (zB.wk (a' := 0) (b' := 99) (zB.of (x := 99) 99 (by decide)) (by decide) (by decide)) hI113) rfl rfl (by decide) rfl rfl (Nat.le_of_ble_eq_true rfl) dX7_readPaper_60 (fun r129 g129 q129 => ?_)
            have qa129_1 : (1 : Int32).toInt = 1 := by decide
            have qa129_99 : (99 : Int32).toInt = 99 := by decide
            obtain ⟨⟨v129, rfl, b129x⟩, hI129, hF129q, hp129_0, hp129_1, hp129_2⟩ := q129
            have hp129_0 := hp129_0 _ rfl
            have hp129_1 := hp129_1 _ rfl
            have hp129_2 := hp129_2 _ rfl
            have hF129 := zFr.tr hF113 hF129q (by decide)
            simp only [Option.toList, List.cons_append, List.nil_append]
            have cr129_18_0_7 : zB (g129 18 0 7) (-1) 120 := hI129 18 0 7
            have ek129_18_0_5 : (g129 18 0 5).toInt = (g113 18 0 5).toInt := by rw [hF129q 18 0 5 rfl]
            have c129_18_0_5x : zB (g129 18 0 5) 0 11 := by first | exact zB.eqv ek129_18_0_5 c113_18_0_5x | (have q9 := c113_18_0_5x; constructor <;> omega)
            have c130x : zB (g129 18 0 7) 0 120 := by first | assumption | (constructor <;> omega)
            have kk11_129 : ∀ x j, g129 11 x j = f 11 x j := fun x j => (hF129q 11 x j rfl).trans (kk11_113 x j)
            refine z_goto (pc := 63) 67 C dX7_readPaper_63 (by decide) ?_
            refine z_istore (pc := 67) C dX7_readPaper_67 (by rw [hn]; decide) rfl ?_
            refine z_aload_n (pc := 69) C dX7_readPaper_69 rfl ?_
            refine z_bipush (pc := 70) (v := 43) C dX7_readPaper_70 (by decide) ?_
            refine z_callV (pc := 72) C zk_X7_48 (w_X7_takes _ _ 43 (zB.wk (a' := 1) (b' := 126) (zB.of (x := 43) 43 (by decide)) (by decide) (by decide)) hI129) rfl rfl (by decide) rfl rfl (Nat.le_of_ble_eq_true rfl) dX7_readPaper_72 (fun r131 g131 q131 => ?_)
            obtain ⟨⟨v131, rfl, b131x⟩, hI131, hF131q⟩ := q131
            have hF131 := zFr.tr hF129 hF131q (by decide)
            simp only [Option.toList, List.cons_append, List.nil_append]
            have ek131_18_0_7 : (g131 18 0 7).toInt = (g129 18 0 7).toInt := by rw [hF131q 18 0 7 rfl]
            have c131_18_0_7x : zB (g131 18 0 7) 0 120 := by first | exact zB.eqv ek131_18_0_7 c130x | (have q9 := c130x; constructor <;> omega)
            have ek131_18_0_5 : (g131 18 0 5).toInt = (g129 18 0 5).toInt := by rw [hF131q 18 0 5 rfl]
            have c131_18_0_5x : zB (g131 18 0 5) 0 11 := by first | exact zB.eqv ek131_18_0_5 c129_18_0_5x | (have q9 := c129_18_0_5x; constructor <;> omega)
            have c132x : zB (g131 18 0 7) 0 120 := by first | assumption | (constructor <;> omega)
            have kk11_131 : ∀ x j, g131 11 x j = f 11 x j := fun x j => (hF131q 11 x j rfl).trans (kk11_129 x j)
            refine z_if_eq (pc := 75) 85 C dX7_readPaper_75 (by decide) (fun h75_132 => ?_) (fun h75_132 => ?_)
            · skip
              have b134x : zB v131 0 0 := by have q1 := b131x; have q2 := (zB.of (x := 0) 0 (by decide)); simp only [z32lt, z32le, z32eq, Int32.reduceToInt, Int32.toInt_zero] at h75_132; constructor <;> omega
              refine z_iconst (pc := 85) (v := 0) C dX7_readPaper_85 (by decide) ?_
              refine z_istore (pc := 86) C dX7_readPaper_86 (by rw [hn]; decide) rfl ?_
              refine z_aload_n (pc := 88) C dX7_readPaper_88 rfl ?_
              refine z_getI (pc := 89) C zf_X7_36 rfl rfl (by decide) dX7_readPaper_89 ?_
              refine w_gp (fun v => v = g131 18 0 7) rfl (fun v135 q135 => ?_)
              have e135 : v135.toInt = (g131 18 0 7).toInt := by rw [q135]
              have b135x : zB v135 0 120 := by first | exact zB.eqv e135 c132x | (have q9 := c132x; constructor <;> omega)
              refine z_iconst (pc := 92) (v := -1) C dX7_readPaper_92 (by decide) ?_
              refine z_icmp_ne (pc := 93) 161 C dX7_readPaper_93 (by decide) (fun h93_135 => ?_) (fun h93_135 => absurd h93_135 (by have q1 := b135x; have q2 := (zB.of (x := (-1)) (-1) (by decide)); first | (simp only [z32lt, z32le, z32eq]; omega) | (simp only [z32lt, z32le, z32eq] at *; omega)))
              exact z_vret (pc := 161) C hr dX7_readPaper_161 ⟨rfl, hI131, hF131, (by
                                                                                          refine Or.inl ⟨u111, ?_, hb111, ?_, (fun x j => kk11_131 x j)⟩
                                                                                          · unfold zpaC zPa zbrC; simp only [zbd, zPb, hc1, if_pos hc75, hd77, hc111]
                                                                                          · rw [z32eq, nI_toInt (by omega)]
                                                                                            omega)⟩
            · skip
              have b137x : zB v131 1 1 := by have q1 := b131x; have q2 := (zB.of (x := 0) 0 (by decide)); simp only [z32lt, z32le, z32eq, Int32.reduceToInt, Int32.toInt_zero] at h75_132; constructor <;> omega
              refine z_aload_n (pc := 78) C dX7_readPaper_78 rfl ?_
              refine z_callVS (pc := 79) C hT zk_X7_95 (k_X7_readPromises _ _  hI131) rfl rfl (by decide) rfl rfl (Nat.le_of_ble_eq_true rfl) dX7_readPaper_79 (fun r138 g138 q138 => ?_)
              obtain ⟨⟨v138, rfl, b138x⟩, hI138, hF138q, hp138_0, hp138_1⟩ := q138
              have hp138_0 := hp138_0 _ rfl
              have hp138_1 := hp138_1 _ rfl
              have hF138 := zFr.tr hF131 hF138q (by decide)
              simp only [Option.toList, List.cons_append, List.nil_append]
              have cr138_18_0_7 : zB (g138 18 0 7) (-1) 120 := hI138 18 0 7
              have ek138_18_0_5 : (g138 18 0 5).toInt = (g131 18 0 5).toInt := by rw [hF138q 18 0 5 rfl]
              have c138_18_0_5x : zB (g138 18 0 5) 0 11 := by first | exact zB.eqv ek138_18_0_5 c131_18_0_5x | (have q9 := c131_18_0_5x; constructor <;> omega)
              have c139x : zB (g138 18 0 7) 0 120 := by first | assumption | (constructor <;> omega)
              have kk11_138 : ∀ x j, g138 11 x j = f 11 x j := fun x j => (hF138q 11 x j rfl).trans (kk11_131 x j)
              refine z_goto (pc := 82) 86 C dX7_readPaper_82 (by decide) ?_
              refine z_istore (pc := 86) C dX7_readPaper_86 (by rw [hn]; decide) rfl ?_
              refine z_aload_n (pc := 88) C dX7_readPaper_88 rfl ?_
              refine z_getI (pc := 89) C zf_X7_36 rfl rfl (by decide) dX7_readPaper_89 ?_
              refine w_gp (fun v => v = g138 18 0 7) rfl (fun v140 q140 => ?_)
              have e140 : v140.toInt = (g138 18 0 7).toInt := by rw [q140]
              have b140x : zB v140 0 120 := by first | exact zB.eqv e140 c139x | (have q9 := c139x; constructor <;> omega)
              refine z_iconst (pc := 92) (v := -1) C dX7_readPaper_92 (by decide) ?_
              refine z_icmp_ne (pc := 93) 161 C dX7_readPaper_93 (by decide) (fun h93_140 => ?_) (fun h93_140 => absurd h93_140 (by have q1 := b140x; have q2 := (zB.of (x := (-1)) (-1) (by decide)); first | (simp only [z32lt, z32le, z32eq]; omega) | (simp only [z32lt, z32le, z32eq] at *; omega)))
              exact z_vret (pc := 161) C hr dX7_readPaper_161 ⟨rfl, hI138, hF138, (by
                                                                                          refine Or.inl ⟨u111, ?_, hb111, ?_, (fun x j => kk11_138 x j)⟩
                                                                                          · unfold zpaC zPa zbrC; simp only [zbd, zPb, hc1, if_pos hc75, hd77, hc111]
                                                                                          · rw [z32eq, nI_toInt (by omega)]
                                                                                            omega)⟩
        · skip
          have h18111 : g111 18 0 3 = nI n := (hF111q 18 0 3 rfl).trans h1877
          have hTp111 : ∀ i, i < n → g111 19 0 i = T i := fun i hi => (hF111q 19 0 i rfl).trans (hTp77 i hi)
          have kk11_111 : ∀ x j, g111 11 x j = f 11 x j := fun x j => (hF111q 11 x j rfl).trans (kk11_77 x j)
          have fti111 : (g111 18 0 7).toInt = -1 := by rw [ft111]; decide
          have c142x : zB (g111 18 0 7) (-1) (-1) := by first | assumption | (constructor <;> omega)
          refine z_istore (pc := 45) C dX7_readPaper_45 (by rw [hn]; decide) rfl ?_
          refine z_aload_n (pc := 47) C dX7_readPaper_47 rfl ?_
          refine z_bipush (pc := 48) (v := 116) C dX7_readPaper_48 (by decide) ?_
          refine z_callV (pc := 50) C zk_X7_48 (e_X7_takes _ _ 116 (zB.wk (a' := 1) (b' := 126) (zB.of (x := 116) 116 (by decide)) (by decide) (by decide)) T n (u111) hN h18111 hTp111 hq111 hb111 hI111) rfl rfl (by decide) rfl rfl (Nat.le_of_ble_eq_true rfl) dX7_readPaper_50 (fun r143 g143 q143 => ?_)
          obtain ⟨⟨v143, rfl, b143x⟩, hI143, hF143q, hp143⟩ := q143
          have hp143 := hp143 _ rfl
          have hF143 := zFr.tr hF111 hF143q (by decide)
          simp only [Option.toList, List.cons_append, List.nil_append]
          have ek143_18_0_7 : (g143 18 0 7).toInt = (g111 18 0 7).toInt := by rw [hF143q 18 0 7 rfl]
          have c143_18_0_7x : zB (g143 18 0 7) (-1) (-1) := by first | exact zB.eqv ek143_18_0_7 c142x | (have q9 := c142x; constructor <;> omega)
          have ek143_18_0_5 : (g143 18 0 5).toInt = (g111 18 0 5).toInt := by rw [hF143q 18 0 5 rfl]
          have c143_18_0_5x : zB (g143 18 0 5) 0 11 := by first | exact zB.eqv ek143_18_0_5 c111_18_0_5x | (have q9 := c111_18_0_5x; constructor <;> omega)
          have h18143 : g143 18 0 3 = nI n := (hF143q 18 0 3 rfl).trans h18111
          have hTp143 : ∀ i, i < n → g143 19 0 i = T i := fun i hi => (hF143q 19 0 i rfl).trans (hTp111 i hi)
          have ft143 : g143 18 0 7 = -1 := (hF143q 18 0 7 rfl).trans ft111
          have kk11_143 : ∀ x j, g143 11 x j = f 11 x j := fun x j => (hF143q 11 x j rfl).trans (kk11_111 x j)
          rcases hp143 with ⟨hc143, rfl, hq143, hb143⟩ | ⟨hc143, rfl, hq143⟩
          · skip
            refine z_if_eq (pc := 53) 66 C dX7_readPaper_53 (by decide) (fun h => absurd h (by decide)) (fun _ => ?_)
            refine z_aload_n (pc := 56) C dX7_readPaper_56 rfl ?_
            refine z_iconst (pc := 57) (v := 1) C dX7_readPaper_57 (by decide) ?_
            refine z_bipush (pc := 58) (v := 99) C dX7_readPaper_58 (by decide) ?_
            refine z_callV (pc := 60) C zk_X7_73 (e_X7_readNumber _ _ 1 (zB.wk (a' := 0) (b' := 40) (zB.of (x := 1) 1 (by decide)) (by decide) (by decide)) 99 (zB.wk (a' := 0) (b' := 99) (zB.of (x := 99) 99 (by decide)) (by decide) (by decide))  T n (zsp T n (u111) + 1) hN h18143 hTp143 hq143 hb143 ft143 hI143) rfl rfl (by decide) rfl rfl (Nat.le_of_ble_eq_true rfl) dX7_readPaper_60 (fun r144 g144 q144 => ?_)
            obtain ⟨⟨v144, rfl, b144x⟩, hI144, hF144q, hp144⟩ := q144
            have hp144 := hp144 _ rfl
            have hF144 := zFr.tr hF143 hF144q (by decide)
            simp only [Option.toList, List.cons_append, List.nil_append]
            have cr144_18_0_7 : zB (g144 18 0 7) (-1) 120 := hI144 18 0 7
            have ek144_18_0_5 : (g144 18 0 5).toInt = (g143 18 0 5).toInt := by rw [hF144q 18 0 5 rfl]
            have c144_18_0_5x : zB (g144 18 0 5) 0 11 := by first | exact zB.eqv ek144_18_0_5 c143_18_0_5x | (have q9 := c143_18_0_5x; constructor <;> omega)
            rcases hp144 with ⟨u144, hc144, hb144, hz144⟩ | ⟨u144, hc144, hq144, hb144, ft144, hlo144, hhi144⟩
            · skip
              have hd144 : znu T n 1 99 (zsp T n (u111) + 1) = _ := hc144
              have kk11_144 : ∀ x j, g144 11 x j = f 11 x j := fun x j => (hF144q 11 x j rfl).trans (kk11_143 x j)
              have hzi144 : (g144 18 0 7).toInt = (u144 : Int) := by rw [hz144]; exact nI_toInt (by omega)
              have c145x : zB (g144 18 0 7) 0 120 := by first | assumption | (constructor <;> omega)
              refine z_goto (pc := 63) 67 C dX7_readPaper_63 (by decide) ?_
              refine z_istore (pc := 67) C dX7_readPaper_67 (by rw [hn]; decide) rfl ?_
              refine z_aload_n (pc := 69) C dX7_readPaper_69 rfl ?_
              refine z_bipush (pc := 70) (v := 43) C dX7_readPaper_70 (by decide) ?_
              refine z_callV (pc := 72) C zk_X7_48 (w_X7_takes _ _ 43 (zB.wk (a' := 1) (b' := 126) (zB.of (x := 43) 43 (by decide)) (by decide) (by decide)) hI144) rfl rfl (by decide) rfl rfl (Nat.le_of_ble_eq_true rfl) dX7_readPaper_72 (fun r146 g146 q146 => ?_)
              obtain ⟨⟨v146, rfl, b146x⟩, hI146, hF146q⟩ := q146
              have hF146 := zFr.tr hF144 hF146q (by decide)
              simp only [Option.toList, List.cons_append, List.nil_append]
              have ek146_18_0_7 : (g146 18 0 7).toInt = (g144 18 0 7).toInt := by rw [hF146q 18 0 7 rfl]
              have c146_18_0_7x : zB (g146 18 0 7) 0 120 := by first | exact zB.eqv ek146_18_0_7 c145x | (have q9 := c145x; constructor <;> omega)
              have ek146_18_0_5 : (g146 18 0 5).toInt = (g144 18 0 5).toInt := by rw [hF146q 18 0 5 rfl]
              have c146_18_0_5x : zB (g146 18 0 5) 0 11 := by first | exact zB.eqv ek146_18_0_5 c144_18_0_5x | (have q9 := c144_18_0_5x; constructor <;> omega)
              have c147x : zB (g146 18 0 7) 0 120 := by first | assumption | (constructor <;> omega)
              have kk11_146 : ∀ x j, g146 11 x j = f 11 x j := fun x j => (hF146q 11 x j rfl).trans (kk11_144 x j)
              refine z_if_eq (pc := 75) 85 C dX7_readPaper_75 (by decide) (fun h75_147 => ?_) (fun h75_147 => ?_)
              · skip
                have b149x : zB v146 0 0 := by have q1 := b146x; have q2 := (zB.of (x := 0) 0 (by decide)); simp only [z32lt, z32le, z32eq, Int32.reduceToInt, Int32.toInt_zero] at h75_147; constructor <;> omega
                refine z_iconst (pc := 85) (v := 0) C dX7_readPaper_85 (by decide) ?_
                refine z_istore (pc := 86) C dX7_readPaper_86 (by rw [hn]; decide) rfl ?_
                refine z_aload_n (pc := 88) C dX7_readPaper_88 rfl ?_
                refine z_getI (pc := 89) C zf_X7_36 rfl rfl (by decide) dX7_readPaper_89 ?_
                refine w_gp (fun v => v = g146 18 0 7) rfl (fun v150 q150 => ?_)
                have e150 : v150.toInt = (g146 18 0 7).toInt := by rw [q150]
                have b150x : zB v150 0 120 := by first | exact zB.eqv e150 c147x | (have q9 := c147x; constructor <;> omega)
                refine z_iconst (pc := 92) (v := -1) C dX7_readPaper_92 (by decide) ?_
                refine z_icmp_ne (pc := 93) 161 C dX7_readPaper_93 (by decide) (fun h93_150 => ?_) (fun h93_150 => absurd h93_150 (by have q1 := b150x; have q2 := (zB.of (x := (-1)) (-1) (by decide)); first | (simp only [z32lt, z32le, z32eq]; omega) | (simp only [z32lt, z32le, z32eq] at *; omega)))
                exact z_vret (pc := 161) C hr dX7_readPaper_161 ⟨rfl, hI146, hF146, (by
                                                                                          refine Or.inl ⟨u144, ?_, hb144, ?_, (fun x j => kk11_146 x j)⟩
                                                                                          · unfold zpaC zPa zbrC; simp only [zbd, zPb, hc1, if_pos hc75, hd77, hc111, if_pos hc143, hd144]
                                                                                          · rw [z32eq, nI_toInt (by omega)]
                                                                                            omega)⟩
              · skip
                have b152x : zB v146 1 1 := by have q1 := b146x; have q2 := (zB.of (x := 0) 0 (by decide)); simp only [z32lt, z32le, z32eq, Int32.reduceToInt, Int32.toInt_zero] at h75_147; constructor <;> omega
                refine z_aload_n (pc := 78) C dX7_readPaper_78 rfl ?_
                refine z_callVS (pc := 79) C hT zk_X7_95 (k_X7_readPromises _ _  hI146) rfl rfl (by decide) rfl rfl (Nat.le_of_ble_eq_true rfl) dX7_readPaper_79 (fun r153 g153 q153 => ?_)
                obtain ⟨⟨v153, rfl, b153x⟩, hI153, hF153q, hp153_0, hp153_1⟩ := q153
                have hp153_0 := hp153_0 _ rfl
                have hp153_1 := hp153_1 _ rfl
                have hF153 := zFr.tr hF146 hF153q (by decide)
                simp only [Option.toList, List.cons_append, List.nil_append]
                have cr153_18_0_7 : zB (g153 18 0 7) (-1) 120 := hI153 18 0 7
                have ek153_18_0_5 : (g153 18 0 5).toInt = (g146 18 0 5).toInt := by rw [hF153q 18 0 5 rfl]
                have c153_18_0_5x : zB (g153 18 0 5) 0 11 := by first | exact zB.eqv ek153_18_0_5 c146_18_0_5x | (have q9 := c146_18_0_5x; constructor <;> omega)
                have c154x : zB (g153 18 0 7) 0 120 := by first | assumption | (constructor <;> omega)
                have kk11_153 : ∀ x j, g153 11 x j = f 11 x j := fun x j => (hF153q 11 x j rfl).trans (kk11_146 x j)
                refine z_goto (pc := 82) 86 C dX7_readPaper_82 (by decide) ?_
                refine z_istore (pc := 86) C dX7_readPaper_86 (by rw [hn]; decide) rfl ?_
                refine z_aload_n (pc := 88) C dX7_readPaper_88 rfl ?_
                refine z_getI (pc := 89) C zf_X7_36 rfl rfl (by decide) dX7_readPaper_89 ?_
                refine w_gp (fun v => v = g153 18 0 7) rfl (fun v155 q155 => ?_)
                have e155 : v155.toInt = (g153 18 0 7).toInt := by rw [q155]
                have b155x : zB v155 0 120 := by first | exact zB.eqv e155 c154x | (have q9 := c154x; constructor <;> omega)
                refine z_iconst (pc := 92) (v := -1) C dX7_readPaper_92 (by decide) ?_
                refine z_icmp_ne (pc := 93) 161 C dX7_readPaper_93 (by decide) (fun h93_155 => ?_) (fun h93_155 => absurd h93_155 (by have q1 := b155x; have q2 := (zB.of (x := (-1)) (-1) (by decide)); first | (simp only [z32lt, z32le, z32eq]; omega) | (simp only [z32lt, z32le, z32eq] at *; omega)))
                exact z_vret (pc := 161) C hr dX7_readPaper_161 ⟨rfl, hI153, hF153, (by
                                                                                          refine Or.inl ⟨u144, ?_, hb144, ?_, (fun x j => kk11_153 x j)⟩
                                                                                          · unfold zpaC zPa zbrC; simp only [zbd, zPb, hc1, if_pos hc75, hd77, hc111, if_pos hc143, hd144]
                                                                                          · rw [z32eq, nI_toInt (by omega)]
                                                                                            omega)⟩
            · skip
              have hd144 : znu T n 1 99 (zsp T n (u111) + 1) = _ := hc144
              have h18144 : g144 18 0 3 = nI n := (hF144q 18 0 3 rfl).trans h18143
              have hTp144 : ∀ i, i < n → g144 19 0 i = T i := fun i hi => (hF144q 19 0 i rfl).trans (hTp143 i hi)
              have kk11_144 : ∀ x j, g144 11 x j = f 11 x j := fun x j => (hF144q 11 x j rfl).trans (kk11_143 x j)
              have fti144 : (g144 18 0 7).toInt = -1 := by rw [ft144]; decide
              have c157x : zB (g144 18 0 7) (-1) (-1) := by first | assumption | (constructor <;> omega)
              have bo144x : zB v144 1 99 := by have qk144_0 : (1 : Int32).toInt = 1 := (by decide); have qk144_1 : (99 : Int32).toInt = 99 := (by decide); constructor <;> omega
              refine z_goto (pc := 63) 67 C dX7_readPaper_63 (by decide) ?_
              refine z_istore (pc := 67) C dX7_readPaper_67 (by rw [hn]; decide) rfl ?_
              refine z_aload_n (pc := 69) C dX7_readPaper_69 rfl ?_
              refine z_bipush (pc := 70) (v := 43) C dX7_readPaper_70 (by decide) ?_
              refine z_callV (pc := 72) C zk_X7_48 (e_X7_takes _ _ 43 (zB.wk (a' := 1) (b' := 126) (zB.of (x := 43) 43 (by decide)) (by decide) (by decide)) T n (u144) hN h18144 hTp144 hq144 hb144 hI144) rfl rfl (by decide) rfl rfl (Nat.le_of_ble_eq_true rfl) dX7_readPaper_72 (fun r158 g158 q158 => ?_)
              obtain ⟨⟨v158, rfl, b158x⟩, hI158, hF158q, hp158⟩ := q158
              have hp158 := hp158 _ rfl
              have hF158 := zFr.tr hF144 hF158q (by decide)
              simp only [Option.toList, List.cons_append, List.nil_append]
              have ek158_18_0_7 : (g158 18 0 7).toInt = (g144 18 0 7).toInt := by rw [hF158q 18 0 7 rfl]
              have c158_18_0_7x : zB (g158 18 0 7) (-1) (-1) := by first | exact zB.eqv ek158_18_0_7 c157x | (have q9 := c157x; constructor <;> omega)
              have ek158_18_0_5 : (g158 18 0 5).toInt = (g144 18 0 5).toInt := by rw [hF158q 18 0 5 rfl]
              have c158_18_0_5x : zB (g158 18 0 5) 0 11 := by first | exact zB.eqv ek158_18_0_5 c144_18_0_5x | (have q9 := c144_18_0_5x; constructor <;> omega)
              have h18158 : g158 18 0 3 = nI n := (hF158q 18 0 3 rfl).trans h18144
              have hTp158 : ∀ i, i < n → g158 19 0 i = T i := fun i hi => (hF158q 19 0 i rfl).trans (hTp144 i hi)
              have ft158 : g158 18 0 7 = -1 := (hF158q 18 0 7 rfl).trans ft144
              have kk11_158 : ∀ x j, g158 11 x j = f 11 x j := fun x j => (hF158q 11 x j rfl).trans (kk11_144 x j)
              rcases hp158 with ⟨hc158, rfl, hq158, hb158⟩ | ⟨hc158, rfl, hq158⟩
              · skip
                refine z_if_eq (pc := 75) 85 C dX7_readPaper_75 (by decide) (fun h => absurd h (by decide)) (fun _ => ?_)
                refine z_aload_n (pc := 78) C dX7_readPaper_78 rfl ?_
                refine z_callVS (pc := 79) C hT zk_X7_95 (e_X7_readPromises _ _   T n (zsp T n (u144) + 1) hN h18158 hTp158 hq158 hb158 ft158 hI158) rfl rfl (by decide) rfl rfl (Nat.le_of_ble_eq_true rfl) dX7_readPaper_79 (fun r159 g159 q159 => ?_)
                obtain ⟨⟨v159, rfl, b159x⟩, hI159, hF159q, hp159⟩ := q159
                have hp159 := hp159 _ rfl
                have hF159 := zFr.tr hF158 hF159q (by decide)
                simp only [Option.toList, List.cons_append, List.nil_append]
                have cr159_18_0_7 : zB (g159 18 0 7) (-1) 120 := hI159 18 0 7
                have ek159_18_0_5 : (g159 18 0 5).toInt = (g158 18 0 5).toInt := by rw [hF159q 18 0 5 rfl]
                have c159_18_0_5x : zB (g159 18 0 5) 0 11 := by first | exact zB.eqv ek159_18_0_5 c158_18_0_5x | (have q9 := c158_18_0_5x; constructor <;> omega)
                rcases hp159 with ⟨u159, hc159, hb159, hz159⟩ | ⟨u159, hc159, hq159, hb159, ft159⟩
                · skip
                  have kk11_159 : ∀ x j, g159 11 x j = f 11 x j := fun x j => (hF159q 11 x j rfl).trans (kk11_158 x j)
                  have hzi159 : (g159 18 0 7).toInt = (u159 : Int) := by rw [hz159]; exact nI_toInt (by omega)
                  have c160x : zB (g159 18 0 7) 0 120 := by first | assumption | (constructor <;> omega)
                  refine z_goto (pc := 82) 86 C dX7_readPaper_82 (by decide) ?_
                  refine z_istore (pc := 86) C dX7_readPaper_86 (by rw [hn]; decide) rfl ?_
                  refine z_aload_n (pc := 88) C dX7_readPaper_88 rfl ?_
                  refine z_getI (pc := 89) C zf_X7_36 rfl rfl (by decide) dX7_readPaper_89 ?_
                  refine w_gp (fun v => v = g159 18 0 7) rfl (fun v161 q161 => ?_)
                  have e161 : v161.toInt = (g159 18 0 7).toInt := by rw [q161]
                  have b161x : zB v161 0 120 := by first | exact zB.eqv e161 c160x | (have q9 := c160x; constructor <;> omega)
                  refine z_iconst (pc := 92) (v := -1) C dX7_readPaper_92 (by decide) ?_
                  refine z_icmp_ne (pc := 93) 161 C dX7_readPaper_93 (by decide) (fun h93_161 => ?_) (fun h93_161 => absurd h93_161 (by have q1 := b161x; have q2 := (zB.of (x := (-1)) (-1) (by decide)); first | (simp only [z32lt, z32le, z32eq]; omega) | (simp only [z32lt, z32le, z32eq] at *; omega)))
                  exact z_vret (pc := 161) C hr dX7_readPaper_161 ⟨rfl, hI159, hF159, (by
                                                                                          refine Or.inl ⟨u159, ?_, hb159, ?_, (fun x j => kk11_159 x j)⟩
                                                                                          · unfold zpaC zPa zbrC; simp only [zbd, zPb, hc1, if_pos hc75, hd77, hc111, if_pos hc143, hd144, if_pos hc158, hc159]
                                                                                          · rw [z32eq, nI_toInt (by omega)]
                                                                                            omega)⟩
                · skip
                  have h18159 : g159 18 0 3 = nI n := (hF159q 18 0 3 rfl).trans h18158
                  have hTp159 : ∀ i, i < n → g159 19 0 i = T i := fun i hi => (hF159q 19 0 i rfl).trans (hTp158 i hi)
                  have kk11_159 : ∀ x j, g159 11 x j = f 11 x j := fun x j => (hF159q 11 x j rfl).trans (kk11_158 x j)
                  have fti159 : (g159 18 0 7).toInt = -1 := by rw [ft159]; decide
                  have c163x : zB (g159 18 0 7) (-1) (-1) := by first | assumption | (constructor <;> omega)
                  refine z_goto (pc := 82) 86 C dX7_readPaper_82 (by decide) ?_
                  refine z_istore (pc := 86) C dX7_readPaper_86 (by rw [hn]; decide) rfl ?_
                  refine z_aload_n (pc := 88) C dX7_readPaper_88 rfl ?_
                  refine z_getI (pc := 89) C zf_X7_36 rfl rfl (by decide) dX7_readPaper_89 ?_
                  refine w_gp (fun v => v = g159 18 0 7) rfl (fun v164 q164 => ?_)
                  have e164 : v164.toInt = (g159 18 0 7).toInt := by rw [q164]
                  have b164x : zB v164 (-1) (-1) := by first | exact zB.eqv e164 c163x | (have q9 := c163x; constructor <;> omega)
                  refine z_iconst (pc := 92) (v := -1) C dX7_readPaper_92 (by decide) ?_
                  refine z_icmp_ne (pc := 93) 161 C dX7_readPaper_93 (by decide) (fun h93_164 => absurd h93_164 (by have q1 := b164x; have q2 := (zB.of (x := (-1)) (-1) (by decide)); first | (simp only [z32lt, z32le, z32eq]; omega) | (simp only [z32lt, z32le, z32eq] at *; omega))) (fun h93_164 => ?_)
                  refine z_aload_n (pc := 96) C dX7_readPaper_96 rfl ?_
                  refine z_getI (pc := 97) C zf_X7_42 rfl rfl (by decide) dX7_readPaper_97 ?_
                  refine w_gp (fun v => v = g159 18 0 5) rfl (fun v166 q166 => ?_)
                  have e166 : v166.toInt = (g159 18 0 5).toInt := by rw [q166]
                  have b166x : zB v166 0 11 := by first | exact zB.eqv e166 c159_18_0_5x | (have q9 := c159_18_0_5x; constructor <;> omega)
                  refine z_bipush (pc := 100) (v := 12) C dX7_readPaper_100 (by decide) ?_
                  refine z_icmp_ge (pc := 102) 161 C dX7_readPaper_102 (by decide) (fun h102_166 => absurd h102_166 (by have q1 := b166x; have q2 := (zB.of (x := 12) 12 (by decide)); first | (simp only [z32lt, z32le, z32eq]; omega) | (simp only [z32lt, z32le, z32eq] at *; omega))) (fun h102_166 => ?_)
                  refine z_aload_n (pc := 105) C dX7_readPaper_105 rfl ?_
                  refine z_getR (pc := 106) C zf_X7_23 rfl rfl (by decide) dX7_readPaper_106 ?_
                  refine z_aload_n (pc := 109) C dX7_readPaper_109 rfl ?_
                  refine z_getI (pc := 110) C zf_X7_42 rfl rfl (by decide) dX7_readPaper_110 ?_
                  refine w_gp (fun v => v = g159 18 0 5) rfl (fun v168 q168 => ?_)
                  have e168 : v168.toInt = (g159 18 0 5).toInt := by rw [q168]
                  have b168x : zB v168 0 11 := by first | exact zB.eqv e168 c159_18_0_5x | (have q9 := c159_18_0_5x; constructor <;> omega)
                  refine z_aald (pc := 113) C rfl ⟨rfl, by decide⟩ (by decide) (zIx b168x (by decide) (by decide)) dX7_readPaper_113 ?_
                  refine w_grx (by have hq := zN b168x (by decide); show 24 + v168.toNatClampNeg < 36; omega) (fun m169 q169r h169x => ?_)
                  have q169r : m169 = 24 + v168.toNatClampNeg := q169r
                  have k169r : v168.toNatClampNeg = v168.toInt.toNat := rfl
                  refine z_astore (pc := 114) C dX7_readPaper_114 (by rw [hn]; decide) rfl ?_
                  refine z_aload (pc := 116) C dX7_readPaper_116 rfl ?_
                  refine z_iload_n (pc := 118) C dX7_readPaper_118 rfl ?_
                  refine z_iload_n (pc := 119) C dX7_readPaper_119 rfl ?_
                  refine z_callV (pc := 120) C zk_X7_98 (x_X4_lead _ _ m169 h169x a1 b1 v1 b1x hI159) rfl rfl h169x rfl rfl (Nat.le_of_ble_eq_true rfl) dX7_readPaper_120 (fun r170 g170 q170 => ?_)
                  obtain ⟨rfl, hI170, hF170q, hp170_0⟩ := q170
                  have hF170 := zFr.tr hF159 hF170q (by decide)
                  simp only [Option.toList, List.cons_append, List.nil_append]
                  have ek170_18_0_7 : (g170 18 0 7).toInt = (g159 18 0 7).toInt := by rw [hF170q 18 0 7 rfl]
                  have c170_18_0_7x : zB (g170 18 0 7) (-1) (-1) := by first | exact zB.eqv ek170_18_0_7 c163x | (have q9 := c163x; constructor <;> omega)
                  have ek170_18_0_5 : (g170 18 0 5).toInt = (g159 18 0 5).toInt := by rw [hF170q 18 0 5 rfl]
                  have c170_18_0_5x : zB (g170 18 0 5) 0 11 := by first | exact zB.eqv ek170_18_0_5 c159_18_0_5x | (have q9 := c159_18_0_5x; constructor <;> omega)
                  refine z_aload (pc := 123) C dX7_readPaper_123 rfl ?_
                  refine z_iload_n (pc := 125) C dX7_readPaper_125 rfl ?_
                  refine z_if_eq (pc := 126) 133 C dX7_readPaper_126 (by decide) (fun h126_170 => absurd h126_170 (by decide)) (fun h126_170 => ?_)
                  refine z_iconst (pc := 129) (v := 0) C dX7_readPaper_129 (by decide) ?_
                  refine z_goto (pc := 130) 134 C dX7_readPaper_130 (by decide) ?_
                  refine z_iload (pc := 134) C dX7_readPaper_134 rfl ?_
                  refine z_iconst (pc := 136) (v := 0) C dX7_readPaper_136 (by decide) ?_
                  refine z_callV (pc := 137) C zk_X7_102 (x_X4_become _ _ m169 h169x 0 (zB.wk (a' := 0) (b' := 2) (zB.of (x := 0) 0 (by decide)) (by decide) (by decide)) v77 (zB.wk (a' := 0) (b' := 40) bo77x (by decide) (by decide)) 0 (zB.wk (a' := (-2147483648)) (b' := 2147483647) (zB.of (x := 0) 0 (by decide)) (by decide) (by decide)) hI170) rfl rfl h169x rfl rfl (Nat.le_of_ble_eq_true rfl) dX7_readPaper_137 (fun r172 g172 q172 => ?_)
                  have qa172_0 : (0 : Int32).toInt = 0 := by decide
                  obtain ⟨rfl, hI172, hF172q, hp172_0⟩ := q172
                  have hF172 := zFr.tr hF170 hF172q (by decide)
                  simp only [Option.toList, List.cons_append, List.nil_append]
                  have ek172_18_0_7 : (g172 18 0 7).toInt = (g170 18 0 7).toInt := by rw [hF172q 18 0 7 rfl]
                  have c172_18_0_7x : zB (g172 18 0 7) (-1) (-1) := by first | exact zB.eqv ek172_18_0_7 c170_18_0_7x | (have q9 := c170_18_0_7x; constructor <;> omega)
                  have ek172_18_0_5 : (g172 18 0 5).toInt = (g170 18 0 5).toInt := by rw [hF172q 18 0 5 rfl]
                  have c172_18_0_5x : zB (g172 18 0 5) 0 11 := by first | exact zB.eqv ek172_18_0_5 c170_18_0_5x | (have q9 := c170_18_0_5x; constructor <;> omega)
                  refine z_aload (pc := 140) C dX7_readPaper_140 rfl ?_
                  refine z_iload (pc := 142) C dX7_readPaper_142 rfl ?_
                  refine z_iload (pc := 144) C dX7_readPaper_144 rfl ?_
                  refine z_iload (pc := 146) C dX7_readPaper_146 rfl ?_
                  refine z_callV (pc := 148) C zk_X7_106 (x_X4_rule _ _ m169 h169x v111 b111x v144 (zB.wk (a' := 0) (b' := 99) bo144x (by decide) (by decide)) v159 b159x hI172) rfl rfl h169x rfl rfl (Nat.le_of_ble_eq_true rfl) dX7_readPaper_148 (fun r173 g173 q173 => ?_)
                  obtain ⟨rfl, hI173, hF173q, hp173_0⟩ := q173
                  have hF173 := zFr.tr hF172 hF173q (by decide)
                  simp only [Option.toList, List.cons_append, List.nil_append]
                  have ek173_18_0_7 : (g173 18 0 7).toInt = (g172 18 0 7).toInt := by rw [hF173q 18 0 7 rfl]
                  have c173_18_0_7x : zB (g173 18 0 7) (-1) (-1) := by first | exact zB.eqv ek173_18_0_7 c172_18_0_7x | (have q9 := c172_18_0_7x; constructor <;> omega)
                  have ek173_18_0_5 : (g173 18 0 5).toInt = (g172 18 0 5).toInt := by rw [hF173q 18 0 5 rfl]
                  have c173_18_0_5x : zB (g173 18 0 5) 0 11 := by first | exact zB.eqv ek173_18_0_5 c172_18_0_5x | (have q9 := c172_18_0_5x; constructor <;> omega)
                  refine z_aload_n (pc := 151) C dX7_readPaper_151 rfl ?_
                  refine z_dupr (pc := 152) C dX7_readPaper_152 ?_
                  refine z_getI (pc := 153) C zf_X7_42 rfl rfl (by decide) dX7_readPaper_153 ?_
                  refine w_gp (fun v => v = g173 18 0 5) rfl (fun v174 q174 => ?_)
                  have e174 : v174.toInt = (g173 18 0 5).toInt := by rw [q174]
                  have b174x : zB v174 0 11 := by first | exact zB.eqv e174 c173_18_0_5x | (have q9 := c173_18_0_5x; constructor <;> omega)
                  refine z_iconst (pc := 156) (v := 1) C dX7_readPaper_156 (by decide) ?_
                  refine z_iadd (pc := 157) C dX7_readPaper_157 ?_
                  refine w_gp (fun v => v = v174 + (1 : Int32)) rfl (fun v175 q175 => ?_)
                  have e175 : v175.toInt = v174.toInt + 1 := by rw [q175]; exact (zadd_eb b174x (zB.of (x := 1) 1 (by decide)) (by decide) (by decide))
                  have b175x : zB v175 1 12 := by have q1 := b174x; have q2 := (zB.of (x := 1) 1 (by decide)); constructor <;> omega
                  refine z_putI (pc := 158) C zf_X7_42 zp_7_5 rfl rfl (by decide) dX7_readPaper_158 ?_
                  refine w_memx hI173 hF173 (zB.wk (a' := 0) (b' := 12) b175x (by decide) (by decide)) rfl (fun g176 qm176 hI176 hF176 hq176 hx176 => ?_)
                  have ek176_18_0_7 : (g176 18 0 7).toInt = (g173 18 0 7).toInt := by rw [hq176 18 0 7 (by omega)]
                  have c176_18_0_7x : zB (g176 18 0 7) (-1) (-1) := by first | exact zB.eqv ek176_18_0_7 c173_18_0_7x | (have q9 := c173_18_0_7x; constructor <;> omega)
                  have ec176 : (g176 18 0 5).toInt = v175.toInt := by rw [hx176]
                  have c176x : zB (g176 18 0 5) 1 12 := by first | exact zB.eqv ec176 b175x | (have q9 := b175x; constructor <;> omega)
                  exact z_vret (pc := 161) C hr dX7_readPaper_161 ⟨rfl, hI176, hF176, (by
                                                                                          have hnn : m169 = 24 + (f 18 0 5).toInt.toNat := by omega
                                                                                          have hg1 := hp170_0
                                                                                          have hg2 := hp172_0
                                                                                          have hg3 := hp173_0
                                                                                          rw [hnn] at hg1 hg2 hg3
                                                                                          rw [hg1] at hg2
                                                                                          rw [hg2] at hg3
                                                                                          refine Or.inr ⟨_, zc8 (0 : Int32) a1 v1 v77 0 v111 v144 v159, ?_, ?_, hb159, ?_, ?_, ?_, ?_⟩
                                                                                          · unfold zpaC zPa zbrC; simp only [zbd, zPb, hc1, if_pos hc75, hd77, hc111, if_pos hc143, hd144, if_pos hc158, hc159]
                                                                                          · rw [qm176, zup_ne _ _ (by omega), hg3]; exact hq159
                                                                                          · rw [qm176, zup_ne _ _ (by omega), hg3]; exact ft159
                                                                                          · rw [z32eq]
                                                                                            have e1 : (f 18 0 5 + 1 : Int32).toInt = (f 18 0 5).toInt + 1 := zadd_eb pf18_0_5 (zB.of (x := 1) 1 (by decide)) (by decide) (by decide)
                                                                                            omega
                                                                                          · intro j hj
                                                                                            rw [qm176, zup_ne _ _ (by omega), hg3]
                                                                                            rcases (show j = 0 ∨ j = 1 ∨ j = 2 ∨ j = 3 ∨ j = 4 ∨ j = 5 ∨ j = 6 ∨ j = 7 by omega) with rfl | rfl | rfl | rfl | rfl | rfl | rfl | rfl <;> simp [zup, zc8]
                                                                                          · intro x j hj hx
                                                                                            rw [qm176, zup_ne _ _ (by omega), hg3, zup_ne _ _ (by omega), zup_ne _ _ (by omega), zup_ne _ _ (by omega), zup_ne _ _ (by omega), zup_ne _ _ (by omega), zup_ne _ _ (by omega), zup_ne _ _ (by omega), zup_ne _ _ (by omega)]
                                                                                            exact kk11_159 x j)⟩
              · skip
                have hb158 : zsp T n (u144) ≤ n := zsp_len hb144
                refine z_if_eq (pc := 75) 85 C dX7_readPaper_75 (by decide) (fun _ => ?_) (fun h => absurd (by decide) h)
                refine z_iconst (pc := 85) (v := 0) C dX7_readPaper_85 (by decide) ?_
                refine z_istore (pc := 86) C dX7_readPaper_86 (by rw [hn]; decide) rfl ?_
                refine z_aload_n (pc := 88) C dX7_readPaper_88 rfl ?_
                refine z_getI (pc := 89) C zf_X7_36 rfl rfl (by decide) dX7_readPaper_89 ?_
                refine w_gp (fun v => v = g158 18 0 7) rfl (fun v177 q177 => ?_)
                have e177 : v177.toInt = (g158 18 0 7).toInt := by rw [q177]
                have b177x : zB v177 (-1) (-1) := by first | exact zB.eqv e177 c158_18_0_7x | (have q9 := c158_18_0_7x; constructor <;> omega)
                refine z_iconst (pc := 92) (v := -1) C dX7_readPaper_92 (by decide) ?_
                refine z_icmp_ne (pc := 93) 161 C dX7_readPaper_93 (by decide) (fun h93_177 => absurd h93_177 (by have q1 := b177x; have q2 := (zB.of (x := (-1)) (-1) (by decide)); first | (simp only [z32lt, z32le, z32eq]; omega) | (simp only [z32lt, z32le, z32eq] at *; omega))) (fun h93_177 => ?_)
                refine z_aload_n (pc := 96) C dX7_readPaper_96 rfl ?_
                refine z_getI (pc := 97) C zf_X7_42 rfl rfl (by decide) dX7_readPaper_97 ?_
                refine w_gp (fun v => v = g158 18 0 5) rfl (fun v179 q179 => ?_)
                have e179 : v179.toInt = (g158 18 0 5).toInt := by rw [q179]
                have b179x : zB v179 0 11 := by first | exact zB.eqv e179 c158_18_0_5x | (have q9 := c158_18_0_5x; constructor <;> omega)
                refine z_bipush (pc := 100) (v := 12) C dX7_readPaper_100 (by decide) ?_
                refine z_icmp_ge (pc := 102) 161 C dX7_readPaper_102 (by decide) (fun h102_179 => absurd h102_179 (by have q1 := b179x; have q2 := (zB.of (x := 12) 12 (by decide)); first | (simp only [z32lt, z32le, z32eq]; omega) | (simp only [z32lt, z32le, z32eq] at *; omega))) (fun h102_179 => ?_)
                refine z_aload_n (pc := 105) C dX7_readPaper_105 rfl ?_
                refine z_getR (pc := 106) C zf_X7_23 rfl rfl (by decide) dX7_readPaper_106 ?_
                refine z_aload_n (pc := 109) C dX7_readPaper_109 rfl ?_
                refine z_getI (pc := 110) C zf_X7_42 rfl rfl (by decide) dX7_readPaper_110 ?_
                refine w_gp (fun v => v = g158 18 0 5) rfl (fun v181 q181 => ?_)
                have e181 : v181.toInt = (g158 18 0 5).toInt := by rw [q181]
                have b181x : zB v181 0 11 := by first | exact zB.eqv e181 c158_18_0_5x | (have q9 := c158_18_0_5x; constructor <;> omega)
                refine z_aald (pc := 113) C rfl ⟨rfl, by decide⟩ (by decide) (zIx b181x (by decide) (by decide)) dX7_readPaper_113 ?_
                refine w_grx (by have hq := zN b181x (by decide); show 24 + v181.toNatClampNeg < 36; omega) (fun m182 q182r h182x => ?_)
                have q182r : m182 = 24 + v181.toNatClampNeg := q182r
                have k182r : v181.toNatClampNeg = v181.toInt.toNat := rfl
                refine z_astore (pc := 114) C dX7_readPaper_114 (by rw [hn]; decide) rfl ?_
                refine z_aload (pc := 116) C dX7_readPaper_116 rfl ?_
                refine z_iload_n (pc := 118) C dX7_readPaper_118 rfl ?_
                refine z_iload_n (pc := 119) C dX7_readPaper_119 rfl ?_
                refine z_callV (pc := 120) C zk_X7_98 (x_X4_lead _ _ m182 h182x a1 b1 v1 b1x hI158) rfl rfl h182x rfl rfl (Nat.le_of_ble_eq_true rfl) dX7_readPaper_120 (fun r183 g183 q183 => ?_)
                obtain ⟨rfl, hI183, hF183q, hp183_0⟩ := q183
                have hF183 := zFr.tr hF158 hF183q (by decide)
                simp only [Option.toList, List.cons_append, List.nil_append]
                have ek183_18_0_7 : (g183 18 0 7).toInt = (g158 18 0 7).toInt := by rw [hF183q 18 0 7 rfl]
                have c183_18_0_7x : zB (g183 18 0 7) (-1) (-1) := by first | exact zB.eqv ek183_18_0_7 c158_18_0_7x | (have q9 := c158_18_0_7x; constructor <;> omega)
                have ek183_18_0_5 : (g183 18 0 5).toInt = (g158 18 0 5).toInt := by rw [hF183q 18 0 5 rfl]
                have c183_18_0_5x : zB (g183 18 0 5) 0 11 := by first | exact zB.eqv ek183_18_0_5 c158_18_0_5x | (have q9 := c158_18_0_5x; constructor <;> omega)
                refine z_aload (pc := 123) C dX7_readPaper_123 rfl ?_
                refine z_iload_n (pc := 125) C dX7_readPaper_125 rfl ?_
                refine z_if_eq (pc := 126) 133 C dX7_readPaper_126 (by decide) (fun h126_183 => absurd h126_183 (by decide)) (fun h126_183 => ?_)
                refine z_iconst (pc := 129) (v := 0) C dX7_readPaper_129 (by decide) ?_
                refine z_goto (pc := 130) 134 C dX7_readPaper_130 (by decide) ?_
                refine z_iload (pc := 134) C dX7_readPaper_134 rfl ?_
                refine z_iconst (pc := 136) (v := 0) C dX7_readPaper_136 (by decide) ?_
                refine z_callV (pc := 137) C zk_X7_102 (x_X4_become _ _ m182 h182x 0 (zB.wk (a' := 0) (b' := 2) (zB.of (x := 0) 0 (by decide)) (by decide) (by decide)) v77 (zB.wk (a' := 0) (b' := 40) bo77x (by decide) (by decide)) 0 (zB.wk (a' := (-2147483648)) (b' := 2147483647) (zB.of (x := 0) 0 (by decide)) (by decide) (by decide)) hI183) rfl rfl h182x rfl rfl (Nat.le_of_ble_eq_true rfl) dX7_readPaper_137 (fun r185 g185 q185 => ?_)
                have qa185_0 : (0 : Int32).toInt = 0 := by decide
                obtain ⟨rfl, hI185, hF185q, hp185_0⟩ := q185
                have hF185 := zFr.tr hF183 hF185q (by decide)
                simp only [Option.toList, List.cons_append, List.nil_append]
                have ek185_18_0_7 : (g185 18 0 7).toInt = (g183 18 0 7).toInt := by rw [hF185q 18 0 7 rfl]
                have c185_18_0_7x : zB (g185 18 0 7) (-1) (-1) := by first | exact zB.eqv ek185_18_0_7 c183_18_0_7x | (have q9 := c183_18_0_7x; constructor <;> omega)
                have ek185_18_0_5 : (g185 18 0 5).toInt = (g183 18 0 5).toInt := by rw [hF185q 18 0 5 rfl]
                have c185_18_0_5x : zB (g185 18 0 5) 0 11 := by first | exact zB.eqv ek185_18_0_5 c183_18_0_5x | (have q9 := c183_18_0_5x; constructor <;> omega)
                refine z_aload (pc := 140) C dX7_readPaper_140 rfl ?_
                refine z_iload (pc := 142) C dX7_readPaper_142 rfl ?_
                refine z_iload (pc := 144) C dX7_readPaper_144 rfl ?_
                refine z_iload (pc := 146) C dX7_readPaper_146 rfl ?_
                refine z_callV (pc := 148) C zk_X7_106 (x_X4_rule _ _ m182 h182x v111 b111x v144 (zB.wk (a' := 0) (b' := 99) bo144x (by decide) (by decide)) 0 (zB.wk (a' := 0) (b' := 7) (zB.of (x := 0) 0 (by decide)) (by decide) (by decide)) hI185) rfl rfl h182x rfl rfl (Nat.le_of_ble_eq_true rfl) dX7_readPaper_148 (fun r186 g186 q186 => ?_)
                have qa186_0 : (0 : Int32).toInt = 0 := by decide
                obtain ⟨rfl, hI186, hF186q, hp186_0⟩ := q186
                have hF186 := zFr.tr hF185 hF186q (by decide)
                simp only [Option.toList, List.cons_append, List.nil_append]
                have ek186_18_0_7 : (g186 18 0 7).toInt = (g185 18 0 7).toInt := by rw [hF186q 18 0 7 rfl]
                have c186_18_0_7x : zB (g186 18 0 7) (-1) (-1) := by first | exact zB.eqv ek186_18_0_7 c185_18_0_7x | (have q9 := c185_18_0_7x; constructor <;> omega)
                have ek186_18_0_5 : (g186 18 0 5).toInt = (g185 18 0 5).toInt := by rw [hF186q 18 0 5 rfl]
                have c186_18_0_5x : zB (g186 18 0 5) 0 11 := by first | exact zB.eqv ek186_18_0_5 c185_18_0_5x | (have q9 := c185_18_0_5x; constructor <;> omega)
                refine z_aload_n (pc := 151) C dX7_readPaper_151 rfl ?_
                refine z_dupr (pc := 152) C dX7_readPaper_152 ?_
                refine z_getI (pc := 153) C zf_X7_42 rfl rfl (by decide) dX7_readPaper_153 ?_
                refine w_gp (fun v => v = g186 18 0 5) rfl (fun v187 q187 => ?_)
                have e187 : v187.toInt = (g186 18 0 5).toInt := by rw [q187]
                have b187x : zB v187 0 11 := by first | exact zB.eqv e187 c186_18_0_5x | (have q9 := c186_18_0_5x; constructor <;> omega)
                refine z_iconst (pc := 156) (v := 1) C dX7_readPaper_156 (by decide) ?_
                refine z_iadd (pc := 157) C dX7_readPaper_157 ?_
                refine w_gp (fun v => v = v187 + (1 : Int32)) rfl (fun v188 q188 => ?_)
                have e188 : v188.toInt = v187.toInt + 1 := by rw [q188]; exact (zadd_eb b187x (zB.of (x := 1) 1 (by decide)) (by decide) (by decide))
                have b188x : zB v188 1 12 := by have q1 := b187x; have q2 := (zB.of (x := 1) 1 (by decide)); constructor <;> omega
                refine z_putI (pc := 158) C zf_X7_42 zp_7_5 rfl rfl (by decide) dX7_readPaper_158 ?_
                refine w_memx hI186 hF186 (zB.wk (a' := 0) (b' := 12) b188x (by decide) (by decide)) rfl (fun g189 qm189 hI189 hF189 hq189 hx189 => ?_)
                have ek189_18_0_7 : (g189 18 0 7).toInt = (g186 18 0 7).toInt := by rw [hq189 18 0 7 (by omega)]
                have c189_18_0_7x : zB (g189 18 0 7) (-1) (-1) := by first | exact zB.eqv ek189_18_0_7 c186_18_0_7x | (have q9 := c186_18_0_7x; constructor <;> omega)
                have ec189 : (g189 18 0 5).toInt = v188.toInt := by rw [hx189]
                have c189x : zB (g189 18 0 5) 1 12 := by first | exact zB.eqv ec189 b188x | (have q9 := b188x; constructor <;> omega)
                exact z_vret (pc := 161) C hr dX7_readPaper_161 ⟨rfl, hI189, hF189, (by
                                                                                          have hnn : m182 = 24 + (f 18 0 5).toInt.toNat := by omega
                                                                                          have hg1 := hp183_0
                                                                                          have hg2 := hp185_0
                                                                                          have hg3 := hp186_0
                                                                                          rw [hnn] at hg1 hg2 hg3
                                                                                          rw [hg1] at hg2
                                                                                          rw [hg2] at hg3
                                                                                          refine Or.inr ⟨_, zc8 (0 : Int32) a1 v1 v77 0 v111 v144 (0 : Int32), ?_, ?_, hb158, ?_, ?_, ?_, ?_⟩
                                                                                          · unfold zpaC zPa zbrC; simp only [zbd, zPb, hc1, if_pos hc75, hd77, hc111, if_pos hc143, hd144, if_neg hc158]
                                                                                          · rw [qm189, zup_ne _ _ (by omega), hg3]; exact hq158
                                                                                          · rw [qm189, zup_ne _ _ (by omega), hg3]; exact ft158
                                                                                          · rw [z32eq]
                                                                                            have e1 : (f 18 0 5 + 1 : Int32).toInt = (f 18 0 5).toInt + 1 := zadd_eb pf18_0_5 (zB.of (x := 1) 1 (by decide)) (by decide) (by decide)
                                                                                            omega
                                                                                          · intro j hj
                                                                                            rw [qm189, zup_ne _ _ (by omega), hg3]
                                                                                            rcases (show j = 0 ∨ j = 1 ∨ j = 2 ∨ j = 3 ∨ j = 4 ∨ j = 5 ∨ j = 6 ∨ j = 7 by omega) with rfl | rfl | rfl | rfl | rfl | rfl | rfl | rfl <;> simp [zup, zc8]
                                                                                          · intro x j hj hx
                                                                                            rw [qm189, zup_ne _ _ (by omega), hg3, zup_ne _ _ (by omega), zup_ne _ _ (by omega), zup_ne _ _ (by omega), zup_ne _ _ (by omega), zup_ne _ _ (by omega), zup_ne _ _ (by omega), zup_ne _ _ (by omega), zup_ne _ _ (by omega)]
                                                                                            exact kk11_158 x j)⟩
          · skip
            have hb143 : zsp T n (u111) ≤ n := zsp_len hb111
            refine z_if_eq (pc := 53) 66 C dX7_readPaper_53 (by decide) (fun _ => ?_) (fun h => absurd (by decide) h)
            refine z_iconst (pc := 66) (v := 0) C dX7_readPaper_66 (by decide) ?_
            refine z_istore (pc := 67) C dX7_readPaper_67 (by rw [hn]; decide) rfl ?_
            refine z_aload_n (pc := 69) C dX7_readPaper_69 rfl ?_
            refine z_bipush (pc := 70) (v := 43) C dX7_readPaper_70 (by decide) ?_
            refine z_callV (pc := 72) C zk_X7_48 (e_X7_takes _ _ 43 (zB.wk (a' := 1) (b' := 126) (zB.of (x := 43) 43 (by decide)) (by decide) (by decide)) T n (zsp T n (u111)) hN h18143 hTp143 hq143 hb143 hI143) rfl rfl (by decide) rfl rfl (Nat.le_of_ble_eq_true rfl) dX7_readPaper_72 (fun r190 g190 q190 => ?_)
            obtain ⟨⟨v190, rfl, b190x⟩, hI190, hF190q, hp190⟩ := q190
            have hp190 := hp190 _ rfl
            have hF190 := zFr.tr hF143 hF190q (by decide)
            simp only [Option.toList, List.cons_append, List.nil_append]
            have ek190_18_0_7 : (g190 18 0 7).toInt = (g143 18 0 7).toInt := by rw [hF190q 18 0 7 rfl]
            have c190_18_0_7x : zB (g190 18 0 7) (-1) (-1) := by first | exact zB.eqv ek190_18_0_7 c143_18_0_7x | (have q9 := c143_18_0_7x; constructor <;> omega)
            have ek190_18_0_5 : (g190 18 0 5).toInt = (g143 18 0 5).toInt := by rw [hF190q 18 0 5 rfl]
            have c190_18_0_5x : zB (g190 18 0 5) 0 11 := by first | exact zB.eqv ek190_18_0_5 c143_18_0_5x | (have q9 := c143_18_0_5x; constructor <;> omega)
            have h18190 : g190 18 0 3 = nI n := (hF190q 18 0 3 rfl).trans h18143
            have hTp190 : ∀ i, i < n → g190 19 0 i = T i := fun i hi => (hF190q 19 0 i rfl).trans (hTp143 i hi)
            have ft190 : g190 18 0 7 = -1 := (hF190q 18 0 7 rfl).trans ft143
            have kk11_190 : ∀ x j, g190 11 x j = f 11 x j := fun x j => (hF190q 11 x j rfl).trans (kk11_143 x j)
            rcases hp190 with ⟨hc190, rfl, hq190, hb190⟩ | ⟨hc190, rfl, hq190⟩
            · skip
              refine z_if_eq (pc := 75) 85 C dX7_readPaper_75 (by decide) (fun h => absurd h (by decide)) (fun _ => ?_)
              refine z_aload_n (pc := 78) C dX7_readPaper_78 rfl ?_
              refine z_callVS (pc := 79) C hT zk_X7_95 (e_X7_readPromises _ _   T n (zsp T n (zsp T n (u111)) + 1) hN h18190 hTp190 hq190 hb190 ft190 hI190) rfl rfl (by decide) rfl rfl (Nat.le_of_ble_eq_true rfl) dX7_readPaper_79 (fun r191 g191 q191 => ?_)
              obtain ⟨⟨v191, rfl, b191x⟩, hI191, hF191q, hp191⟩ := q191
              have hp191 := hp191 _ rfl
              have hF191 := zFr.tr hF190 hF191q (by decide)
              simp only [Option.toList, List.cons_append, List.nil_append]
              have cr191_18_0_7 : zB (g191 18 0 7) (-1) 120 := hI191 18 0 7
              have ek191_18_0_5 : (g191 18 0 5).toInt = (g190 18 0 5).toInt := by rw [hF191q 18 0 5 rfl]
              have c191_18_0_5x : zB (g191 18 0 5) 0 11 := by first | exact zB.eqv ek191_18_0_5 c190_18_0_5x | (have q9 := c190_18_0_5x; constructor <;> omega)
              rcases hp191 with ⟨u191, hc191, hb191, hz191⟩ | ⟨u191, hc191, hq191, hb191, ft191⟩
              · skip
                have kk11_191 : ∀ x j, g191 11 x j = f 11 x j := fun x j => (hF191q 11 x j rfl).trans (kk11_190 x j)
                have hzi191 : (g191 18 0 7).toInt = (u191 : Int) := by rw [hz191]; exact nI_toInt (by omega)
                have c192x : zB (g191 18 0 7) 0 120 := by first | assumption | (constructor <;> omega)
                refine z_goto (pc := 82) 86 C dX7_readPaper_82 (by decide) ?_
                refine z_istore (pc := 86) C dX7_readPaper_86 (by rw [hn]; decide) rfl ?_
                refine z_aload_n (pc := 88) C dX7_readPaper_88 rfl ?_
                refine z_getI (pc := 89) C zf_X7_36 rfl rfl (by decide) dX7_readPaper_89 ?_
                refine w_gp (fun v => v = g191 18 0 7) rfl (fun v193 q193 => ?_)
                have e193 : v193.toInt = (g191 18 0 7).toInt := by rw [q193]
                have b193x : zB v193 0 120 := by first | exact zB.eqv e193 c192x | (have q9 := c192x; constructor <;> omega)
                refine z_iconst (pc := 92) (v := -1) C dX7_readPaper_92 (by decide) ?_
                refine z_icmp_ne (pc := 93) 161 C dX7_readPaper_93 (by decide) (fun h93_193 => ?_) (fun h93_193 => absurd h93_193 (by have q1 := b193x; have q2 := (zB.of (x := (-1)) (-1) (by decide)); first | (simp only [z32lt, z32le, z32eq]; omega) | (simp only [z32lt, z32le, z32eq] at *; omega)))
                exact z_vret (pc := 161) C hr dX7_readPaper_161 ⟨rfl, hI191, hF191, (by
                                                                                          refine Or.inl ⟨u191, ?_, hb191, ?_, (fun x j => kk11_191 x j)⟩
                                                                                          · unfold zpaC zPa zbrC; simp only [zbd, zPb, hc1, if_pos hc75, hd77, hc111, if_neg hc143, if_pos hc190, hc191]
                                                                                          · rw [z32eq, nI_toInt (by omega)]
                                                                                            omega)⟩
              · skip
                have h18191 : g191 18 0 3 = nI n := (hF191q 18 0 3 rfl).trans h18190
                have hTp191 : ∀ i, i < n → g191 19 0 i = T i := fun i hi => (hF191q 19 0 i rfl).trans (hTp190 i hi)
                have kk11_191 : ∀ x j, g191 11 x j = f 11 x j := fun x j => (hF191q 11 x j rfl).trans (kk11_190 x j)
                have fti191 : (g191 18 0 7).toInt = -1 := by rw [ft191]; decide
                have c195x : zB (g191 18 0 7) (-1) (-1) := by first | assumption | (constructor <;> omega)
                refine z_goto (pc := 82) 86 C dX7_readPaper_82 (by decide) ?_
                refine z_istore (pc := 86) C dX7_readPaper_86 (by rw [hn]; decide) rfl ?_
                refine z_aload_n (pc := 88) C dX7_readPaper_88 rfl ?_
                refine z_getI (pc := 89) C zf_X7_36 rfl rfl (by decide) dX7_readPaper_89 ?_
                refine w_gp (fun v => v = g191 18 0 7) rfl (fun v196 q196 => ?_)
                have e196 : v196.toInt = (g191 18 0 7).toInt := by rw [q196]
                have b196x : zB v196 (-1) (-1) := by first | exact zB.eqv e196 c195x | (have q9 := c195x; constructor <;> omega)
                refine z_iconst (pc := 92) (v := -1) C dX7_readPaper_92 (by decide) ?_
                refine z_icmp_ne (pc := 93) 161 C dX7_readPaper_93 (by decide) (fun h93_196 => absurd h93_196 (by have q1 := b196x; have q2 := (zB.of (x := (-1)) (-1) (by decide)); first | (simp only [z32lt, z32le, z32eq]; omega) | (simp only [z32lt, z32le, z32eq] at *; omega))) (fun h93_196 => ?_)
                refine z_aload_n (pc := 96) C dX7_readPaper_96 rfl ?_
                refine z_getI (pc := 97) C zf_X7_42 rfl rfl (by decide) dX7_readPaper_97 ?_
                refine w_gp (fun v => v = g191 18 0 5) rfl (fun v198 q198 => ?_)
                have e198 : v198.toInt = (g191 18 0 5).toInt := by rw [q198]
                have b198x : zB v198 0 11 := by first | exact zB.eqv e198 c191_18_0_5x | (have q9 := c191_18_0_5x; constructor <;> omega)
                refine z_bipush (pc := 100) (v := 12) C dX7_readPaper_100 (by decide) ?_
                refine z_icmp_ge (pc := 102) 161 C dX7_readPaper_102 (by decide) (fun h102_198 => absurd h102_198 (by have q1 := b198x; have q2 := (zB.of (x := 12) 12 (by decide)); first | (simp only [z32lt, z32le, z32eq]; omega) | (simp only [z32lt, z32le, z32eq] at *; omega))) (fun h102_198 => ?_)
                refine z_aload_n (pc := 105) C dX7_readPaper_105 rfl ?_
                refine z_getR (pc := 106) C zf_X7_23 rfl rfl (by decide) dX7_readPaper_106 ?_
                refine z_aload_n (pc := 109) C dX7_readPaper_109 rfl ?_
                refine z_getI (pc := 110) C zf_X7_42 rfl rfl (by decide) dX7_readPaper_110 ?_
                refine w_gp (fun v => v = g191 18 0 5) rfl (fun v200 q200 => ?_)
                have e200 : v200.toInt = (g191 18 0 5).toInt := by rw [q200]
                have b200x : zB v200 0 11 := by first | exact zB.eqv e200 c191_18_0_5x | (have q9 := c191_18_0_5x; constructor <;> omega)
                refine z_aald (pc := 113) C rfl ⟨rfl, by decide⟩ (by decide) (zIx b200x (by decide) (by decide)) dX7_readPaper_113 ?_
                refine w_grx (by have hq := zN b200x (by decide); show 24 + v200.toNatClampNeg < 36; omega) (fun m201 q201r h201x => ?_)
                have q201r : m201 = 24 + v200.toNatClampNeg := q201r
                have k201r : v200.toNatClampNeg = v200.toInt.toNat := rfl
                refine z_astore (pc := 114) C dX7_readPaper_114 (by rw [hn]; decide) rfl ?_
                refine z_aload (pc := 116) C dX7_readPaper_116 rfl ?_
                refine z_iload_n (pc := 118) C dX7_readPaper_118 rfl ?_
                refine z_iload_n (pc := 119) C dX7_readPaper_119 rfl ?_
                refine z_callV (pc := 120) C zk_X7_98 (x_X4_lead _ _ m201 h201x a1 b1 v1 b1x hI191) rfl rfl h201x rfl rfl (Nat.le_of_ble_eq_true rfl) dX7_readPaper_120 (fun r202 g202 q202 => ?_)
                obtain ⟨rfl, hI202, hF202q, hp202_0⟩ := q202
                have hF202 := zFr.tr hF191 hF202q (by decide)
                simp only [Option.toList, List.cons_append, List.nil_append]
                have ek202_18_0_7 : (g202 18 0 7).toInt = (g191 18 0 7).toInt := by rw [hF202q 18 0 7 rfl]
                have c202_18_0_7x : zB (g202 18 0 7) (-1) (-1) := by first | exact zB.eqv ek202_18_0_7 c195x | (have q9 := c195x; constructor <;> omega)
                have ek202_18_0_5 : (g202 18 0 5).toInt = (g191 18 0 5).toInt := by rw [hF202q 18 0 5 rfl]
                have c202_18_0_5x : zB (g202 18 0 5) 0 11 := by first | exact zB.eqv ek202_18_0_5 c191_18_0_5x | (have q9 := c191_18_0_5x; constructor <;> omega)
                refine z_aload (pc := 123) C dX7_readPaper_123 rfl ?_
                refine z_iload_n (pc := 125) C dX7_readPaper_125 rfl ?_
                refine z_if_eq (pc := 126) 133 C dX7_readPaper_126 (by decide) (fun h126_202 => absurd h126_202 (by decide)) (fun h126_202 => ?_)
                refine z_iconst (pc := 129) (v := 0) C dX7_readPaper_129 (by decide) ?_
                refine z_goto (pc := 130) 134 C dX7_readPaper_130 (by decide) ?_
                refine z_iload (pc := 134) C dX7_readPaper_134 rfl ?_
                refine z_iconst (pc := 136) (v := 0) C dX7_readPaper_136 (by decide) ?_
                refine z_callV (pc := 137) C zk_X7_102 (x_X4_become _ _ m201 h201x 0 (zB.wk (a' := 0) (b' := 2) (zB.of (x := 0) 0 (by decide)) (by decide) (by decide)) v77 (zB.wk (a' := 0) (b' := 40) bo77x (by decide) (by decide)) 0 (zB.wk (a' := (-2147483648)) (b' := 2147483647) (zB.of (x := 0) 0 (by decide)) (by decide) (by decide)) hI202) rfl rfl h201x rfl rfl (Nat.le_of_ble_eq_true rfl) dX7_readPaper_137 (fun r204 g204 q204 => ?_)
                have qa204_0 : (0 : Int32).toInt = 0 := by decide
                obtain ⟨rfl, hI204, hF204q, hp204_0⟩ := q204
                have hF204 := zFr.tr hF202 hF204q (by decide)
                simp only [Option.toList, List.cons_append, List.nil_append]
                have ek204_18_0_7 : (g204 18 0 7).toInt = (g202 18 0 7).toInt := by rw [hF204q 18 0 7 rfl]
                have c204_18_0_7x : zB (g204 18 0 7) (-1) (-1) := by first | exact zB.eqv ek204_18_0_7 c202_18_0_7x | (have q9 := c202_18_0_7x; constructor <;> omega)
                have ek204_18_0_5 : (g204 18 0 5).toInt = (g202 18 0 5).toInt := by rw [hF204q 18 0 5 rfl]
                have c204_18_0_5x : zB (g204 18 0 5) 0 11 := by first | exact zB.eqv ek204_18_0_5 c202_18_0_5x | (have q9 := c202_18_0_5x; constructor <;> omega)
                refine z_aload (pc := 140) C dX7_readPaper_140 rfl ?_
                refine z_iload (pc := 142) C dX7_readPaper_142 rfl ?_
                refine z_iload (pc := 144) C dX7_readPaper_144 rfl ?_
                refine z_iload (pc := 146) C dX7_readPaper_146 rfl ?_
                refine z_callV (pc := 148) C zk_X7_106 (x_X4_rule _ _ m201 h201x v111 b111x 0 (zB.wk (a' := 0) (b' := 99) (zB.of (x := 0) 0 (by decide)) (by decide) (by decide)) v191 b191x hI204) rfl rfl h201x rfl rfl (Nat.le_of_ble_eq_true rfl) dX7_readPaper_148 (fun r205 g205 q205 => ?_)
                have qa205_0 : (0 : Int32).toInt = 0 := by decide
                obtain ⟨rfl, hI205, hF205q, hp205_0⟩ := q205
                have hF205 := zFr.tr hF204 hF205q (by decide)
                simp only [Option.toList, List.cons_append, List.nil_append]
                have ek205_18_0_7 : (g205 18 0 7).toInt = (g204 18 0 7).toInt := by rw [hF205q 18 0 7 rfl]
                have c205_18_0_7x : zB (g205 18 0 7) (-1) (-1) := by first | exact zB.eqv ek205_18_0_7 c204_18_0_7x | (have q9 := c204_18_0_7x; constructor <;> omega)
                have ek205_18_0_5 : (g205 18 0 5).toInt = (g204 18 0 5).toInt := by rw [hF205q 18 0 5 rfl]
                have c205_18_0_5x : zB (g205 18 0 5) 0 11 := by first | exact zB.eqv ek205_18_0_5 c204_18_0_5x | (have q9 := c204_18_0_5x; constructor <;> omega)
                refine z_aload_n (pc := 151) C dX7_readPaper_151 rfl ?_
                refine z_dupr (pc := 152) C dX7_readPaper_152 ?_
                refine z_getI (pc := 153) C zf_X7_42 rfl rfl (by decide) dX7_readPaper_153 ?_
                refine w_gp (fun v => v = g205 18 0 5) rfl (fun v206 q206 => ?_)
                have e206 : v206.toInt = (g205 18 0 5).toInt := by rw [q206]
                have b206x : zB v206 0 11 := by first | exact zB.eqv e206 c205_18_0_5x | (have q9 := c205_18_0_5x; constructor <;> omega)
                refine z_iconst (pc := 156) (v := 1) C dX7_readPaper_156 (by decide) ?_
                refine z_iadd (pc := 157) C dX7_readPaper_157 ?_
                refine w_gp (fun v => v = v206 + (1 : Int32)) rfl (fun v207 q207 => ?_)
                have e207 : v207.toInt = v206.toInt + 1 := by rw [q207]; exact (zadd_eb b206x (zB.of (x := 1) 1 (by decide)) (by decide) (by decide))
                have b207x : zB v207 1 12 := by have q1 := b206x; have q2 := (zB.of (x := 1) 1 (by decide)); constructor <;> omega
                refine z_putI (pc := 158) C zf_X7_42 zp_7_5 rfl rfl (by decide) dX7_readPaper_158 ?_
                refine w_memx hI205 hF205 (zB.wk (a' := 0) (b' := 12) b207x (by decide) (by decide)) rfl (fun g208 qm208 hI208 hF208 hq208 hx208 => ?_)
                have ek208_18_0_7 : (g208 18 0 7).toInt = (g205 18 0 7).toInt := by rw [hq208 18 0 7 (by omega)]
                have c208_18_0_7x : zB (g208 18 0 7) (-1) (-1) := by first | exact zB.eqv ek208_18_0_7 c205_18_0_7x | (have q9 := c205_18_0_7x; constructor <;> omega)
                have ec208 : (g208 18 0 5).toInt = v207.toInt := by rw [hx208]
                have c208x : zB (g208 18 0 5) 1 12 := by first | exact zB.eqv ec208 b207x | (have q9 := b207x; constructor <;> omega)
                exact z_vret (pc := 161) C hr dX7_readPaper_161 ⟨rfl, hI208, hF208, (by
                                                                                          have hnn : m201 = 24 + (f 18 0 5).toInt.toNat := by omega
                                                                                          have hg1 := hp202_0
                                                                                          have hg2 := hp204_0
                                                                                          have hg3 := hp205_0
                                                                                          rw [hnn] at hg1 hg2 hg3
                                                                                          rw [hg1] at hg2
                                                                                          rw [hg2] at hg3
                                                                                          refine Or.inr ⟨_, zc8 (0 : Int32) a1 v1 v77 0 v111 (0 : Int32) v191, ?_, ?_, hb191, ?_, ?_, ?_, ?_⟩
                                                                                          · unfold zpaC zPa zbrC; simp only [zbd, zPb, hc1, if_pos hc75, hd77, hc111, if_neg hc143, if_pos hc190, hc191]
                                                                                          · rw [qm208, zup_ne _ _ (by omega), hg3]; exact hq191
                                                                                          · rw [qm208, zup_ne _ _ (by omega), hg3]; exact ft191
                                                                                          · rw [z32eq]
                                                                                            have e1 : (f 18 0 5 + 1 : Int32).toInt = (f 18 0 5).toInt + 1 := zadd_eb pf18_0_5 (zB.of (x := 1) 1 (by decide)) (by decide) (by decide)
                                                                                            omega
                                                                                          · intro j hj
                                                                                            rw [qm208, zup_ne _ _ (by omega), hg3]
                                                                                            rcases (show j = 0 ∨ j = 1 ∨ j = 2 ∨ j = 3 ∨ j = 4 ∨ j = 5 ∨ j = 6 ∨ j = 7 by omega) with rfl | rfl | rfl | rfl | rfl | rfl | rfl | rfl <;> simp [zup, zc8]
                                                                                          · intro x j hj hx
                                                                                            rw [qm208, zup_ne _ _ (by omega), hg3, zup_ne _ _ (by omega), zup_ne _ _ (by omega), zup_ne _ _ (by omega), zup_ne _ _ (by omega), zup_ne _ _ (by omega), zup_ne _ _ (by omega), zup_ne _ _ (by omega), zup_ne _ _ (by omega)]
                                                                                            exact kk11_191 x j)⟩
            · skip
              have hb190 : zsp T n (zsp T n (u111)) ≤ n := zsp_len hb143
              refine z_if_eq (pc := 75) 85 C dX7_readPaper_75 (by decide) (fun _ => ?_) (fun h => absurd (by decide) h)
              refine z_iconst (pc := 85) (v := 0) C dX7_readPaper_85 (by decide) ?_
              refine z_istore (pc := 86) C dX7_readPaper_86 (by rw [hn]; decide) rfl ?_
              refine z_aload_n (pc := 88) C dX7_readPaper_88 rfl ?_
              refine z_getI (pc := 89) C zf_X7_36 rfl rfl (by decide) dX7_readPaper_89 ?_
              refine w_gp (fun v => v = g190 18 0 7) rfl (fun v209 q209 => ?_)
              have e209 : v209.toInt = (g190 18 0 7).toInt := by rw [q209]
              have b209x : zB v209 (-1) (-1) := by first | exact zB.eqv e209 c190_18_0_7x | (have q9 := c190_18_0_7x; constructor <;> omega)
              refine z_iconst (pc := 92) (v := -1) C dX7_readPaper_92 (by decide) ?_
              refine z_icmp_ne (pc := 93) 161 C dX7_readPaper_93 (by decide) (fun h93_209 => absurd h93_209 (by have q1 := b209x; have q2 := (zB.of (x := (-1)) (-1) (by decide)); first | (simp only [z32lt, z32le, z32eq]; omega) | (simp only [z32lt, z32le, z32eq] at *; omega))) (fun h93_209 => ?_)
              refine z_aload_n (pc := 96) C dX7_readPaper_96 rfl ?_
              refine z_getI (pc := 97) C zf_X7_42 rfl rfl (by decide) dX7_readPaper_97 ?_
              refine w_gp (fun v => v = g190 18 0 5) rfl (fun v211 q211 => ?_)
              have e211 : v211.toInt = (g190 18 0 5).toInt := by rw [q211]
              have b211x : zB v211 0 11 := by first | exact zB.eqv e211 c190_18_0_5x | (have q9 := c190_18_0_5x; constructor <;> omega)
              refine z_bipush (pc := 100) (v := 12) C dX7_readPaper_100 (by decide) ?_
              refine z_icmp_ge (pc := 102) 161 C dX7_readPaper_102 (by decide) (fun h102_211 => absurd h102_211 (by have q1 := b211x; have q2 := (zB.of (x := 12) 12 (by decide)); first | (simp only [z32lt, z32le, z32eq]; omega) | (simp only [z32lt, z32le, z32eq] at *; omega))) (fun h102_211 => ?_)
              refine z_aload_n (pc := 105) C dX7_readPaper_105 rfl ?_
              refine z_getR (pc := 106) C zf_X7_23 rfl rfl (by decide) dX7_readPaper_106 ?_
              refine z_aload_n (pc := 109) C dX7_readPaper_109 rfl ?_
              refine z_getI (pc := 110) C zf_X7_42 rfl rfl (by decide) dX7_readPaper_110 ?_
              refine w_gp (fun v => v = g190 18 0 5) rfl (fun v213 q213 => ?_)
              have e213 : v213.toInt = (g190 18 0 5).toInt := by rw [q213]
              have b213x : zB v213 0 11 := by first | exact zB.eqv e213 c190_18_0_5x | (have q9 := c190_18_0_5x; constructor <;> omega)
              refine z_aald (pc := 113) C rfl ⟨rfl, by decide⟩ (by decide) (zIx b213x (by decide) (by decide)) dX7_readPaper_113 ?_
              refine w_grx (by have hq := zN b213x (by decide); show 24 + v213.toNatClampNeg < 36; omega) (fun m214 q214r h214x => ?_)
              have q214r : m214 = 24 + v213.toNatClampNeg := q214r
              have k214r : v213.toNatClampNeg = v213.toInt.toNat := rfl
              refine z_astore (pc := 114) C dX7_readPaper_114 (by rw [hn]; decide) rfl ?_
              refine z_aload (pc := 116) C dX7_readPaper_116 rfl ?_
              refine z_iload_n (pc := 118) C dX7_readPaper_118 rfl ?_
              refine z_iload_n (pc := 119) C dX7_readPaper_119 rfl ?_
              refine z_callV (pc := 120) C zk_X7_98 (x_X4_lead _ _ m214 h214x a1 b1 v1 b1x hI190) rfl rfl h214x rfl rfl (Nat.le_of_ble_eq_true rfl) dX7_readPaper_120 (fun r215 g215 q215 => ?_)
              obtain ⟨rfl, hI215, hF215q, hp215_0⟩ := q215
              have hF215 := zFr.tr hF190 hF215q (by decide)
              simp only [Option.toList, List.cons_append, List.nil_append]
              have ek215_18_0_7 : (g215 18 0 7).toInt = (g190 18 0 7).toInt := by rw [hF215q 18 0 7 rfl]
              have c215_18_0_7x : zB (g215 18 0 7) (-1) (-1) := by first | exact zB.eqv ek215_18_0_7 c190_18_0_7x | (have q9 := c190_18_0_7x; constructor <;> omega)
              have ek215_18_0_5 : (g215 18 0 5).toInt = (g190 18 0 5).toInt := by rw [hF215q 18 0 5 rfl]
              have c215_18_0_5x : zB (g215 18 0 5) 0 11 := by first | exact zB.eqv ek215_18_0_5 c190_18_0_5x | (have q9 := c190_18_0_5x; constructor <;> omega)
              refine z_aload (pc := 123) C dX7_readPaper_123 rfl ?_
              refine z_iload_n (pc := 125) C dX7_readPaper_125 rfl ?_
              refine z_if_eq (pc := 126) 133 C dX7_readPaper_126 (by decide) (fun h126_215 => absurd h126_215 (by decide)) (fun h126_215 => ?_)
              refine z_iconst (pc := 129) (v := 0) C dX7_readPaper_129 (by decide) ?_
              refine z_goto (pc := 130) 134 C dX7_readPaper_130 (by decide) ?_
              refine z_iload (pc := 134) C dX7_readPaper_134 rfl ?_
              refine z_iconst (pc := 136) (v := 0) C dX7_readPaper_136 (by decide) ?_
              refine z_callV (pc := 137) C zk_X7_102 (x_X4_become _ _ m214 h214x 0 (zB.wk (a' := 0) (b' := 2) (zB.of (x := 0) 0 (by decide)) (by decide) (by decide)) v77 (zB.wk (a' := 0) (b' := 40) bo77x (by decide) (by decide)) 0 (zB.wk (a' := (-2147483648)) (b' := 2147483647) (zB.of (x := 0) 0 (by decide)) (by decide) (by decide)) hI215) rfl rfl h214x rfl rfl (Nat.le_of_ble_eq_true rfl) dX7_readPaper_137 (fun r217 g217 q217 => ?_)
              have qa217_0 : (0 : Int32).toInt = 0 := by decide
              obtain ⟨rfl, hI217, hF217q, hp217_0⟩ := q217
              have hF217 := zFr.tr hF215 hF217q (by decide)
              simp only [Option.toList, List.cons_append, List.nil_append]
              have ek217_18_0_7 : (g217 18 0 7).toInt = (g215 18 0 7).toInt := by rw [hF217q 18 0 7 rfl]
              have c217_18_0_7x : zB (g217 18 0 7) (-1) (-1) := by first | exact zB.eqv ek217_18_0_7 c215_18_0_7x | (have q9 := c215_18_0_7x; constructor <;> omega)
              have ek217_18_0_5 : (g217 18 0 5).toInt = (g215 18 0 5).toInt := by rw [hF217q 18 0 5 rfl]
              have c217_18_0_5x : zB (g217 18 0 5) 0 11 := by first | exact zB.eqv ek217_18_0_5 c215_18_0_5x | (have q9 := c215_18_0_5x; constructor <;> omega)
              refine z_aload (pc := 140) C dX7_readPaper_140 rfl ?_
              refine z_iload (pc := 142) C dX7_readPaper_142 rfl ?_
              refine z_iload (pc := 144) C dX7_readPaper_144 rfl ?_
              refine z_iload (pc := 146) C dX7_readPaper_146 rfl ?_
              refine z_callV (pc := 148) C zk_X7_106 (x_X4_rule _ _ m214 h214x v111 b111x 0 (zB.wk (a' := 0) (b' := 99) (zB.of (x := 0) 0 (by decide)) (by decide) (by decide)) 0 (zB.wk (a' := 0) (b' := 7) (zB.of (x := 0) 0 (by decide)) (by decide) (by decide)) hI217) rfl rfl h214x rfl rfl (Nat.le_of_ble_eq_true rfl) dX7_readPaper_148 (fun r218 g218 q218 => ?_)
              have qa218_0 : (0 : Int32).toInt = 0 := by decide
              obtain ⟨rfl, hI218, hF218q, hp218_0⟩ := q218
              have hF218 := zFr.tr hF217 hF218q (by decide)
              simp only [Option.toList, List.cons_append, List.nil_append]
              have ek218_18_0_7 : (g218 18 0 7).toInt = (g217 18 0 7).toInt := by rw [hF218q 18 0 7 rfl]
              have c218_18_0_7x : zB (g218 18 0 7) (-1) (-1) := by first | exact zB.eqv ek218_18_0_7 c217_18_0_7x | (have q9 := c217_18_0_7x; constructor <;> omega)
              have ek218_18_0_5 : (g218 18 0 5).toInt = (g217 18 0 5).toInt := by rw [hF218q 18 0 5 rfl]
              have c218_18_0_5x : zB (g218 18 0 5) 0 11 := by first | exact zB.eqv ek218_18_0_5 c217_18_0_5x | (have q9 := c217_18_0_5x; constructor <;> omega)
              refine z_aload_n (pc := 151) C dX7_readPaper_151 rfl ?_
              refine z_dupr (pc := 152) C dX7_readPaper_152 ?_
              refine z_getI (pc := 153) C zf_X7_42 rfl rfl (by decide) dX7_readPaper_153 ?_
              refine w_gp (fun v => v = g218 18 0 5) rfl (fun v219 q219 => ?_)
              have e219 : v219.toInt = (g218 18 0 5).toInt := by rw [q219]
              have b219x : zB v219 0 11 := by first | exact zB.eqv e219 c218_18_0_5x | (have q9 := c218_18_0_5x; constructor <;> omega)
              refine z_iconst (pc := 156) (v := 1) C dX7_readPaper_156 (by decide) ?_
              refine z_iadd (pc := 157) C dX7_readPaper_157 ?_
              refine w_gp (fun v => v = v219 + (1 : Int32)) rfl (fun v220 q220 => ?_)
              have e220 : v220.toInt = v219.toInt + 1 := by rw [q220]; exact (zadd_eb b219x (zB.of (x := 1) 1 (by decide)) (by decide) (by decide))
              have b220x : zB v220 1 12 := by have q1 := b219x; have q2 := (zB.of (x := 1) 1 (by decide)); constructor <;> omega
              refine z_putI (pc := 158) C zf_X7_42 zp_7_5 rfl rfl (by decide) dX7_readPaper_158 ?_
              refine w_memx hI218 hF218 (zB.wk (a' := 0) (b' := 12) b220x (by decide) (by decide)) rfl (fun g221 qm221 hI221 hF221 hq221 hx221 => ?_)
              have ek221_18_0_7 : (g221 18 0 7).toInt = (g218 18 0 7).toInt := by rw [hq221 18 0 7 (by omega)]
              have c221_18_0_7x : zB (g221 18 0 7) (-1) (-1) := by first | exact zB.eqv ek221_18_0_7 c218_18_0_7x | (have q9 := c218_18_0_7x; constructor <;> omega)
              have ec221 : (g221 18 0 5).toInt = v220.toInt := by rw [hx221]
              have c221x : zB (g221 18 0 5) 1 12 := by first | exact zB.eqv ec221 b220x | (have q9 := b220x; constructor <;> omega)
              exact z_vret (pc := 161) C hr dX7_readPaper_161 ⟨rfl, hI221, hF221, (by
                                                                                          have hnn : m214 = 24 + (f 18 0 5).toInt.toNat := by omega
                                                                                          have hg1 := hp215_0
                                                                                          have hg2 := hp217_0
                                                                                          have hg3 := hp218_0
                                                                                          rw [hnn] at hg1 hg2 hg3
                                                                                          rw [hg1] at hg2
                                                                                          rw [hg2] at hg3
                                                                                          refine Or.inr ⟨_, zc8 (0 : Int32) a1 v1 v77 0 v111 (0 : Int32) (0 : Int32), ?_, ?_, hb190, ?_, ?_, ?_, ?_⟩
                                                                                          · unfold zpaC zPa zbrC; simp only [zbd, zPb, hc1, if_pos hc75, hd77, hc111, if_neg hc143, if_neg hc190]
                                                                                          · rw [qm221, zup_ne _ _ (by omega), hg3]; exact hq190
                                                                                          · rw [qm221, zup_ne _ _ (by omega), hg3]; exact ft190
                                                                                          · rw [z32eq]
                                                                                            have e1 : (f 18 0 5 + 1 : Int32).toInt = (f 18 0 5).toInt + 1 := zadd_eb pf18_0_5 (zB.of (x := 1) 1 (by decide)) (by decide) (by decide)
                                                                                            omega
                                                                                          · intro j hj
                                                                                            rw [qm221, zup_ne _ _ (by omega), hg3]
                                                                                            rcases (show j = 0 ∨ j = 1 ∨ j = 2 ∨ j = 3 ∨ j = 4 ∨ j = 5 ∨ j = 6 ∨ j = 7 by omega) with rfl | rfl | rfl | rfl | rfl | rfl | rfl | rfl <;> simp [zup, zc8]
                                                                                          · intro x j hj hx
                                                                                            rw [qm221, zup_ne _ _ (by omega), hg3, zup_ne _ _ (by omega), zup_ne _ _ (by omega), zup_ne _ _ (by omega), zup_ne _ _ (by omega), zup_ne _ _ (by omega), zup_ne _ _ (by omega), zup_ne _ _ (by omega), zup_ne _ _ (by omega)]
                                                                                            exact kk11_190 x j)⟩
    · skip
      have hb75 : zsp T n (u1) ≤ n := zsp_len hb1
      refine z_istore_n (pc := 12) C dX7_readPaper_12 (by rw [hn]; decide) rfl ?_
      refine z_iconst (pc := 13) (v := 1) C dX7_readPaper_13 (by decide) ?_
      refine z_istore (pc := 14) C dX7_readPaper_14 (by rw [hn]; decide) rfl ?_
      refine z_iload_n (pc := 16) C dX7_readPaper_16 rfl ?_
      refine z_if_eq (pc := 17) 32 C dX7_readPaper_17 (by decide) (fun h17_221 => ?_) (fun h17_221 => absurd h17_221 (by decide))
      refine z_aload_n (pc := 32) C dX7_readPaper_32 rfl ?_
      refine z_bipush (pc := 33) (v := 42) C dX7_readPaper_33 (by decide) ?_
      refine z_callV (pc := 35) C zk_X7_77 (e_X7_need _ _ 42 (zB.wk (a' := 1) (b' := 126) (zB.of (x := 42) 42 (by decide)) (by decide) (by decide))  T n (zsp T n (u1)) hN h1875 hTp75 hq75 hb75 ft75 hI75) rfl rfl (by decide) rfl rfl (Nat.le_of_ble_eq_true rfl) dX7_readPaper_35 (fun r223 g223 q223 => ?_)
      obtain ⟨rfl, hI223, hF223q, hp223⟩ := q223
      have hF223 := zFr.tr hF75 hF223q (by decide)
      simp only [Option.toList, List.cons_append, List.nil_append]
      have cr223_18_0_7 : zB (g223 18 0 7) (-1) 120 := hI223 18 0 7
      have ek223_18_0_5 : (g223 18 0 5).toInt = (g75 18 0 5).toInt := by rw [hF223q 18 0 5 rfl]
      have c223_18_0_5x : zB (g223 18 0 5) 0 11 := by first | exact zB.eqv ek223_18_0_5 c75_18_0_5x | (have q9 := c75_18_0_5x; constructor <;> omega)
      rcases hp223 with ⟨u223, hc223, hb223, hz223⟩ | ⟨u223, hc223, hq223, hb223, ft223⟩
      · skip
        have kk11_223 : ∀ x j, g223 11 x j = f 11 x j := fun x j => (hF223q 11 x j rfl).trans (kk11_75 x j)
        have hzi223 : (g223 18 0 7).toInt = (u223 : Int) := by rw [hz223]; exact nI_toInt (by omega)
        have c224x : zB (g223 18 0 7) 0 120 := by first | assumption | (constructor <;> omega)
        refine z_aload_n (pc := 38) C dX7_readPaper_38 rfl ?_
        refine z_ldcT (pc := 39) (i := 0) (tx := "") C hT (Or.inl ⟨rfl, rfl⟩) dX7_readPaper_39 ?_
        refine z_iconst (pc := 41) (v := 0) C dX7_readPaper_41 (by decide) ?_
        refine z_callVS (pc := 42) C hT zk_X7_91 (k_X7_readLetters_0 _ _ 0 (zB.wk (a' := 0) (b' := 1) (zB.of (x := 0) 0 (by decide)) (by decide) (by decide)) hI223) rfl rfl (by decide) rfl rfl (Nat.le_of_ble_eq_true rfl) dX7_readPaper_42 (fun r225 g225 q225 => ?_)
        have qa225_0 : (0 : Int32).toInt = 0 := by decide
        obtain ⟨⟨v225, rfl, b225x⟩, hI225, hF225q, hp225_0, hp225_1⟩ := q225
        have hp225_0 := hp225_0 _ rfl
        have hp225_1 := hp225_1 _ rfl
        have hF225 := zFr.tr hF223 hF225q (by decide)
        simp only [Option.toList, List.cons_append, List.nil_append]
        have cr225_18_0_7 : zB (g225 18 0 7) (-1) 120 := hI225 18 0 7
        have ek225_18_0_5 : (g225 18 0 5).toInt = (g223 18 0 5).toInt := by rw [hF225q 18 0 5 rfl]
        have c225_18_0_5x : zB (g225 18 0 5) 0 11 := by first | exact zB.eqv ek225_18_0_5 c223_18_0_5x | (have q9 := c223_18_0_5x; constructor <;> omega)
        have c226x : zB (g225 18 0 7) 0 120 := by first | assumption | (constructor <;> omega)
        have kk11_225 : ∀ x j, g225 11 x j = f 11 x j := fun x j => (hF225q 11 x j rfl).trans (kk11_223 x j)
        refine z_istore (pc := 45) C dX7_readPaper_45 (by rw [hn]; decide) rfl ?_
        refine z_aload_n (pc := 47) C dX7_readPaper_47 rfl ?_
        refine z_bipush (pc := 48) (v := 116) C dX7_readPaper_48 (by decide) ?_
        refine z_callV (pc := 50) C zk_X7_48 (w_X7_takes _ _ 116 (zB.wk (a' := 1) (b' := 126) (zB.of (x := 116) 116 (by decide)) (by decide) (by decide)) hI225) rfl rfl (by decide) rfl rfl (Nat.le_of_ble_eq_true rfl) dX7_readPaper_50 (fun r227 g227 q227 => ?_)
        obtain ⟨⟨v227, rfl, b227x⟩, hI227, hF227q⟩ := q227
        have hF227 := zFr.tr hF225 hF227q (by decide)
        simp only [Option.toList, List.cons_append, List.nil_append]
        have ek227_18_0_7 : (g227 18 0 7).toInt = (g225 18 0 7).toInt := by rw [hF227q 18 0 7 rfl]
        have c227_18_0_7x : zB (g227 18 0 7) 0 120 := by first | exact zB.eqv ek227_18_0_7 c226x | (have q9 := c226x; constructor <;> omega)
        have ek227_18_0_5 : (g227 18 0 5).toInt = (g225 18 0 5).toInt := by rw [hF227q 18 0 5 rfl]
        have c227_18_0_5x : zB (g227 18 0 5) 0 11 := by first | exact zB.eqv ek227_18_0_5 c225_18_0_5x | (have q9 := c225_18_0_5x; constructor <;> omega)
        have c228x : zB (g227 18 0 7) 0 120 := by first | assumption | (constructor <;> omega)
        have kk11_227 : ∀ x j, g227 11 x j = f 11 x j := fun x j => (hF227q 11 x j rfl).trans (kk11_225 x j)
        refine z_if_eq (pc := 53) 66 C dX7_readPaper_53 (by decide) (fun h53_228 => ?_) (fun h53_228 => ?_)
        · skip
          have b230x : zB v227 0 0 := by have q1 := b227x; have q2 := (zB.of (x := 0) 0 (by decide)); simp only [z32lt, z32le, z32eq, Int32.reduceToInt, Int32.toInt_zero] at h53_228; constructor <;> omega
          refine z_iconst (pc := 66) (v := 0) C dX7_readPaper_66 (by decide) ?_
          refine z_istore (pc := 67) C dX7_readPaper_67 (by rw [hn]; decide) rfl ?_
          refine z_aload_n (pc := 69) C dX7_readPaper_69 rfl ?_
          refine z_bipush (pc := 70) (v := 43) C dX7_readPaper_70 (by decide) ?_
          refine z_callV (pc := 72) C zk_X7_48 (w_X7_takes _ _ 43 (zB.wk (a' := 1) (b' := 126) (zB.of (x := 43) 43 (by decide)) (by decide) (by decide)) hI227) rfl rfl (by decide) rfl rfl (Nat.le_of_ble_eq_true rfl) dX7_readPaper_72 (fun r231 g231 q231 => ?_)
          obtain ⟨⟨v231, rfl, b231x⟩, hI231, hF231q⟩ := q231
          have hF231 := zFr.tr hF227 hF231q (by decide)
          simp only [Option.toList, List.cons_append, List.nil_append]
          have ek231_18_0_7 : (g231 18 0 7).toInt = (g227 18 0 7).toInt := by rw [hF231q 18 0 7 rfl]
          have c231_18_0_7x : zB (g231 18 0 7) 0 120 := by first | exact zB.eqv ek231_18_0_7 c228x | (have q9 := c228x; constructor <;> omega)
          have ek231_18_0_5 : (g231 18 0 5).toInt = (g227 18 0 5).toInt := by rw [hF231q 18 0 5 rfl]
          have c231_18_0_5x : zB (g231 18 0 5) 0 11 := by first | exact zB.eqv ek231_18_0_5 c227_18_0_5x | (have q9 := c227_18_0_5x; constructor <;> omega)
          have c232x : zB (g231 18 0 7) 0 120 := by first | assumption | (constructor <;> omega)
          have kk11_231 : ∀ x j, g231 11 x j = f 11 x j := fun x j => (hF231q 11 x j rfl).trans (kk11_227 x j)
          refine z_if_eq (pc := 75) 85 C dX7_readPaper_75 (by decide) (fun h75_232 => ?_) (fun h75_232 => ?_)
          · skip
            have b234x : zB v231 0 0 := by have q1 := b231x; have q2 := (zB.of (x := 0) 0 (by decide)); simp only [z32lt, z32le, z32eq, Int32.reduceToInt, Int32.toInt_zero] at h75_232; constructor <;> omega
            refine z_iconst (pc := 85) (v := 0) C dX7_readPaper_85 (by decide) ?_
            refine z_istore (pc := 86) C dX7_readPaper_86 (by rw [hn]; decide) rfl ?_
            refine z_aload_n (pc := 88) C dX7_readPaper_88 rfl ?_
            refine z_getI (pc := 89) C zf_X7_36 rfl rfl (by decide) dX7_readPaper_89 ?_
            refine w_gp (fun v => v = g231 18 0 7) rfl (fun v235 q235 => ?_)
            have e235 : v235.toInt = (g231 18 0 7).toInt := by rw [q235]
            have b235x : zB v235 0 120 := by first | exact zB.eqv e235 c232x | (have q9 := c232x; constructor <;> omega)
            refine z_iconst (pc := 92) (v := -1) C dX7_readPaper_92 (by decide) ?_
            refine z_icmp_ne (pc := 93) 161 C dX7_readPaper_93 (by decide) (fun h93_235 => ?_) (fun h93_235 => absurd h93_235 (by have q1 := b235x; have q2 := (zB.of (x := (-1)) (-1) (by decide)); first | (simp only [z32lt, z32le, z32eq]; omega) | (simp only [z32lt, z32le, z32eq] at *; omega)))
            exact z_vret (pc := 161) C hr dX7_readPaper_161 ⟨rfl, hI231, hF231, (by
                                                                                          refine Or.inl ⟨u223, ?_, hb223, ?_, (fun x j => kk11_231 x j)⟩
                                                                                          · unfold zpaC zPa zbrC; simp only [zbd, zPb, hc1, if_neg hc75, hc223]
                                                                                          · rw [z32eq, nI_toInt (by omega)]
                                                                                            omega)⟩
          · skip
            have b237x : zB v231 1 1 := by have q1 := b231x; have q2 := (zB.of (x := 0) 0 (by decide)); simp only [z32lt, z32le, z32eq, Int32.reduceToInt, Int32.toInt_zero] at h75_232; constructor <;> omega
            refine z_aload_n (pc := 78) C dX7_readPaper_78 rfl ?_
            refine z_callVS (pc := 79) C hT zk_X7_95 (k_X7_readPromises _ _  hI231) rfl rfl (by decide) rfl rfl (Nat.le_of_ble_eq_true rfl) dX7_readPaper_79 (fun r238 g238 q238 => ?_)
            obtain ⟨⟨v238, rfl, b238x⟩, hI238, hF238q, hp238_0, hp238_1⟩ := q238
            have hp238_0 := hp238_0 _ rfl
            have hp238_1 := hp238_1 _ rfl
            have hF238 := zFr.tr hF231 hF238q (by decide)
            simp only [Option.toList, List.cons_append, List.nil_append]
            have cr238_18_0_7 : zB (g238 18 0 7) (-1) 120 := hI238 18 0 7
            have ek238_18_0_5 : (g238 18 0 5).toInt = (g231 18 0 5).toInt := by rw [hF238q 18 0 5 rfl]
            have c238_18_0_5x : zB (g238 18 0 5) 0 11 := by first | exact zB.eqv ek238_18_0_5 c231_18_0_5x | (have q9 := c231_18_0_5x; constructor <;> omega)
            have c239x : zB (g238 18 0 7) 0 120 := by first | assumption | (constructor <;> omega)
            have kk11_238 : ∀ x j, g238 11 x j = f 11 x j := fun x j => (hF238q 11 x j rfl).trans (kk11_231 x j)
            refine z_goto (pc := 82) 86 C dX7_readPaper_82 (by decide) ?_
            refine z_istore (pc := 86) C dX7_readPaper_86 (by rw [hn]; decide) rfl ?_
            refine z_aload_n (pc := 88) C dX7_readPaper_88 rfl ?_
            refine z_getI (pc := 89) C zf_X7_36 rfl rfl (by decide) dX7_readPaper_89 ?_
            refine w_gp (fun v => v = g238 18 0 7) rfl (fun v240 q240 => ?_)
            have e240 : v240.toInt = (g238 18 0 7).toInt := by rw [q240]
            have b240x : zB v240 0 120 := by first | exact zB.eqv e240 c239x | (have q9 := c239x; constructor <;> omega)
            refine z_iconst (pc := 92) (v := -1) C dX7_readPaper_92 (by decide) ?_
            refine z_icmp_ne (pc := 93) 161 C dX7_readPaper_93 (by decide) (fun h93_240 => ?_) (fun h93_240 => absurd h93_240 (by have q1 := b240x; have q2 := (zB.of (x := (-1)) (-1) (by decide)); first | (simp only [z32lt, z32le, z32eq]; omega) | (simp only [z32lt, z32le, z32eq] at *; omega)))
            exact z_vret (pc := 161) C hr dX7_readPaper_161 ⟨rfl, hI238, hF238, (by
                                                                                          refine Or.inl ⟨u223, ?_, hb223, ?_, (fun x j => kk11_238 x j)⟩
                                                                                          · unfold zpaC zPa zbrC; simp only [zbd, zPb, hc1, if_neg hc75, hc223]
                                                                                          · rw [z32eq, nI_toInt (by omega)]
                                                                                            omega)⟩
        · skip
          have b242x : zB v227 1 1 := by have q1 := b227x; have q2 := (zB.of (x := 0) 0 (by decide)); simp only [z32lt, z32le, z32eq, Int32.reduceToInt, Int32.toInt_zero] at h53_228; constructor <;> omega
          refine z_aload_n (pc := 56) C dX7_readPaper_56 rfl ?_
          refine z_iconst (pc := 57) (v := 1) C dX7_readPaper_57 (by decide) ?_
          refine z_bipush (pc := 58) (v := 99) C dX7_readPaper_58 (by decide) ?_
          refine z_callV (pc := 60) C zk_X7_73 (k_X7_readNumber _ _ 1 (zB.wk (a' := (-2147483648)) (b' := 1000) (zB.of (x := 1) 1 (by decide)) (by decide) (by decide)) 99 (zB.wk (a' := 0) (b' := 99) (zB.of (x := 99) 99 (by decide)) (by decide) (by decide)) hI227) rfl rfl (by decide) rfl rfl (Nat.le_of_ble_eq_true rfl) dX7_readPaper_60 (fun r243 g243 q243 => ?_)
          have qa243_1 : (1 : Int32).toInt = 1 := by decide
          have qa243_99 : (99 : Int32).toInt = 99 := by decide
          obtain ⟨⟨v243, rfl, b243x⟩, hI243, hF243q, hp243_0, hp243_1, hp243_2⟩ := q243
          have hp243_0 := hp243_0 _ rfl
          have hp243_1 := hp243_1 _ rfl
          have hp243_2 := hp243_2 _ rfl
          have hF243 := zFr.tr hF227 hF243q (by decide)
          simp only [Option.toList, List.cons_append, List.nil_append]
          have cr243_18_0_7 : zB (g243 18 0 7) (-1) 120 := hI243 18 0 7
          have ek243_18_0_5 : (g243 18 0 5).toInt = (g227 18 0 5).toInt := by rw [hF243q 18 0 5 rfl]
          have c243_18_0_5x : zB (g243 18 0 5) 0 11 := by first | exact zB.eqv ek243_18_0_5 c227_18_0_5x | (have q9 := c227_18_0_5x; constructor <;> omega)
          have c244x : zB (g243 18 0 7) 0 120 := by first | assumption | (constructor <;> omega)
          have kk11_243 : ∀ x j, g243 11 x j = f 11 x j := fun x j => (hF243q 11 x j rfl).trans (kk11_227 x j)
          refine z_goto (pc := 63) 67 C dX7_readPaper_63 (by decide) ?_
          refine z_istore (pc := 67) C dX7_readPaper_67 (by rw [hn]; decide) rfl ?_
          refine z_aload_n (pc := 69) C dX7_readPaper_69 rfl ?_
          refine z_bipush (pc := 70) (v := 43) C dX7_readPaper_70 (by decide) ?_
          refine z_callV (pc := 72) C zk_X7_48 (w_X7_takes _ _ 43 (zB.wk (a' := 1) (b' := 126) (zB.of (x := 43) 43 (by decide)) (by decide) (by decide)) hI243) rfl rfl (by decide) rfl rfl (Nat.le_of_ble_eq_true rfl) dX7_readPaper_72 (fun r245 g245 q245 => ?_)
          obtain ⟨⟨v245, rfl, b245x⟩, hI245, hF245q⟩ := q245
          have hF245 := zFr.tr hF243 hF245q (by decide)
          simp only [Option.toList, List.cons_append, List.nil_append]
          have ek245_18_0_7 : (g245 18 0 7).toInt = (g243 18 0 7).toInt := by rw [hF245q 18 0 7 rfl]
          have c245_18_0_7x : zB (g245 18 0 7) 0 120 := by first | exact zB.eqv ek245_18_0_7 c244x | (have q9 := c244x; constructor <;> omega)
          have ek245_18_0_5 : (g245 18 0 5).toInt = (g243 18 0 5).toInt := by rw [hF245q 18 0 5 rfl]
          have c245_18_0_5x : zB (g245 18 0 5) 0 11 := by first | exact zB.eqv ek245_18_0_5 c243_18_0_5x | (have q9 := c243_18_0_5x; constructor <;> omega)
          have c246x : zB (g245 18 0 7) 0 120 := by first | assumption | (constructor <;> omega)
          have kk11_245 : ∀ x j, g245 11 x j = f 11 x j := fun x j => (hF245q 11 x j rfl).trans (kk11_243 x j)
          refine z_if_eq (pc := 75) 85 C dX7_readPaper_75 (by decide) (fun h75_246 => ?_) (fun h75_246 => ?_)
          · skip
            have b248x : zB v245 0 0 := by have q1 := b245x; have q2 := (zB.of (x := 0) 0 (by decide)); simp only [z32lt, z32le, z32eq, Int32.reduceToInt, Int32.toInt_zero] at h75_246; constructor <;> omega
            refine z_iconst (pc := 85) (v := 0) C dX7_readPaper_85 (by decide) ?_
            refine z_istore (pc := 86) C dX7_readPaper_86 (by rw [hn]; decide) rfl ?_
            refine z_aload_n (pc := 88) C dX7_readPaper_88 rfl ?_
            refine z_getI (pc := 89) C zf_X7_36 rfl rfl (by decide) dX7_readPaper_89 ?_
            refine w_gp (fun v => v = g245 18 0 7) rfl (fun v249 q249 => ?_)
            have e249 : v249.toInt = (g245 18 0 7).toInt := by rw [q249]
            have b249x : zB v249 0 120 := by first | exact zB.eqv e249 c246x | (have q9 := c246x; constructor <;> omega)
            refine z_iconst (pc := 92) (v := -1) C dX7_readPaper_92 (by decide) ?_
            refine z_icmp_ne (pc := 93) 161 C dX7_readPaper_93 (by decide) (fun h93_249 => ?_) (fun h93_249 => absurd h93_249 (by have q1 := b249x; have q2 := (zB.of (x := (-1)) (-1) (by decide)); first | (simp only [z32lt, z32le, z32eq]; omega) | (simp only [z32lt, z32le, z32eq] at *; omega)))
            exact z_vret (pc := 161) C hr dX7_readPaper_161 ⟨rfl, hI245, hF245, (by
                                                                                          refine Or.inl ⟨u223, ?_, hb223, ?_, (fun x j => kk11_245 x j)⟩
                                                                                          · unfold zpaC zPa zbrC; simp only [zbd, zPb, hc1, if_neg hc75, hc223]
                                                                                          · rw [z32eq, nI_toInt (by omega)]
                                                                                            omega)⟩
          · skip
            have b251x : zB v245 1 1 := by have q1 := b245x; have q2 := (zB.of (x := 0) 0 (by decide)); simp only [z32lt, z32le, z32eq, Int32.reduceToInt, Int32.toInt_zero] at h75_246; constructor <;> omega
            refine z_aload_n (pc := 78) C dX7_readPaper_78 rfl ?_
            refine z_callVS (pc := 79) C hT zk_X7_95 (k_X7_readPromises _ _  hI245) rfl rfl (by decide) rfl rfl (Nat.le_of_ble_eq_true rfl) dX7_readPaper_79 (fun r252 g252 q252 => ?_)
            obtain ⟨⟨v252, rfl, b252x⟩, hI252, hF252q, hp252_0, hp252_1⟩ := q252
            have hp252_0 := hp252_0 _ rfl
            have hp252_1 := hp252_1 _ rfl
            have hF252 := zFr.tr hF245 hF252q (by decide)
            simp only [Option.toList, List.cons_append, List.nil_append]
            have cr252_18_0_7 : zB (g252 18 0 7) (-1) 120 := hI252 18 0 7
            have ek252_18_0_5 : (g252 18 0 5).toInt = (g245 18 0 5).toInt := by rw [hF252q 18 0 5 rfl]
            have c252_18_0_5x : zB (g252 18 0 5) 0 11 := by first | exact zB.eqv ek252_18_0_5 c245_18_0_5x | (have q9 := c245_18_0_5x; constructor <;> omega)
            have c253x : zB (g252 18 0 7) 0 120 := by first | assumption | (constructor <;> omega)
            have kk11_252 : ∀ x j, g252 11 x j = f 11 x j := fun x j => (hF252q 11 x j rfl).trans (kk11_245 x j)
            refine z_goto (pc := 82) 86 C dX7_readPaper_82 (by decide) ?_
            refine z_istore (pc := 86) C dX7_readPaper_86 (by rw [hn]; decide) rfl ?_
            refine z_aload_n (pc := 88) C dX7_readPaper_88 rfl ?_
            refine z_getI (pc := 89) C zf_X7_36 rfl rfl (by decide) dX7_readPaper_89 ?_
            refine w_gp (fun v => v = g252 18 0 7) rfl (fun v254 q254 => ?_)
            have e254 : v254.toInt = (g252 18 0 7).toInt := by rw [q254]
            have b254x : zB v254 0 120 := by first | exact zB.eqv e254 c253x | (have q9 := c253x; constructor <;> omega)
            refine z_iconst (pc := 92) (v := -1) C dX7_readPaper_92 (by decide) ?_
            refine z_icmp_ne (pc := 93) 161 C dX7_readPaper_93 (by decide) (fun h93_254 => ?_) (fun h93_254 => absurd h93_254 (by have q1 := b254x; have q2 := (zB.of (x := (-1)) (-1) (by decide)); first | (simp only [z32lt, z32le, z32eq]; omega) | (simp only [z32lt, z32le, z32eq] at *; omega)))
            exact z_vret (pc := 161) C hr dX7_readPaper_161 ⟨rfl, hI252, hF252, (by
                                                                                          refine Or.inl ⟨u223, ?_, hb223, ?_, (fun x j => kk11_252 x j)⟩
                                                                                          · unfold zpaC zPa zbrC; simp only [zbd, zPb, hc1, if_neg hc75, hc223]
                                                                                          · rw [z32eq, nI_toInt (by omega)]
                                                                                            omega)⟩
      · skip
        have h18223 : g223 18 0 3 = nI n := (hF223q 18 0 3 rfl).trans h1875
        have hTp223 : ∀ i, i < n → g223 19 0 i = T i := fun i hi => (hF223q 19 0 i rfl).trans (hTp75 i hi)
        have kk11_223 : ∀ x j, g223 11 x j = f 11 x j := fun x j => (hF223q 11 x j rfl).trans (kk11_75 x j)
        have fti223 : (g223 18 0 7).toInt = -1 := by rw [ft223]; decide
        have c256x : zB (g223 18 0 7) (-1) (-1) := by first | assumption | (constructor <;> omega)
        refine z_aload_n (pc := 38) C dX7_readPaper_38 rfl ?_
        refine z_ldcT (pc := 39) (i := 0) (tx := "") C hT (Or.inl ⟨rfl, rfl⟩) dX7_readPaper_39 ?_
        refine z_iconst (pc := 41) (v := 0) C dX7_readPaper_41 (by decide) ?_
        refine z_callVS (pc := 42) C hT zk_X7_91 (e_X7_readLetters_0 _ _ 0 (zB.of (x := 0) 0 (by decide))  T n (u223) hN h18223 hTp223 hq223 hb223 ft223 hI223) rfl rfl (by decide) rfl rfl (Nat.le_of_ble_eq_true rfl) dX7_readPaper_42 (fun r257 g257 q257 => ?_)
        obtain ⟨⟨v257, rfl, b257x⟩, hI257, hF257q, hp257⟩ := q257
        have hp257 := hp257 _ rfl
        have hF257 := zFr.tr hF223 hF257q (by decide)
        simp only [Option.toList, List.cons_append, List.nil_append]
        have cr257_18_0_7 : zB (g257 18 0 7) (-1) 120 := hI257 18 0 7
        have ek257_18_0_5 : (g257 18 0 5).toInt = (g223 18 0 5).toInt := by rw [hF257q 18 0 5 rfl]
        have c257_18_0_5x : zB (g257 18 0 5) 0 11 := by first | exact zB.eqv ek257_18_0_5 c223_18_0_5x | (have q9 := c223_18_0_5x; constructor <;> omega)
        rcases hp257 with ⟨u257, hc257, hb257, hz257⟩ | ⟨u257, hc257, hq257, hb257, ft257⟩
        · skip
          have kk11_257 : ∀ x j, g257 11 x j = f 11 x j := fun x j => (hF257q 11 x j rfl).trans (kk11_223 x j)
          have hzi257 : (g257 18 0 7).toInt = (u257 : Int) := by rw [hz257]; exact nI_toInt (by omega)
          have c258x : zB (g257 18 0 7) 0 120 := by first | assumption | (constructor <;> omega)
          refine z_istore (pc := 45) C dX7_readPaper_45 (by rw [hn]; decide) rfl ?_
          refine z_aload_n (pc := 47) C dX7_readPaper_47 rfl ?_
          refine z_bipush (pc := 48) (v := 116) C dX7_readPaper_48 (by decide) ?_
          refine z_callV (pc := 50) C zk_X7_48 (w_X7_takes _ _ 116 (zB.wk (a' := 1) (b' := 126) (zB.of (x := 116) 116 (by decide)) (by decide) (by decide)) hI257) rfl rfl (by decide) rfl rfl (Nat.le_of_ble_eq_true rfl) dX7_readPaper_50 (fun r259 g259 q259 => ?_)
          obtain ⟨⟨v259, rfl, b259x⟩, hI259, hF259q⟩ := q259
          have hF259 := zFr.tr hF257 hF259q (by decide)
          simp only [Option.toList, List.cons_append, List.nil_append]
          have ek259_18_0_7 : (g259 18 0 7).toInt = (g257 18 0 7).toInt := by rw [hF259q 18 0 7 rfl]
          have c259_18_0_7x : zB (g259 18 0 7) 0 120 := by first | exact zB.eqv ek259_18_0_7 c258x | (have q9 := c258x; constructor <;> omega)
          have ek259_18_0_5 : (g259 18 0 5).toInt = (g257 18 0 5).toInt := by rw [hF259q 18 0 5 rfl]
          have c259_18_0_5x : zB (g259 18 0 5) 0 11 := by first | exact zB.eqv ek259_18_0_5 c257_18_0_5x | (have q9 := c257_18_0_5x; constructor <;> omega)
          have c260x : zB (g259 18 0 7) 0 120 := by first | assumption | (constructor <;> omega)
          have kk11_259 : ∀ x j, g259 11 x j = f 11 x j := fun x j => (hF259q 11 x j rfl).trans (kk11_257 x j)
          refine z_if_eq (pc := 53) 66 C dX7_readPaper_53 (by decide) (fun h53_260 => ?_) (fun h53_260 => ?_)
          · skip
            have b262x : zB v259 0 0 := by have q1 := b259x; have q2 := (zB.of (x := 0) 0 (by decide)); simp only [z32lt, z32le, z32eq, Int32.reduceToInt, Int32.toInt_zero] at h53_260; constructor <;> omega
            refine z_iconst (pc := 66) (v := 0) C dX7_readPaper_66 (by decide) ?_
            refine z_istore (pc := 67) C dX7_readPaper_67 (by rw [hn]; decide) rfl ?_
            refine z_aload_n (pc := 69) C dX7_readPaper_69 rfl ?_
            refine z_bipush (pc := 70) (v := 43) C dX7_readPaper_70 (by decide) ?_
            refine z_callV (pc := 72) C zk_X7_48 (w_X7_takes _ _ 43 (zB.wk (a' := 1) (b' := 126) (zB.of (x := 43) 43 (by decide)) (by decide) (by decide)) hI259) rfl rfl (by decide) rfl rfl (Nat.le_of_ble_eq_true rfl) dX7_readPaper_72 (fun r263 g263 q263 => ?_)
            obtain ⟨⟨v263, rfl, b263x⟩, hI263, hF263q⟩ := q263
            have hF263 := zFr.tr hF259 hF263q (by decide)
            simp only [Option.toList, List.cons_append, List.nil_append]
            have ek263_18_0_7 : (g263 18 0 7).toInt = (g259 18 0 7).toInt := by rw [hF263q 18 0 7 rfl]
            have c263_18_0_7x : zB (g263 18 0 7) 0 120 := by first | exact zB.eqv ek263_18_0_7 c260x | (have q9 := c260x; constructor <;> omega)
            have ek263_18_0_5 : (g263 18 0 5).toInt = (g259 18 0 5).toInt := by rw [hF263q 18 0 5 rfl]
            have c263_18_0_5x : zB (g263 18 0 5) 0 11 := by first | exact zB.eqv ek263_18_0_5 c259_18_0_5x | (have q9 := c259_18_0_5x; constructor <;> omega)
            have c264x : zB (g263 18 0 7) 0 120 := by first | assumption | (constructor <;> omega)
            have kk11_263 : ∀ x j, g263 11 x j = f 11 x j := fun x j => (hF263q 11 x j rfl).trans (kk11_259 x j)
            refine z_if_eq (pc := 75) 85 C dX7_readPaper_75 (by decide) (fun h75_264 => ?_) (fun h75_264 => ?_)
            · skip
              have b266x : zB v263 0 0 := by have q1 := b263x; have q2 := (zB.of (x := 0) 0 (by decide)); simp only [z32lt, z32le, z32eq, Int32.reduceToInt, Int32.toInt_zero] at h75_264; constructor <;> omega
              refine z_iconst (pc := 85) (v := 0) C dX7_readPaper_85 (by decide) ?_
              refine z_istore (pc := 86) C dX7_readPaper_86 (by rw [hn]; decide) rfl ?_
              refine z_aload_n (pc := 88) C dX7_readPaper_88 rfl ?_
              refine z_getI (pc := 89) C zf_X7_36 rfl rfl (by decide) dX7_readPaper_89 ?_
              refine w_gp (fun v => v = g263 18 0 7) rfl (fun v267 q267 => ?_)
              have e267 : v267.toInt = (g263 18 0 7).toInt := by rw [q267]
              have b267x : zB v267 0 120 := by first | exact zB.eqv e267 c264x | (have q9 := c264x; constructor <;> omega)
              refine z_iconst (pc := 92) (v := -1) C dX7_readPaper_92 (by decide) ?_
              refine z_icmp_ne (pc := 93) 161 C dX7_readPaper_93 (by decide) (fun h93_267 => ?_) (fun h93_267 => absurd h93_267 (by have q1 := b267x; have q2 := (zB.of (x := (-1)) (-1) (by decide)); first | (simp only [z32lt, z32le, z32eq]; omega) | (simp only [z32lt, z32le, z32eq] at *; omega)))
              exact z_vret (pc := 161) C hr dX7_readPaper_161 ⟨rfl, hI263, hF263, (by
                                                                                          refine Or.inl ⟨u257, ?_, hb257, ?_, (fun x j => kk11_263 x j)⟩
                                                                                          · unfold zpaC zPa zbrC; simp only [zbd, zPb, hc1, if_neg hc75, hc223, hc257]
                                                                                          · rw [z32eq, nI_toInt (by omega)]
                                                                                            omega)⟩
            · skip
              have b269x : zB v263 1 1 := by have q1 := b263x; have q2 := (zB.of (x := 0) 0 (by decide)); simp only [z32lt, z32le, z32eq, Int32.reduceToInt, Int32.toInt_zero] at h75_264; constructor <;> omega
              refine z_aload_n (pc := 78) C dX7_readPaper_78 rfl ?_
              refine z_callVS (pc := 79) C hT zk_X7_95 (k_X7_readPromises _ _  hI263) rfl rfl (by decide) rfl rfl (Nat.le_of_ble_eq_true rfl) dX7_readPaper_79 (fun r270 g270 q270 => ?_)
              obtain ⟨⟨v270, rfl, b270x⟩, hI270, hF270q, hp270_0, hp270_1⟩ := q270
              have hp270_0 := hp270_0 _ rfl
              have hp270_1 := hp270_1 _ rfl
              have hF270 := zFr.tr hF263 hF270q (by decide)
              simp only [Option.toList, List.cons_append, List.nil_append]
              have cr270_18_0_7 : zB (g270 18 0 7) (-1) 120 := hI270 18 0 7
              have ek270_18_0_5 : (g270 18 0 5).toInt = (g263 18 0 5).toInt := by rw [hF270q 18 0 5 rfl]
              have c270_18_0_5x : zB (g270 18 0 5) 0 11 := by first | exact zB.eqv ek270_18_0_5 c263_18_0_5x | (have q9 := c263_18_0_5x; constructor <;> omega)
              have c271x : zB (g270 18 0 7) 0 120 := by first | assumption | (constructor <;> omega)
              have kk11_270 : ∀ x j, g270 11 x j = f 11 x j := fun x j => (hF270q 11 x j rfl).trans (kk11_263 x j)
              refine z_goto (pc := 82) 86 C dX7_readPaper_82 (by decide) ?_
              refine z_istore (pc := 86) C dX7_readPaper_86 (by rw [hn]; decide) rfl ?_
              refine z_aload_n (pc := 88) C dX7_readPaper_88 rfl ?_
              refine z_getI (pc := 89) C zf_X7_36 rfl rfl (by decide) dX7_readPaper_89 ?_
              refine w_gp (fun v => v = g270 18 0 7) rfl (fun v272 q272 => ?_)
              have e272 : v272.toInt = (g270 18 0 7).toInt := by rw [q272]
              have b272x : zB v272 0 120 := by first | exact zB.eqv e272 c271x | (have q9 := c271x; constructor <;> omega)
              refine z_iconst (pc := 92) (v := -1) C dX7_readPaper_92 (by decide) ?_
              refine z_icmp_ne (pc := 93) 161 C dX7_readPaper_93 (by decide) (fun h93_272 => ?_) (fun h93_272 => absurd h93_272 (by have q1 := b272x; have q2 := (zB.of (x := (-1)) (-1) (by decide)); first | (simp only [z32lt, z32le, z32eq]; omega) | (simp only [z32lt, z32le, z32eq] at *; omega)))
              exact z_vret (pc := 161) C hr dX7_readPaper_161 ⟨rfl, hI270, hF270, (by
                                                                                          refine Or.inl ⟨u257, ?_, hb257, ?_, (fun x j => kk11_270 x j)⟩
                                                                                          · unfold zpaC zPa zbrC; simp only [zbd, zPb, hc1, if_neg hc75, hc223, hc257]
                                                                                          · rw [z32eq, nI_toInt (by omega)]
                                                                                            omega)⟩
          · skip
            have b274x : zB v259 1 1 := by have q1 := b259x; have q2 := (zB.of (x := 0) 0 (by decide)); simp only [z32lt, z32le, z32eq, Int32.reduceToInt, Int32.toInt_zero] at h53_260; constructor <;> omega
            refine z_aload_n (pc := 56) C dX7_readPaper_56 rfl ?_
            refine z_iconst (pc := 57) (v := 1) C dX7_readPaper_57 (by decide) ?_
            refine z_bipush (pc := 58) (v := 99) C dX7_readPaper_58 (by decide) ?_
            refine z_callV (pc := 60) C zk_X7_73 (k_X7_readNumber _ _ 1 (zB.wk (a' := (-2147483648)) (b' := 1000) (zB.of (x := 1) 1 (by decide)) (by decide) (by decide)) 99 (zB.wk (a' := 0) (b' := 99) (zB.of (x := 99) 99 (by decide)) (by decide) (by decide)) hI259) rfl rfl (by decide) rfl rfl (Nat.le_of_ble_eq_true rfl) dX7_readPaper_60 (fun r275 g275 q275 => ?_)
            have qa275_1 : (1 : Int32).toInt = 1 := by decide
            have qa275_99 : (99 : Int32).toInt = 99 := by decide
            obtain ⟨⟨v275, rfl, b275x⟩, hI275, hF275q, hp275_0, hp275_1, hp275_2⟩ := q275
            have hp275_0 := hp275_0 _ rfl
            have hp275_1 := hp275_1 _ rfl
            have hp275_2 := hp275_2 _ rfl
            have hF275 := zFr.tr hF259 hF275q (by decide)
            simp only [Option.toList, List.cons_append, List.nil_append]
            have cr275_18_0_7 : zB (g275 18 0 7) (-1) 120 := hI275 18 0 7
            have ek275_18_0_5 : (g275 18 0 5).toInt = (g259 18 0 5).toInt := by rw [hF275q 18 0 5 rfl]
            have c275_18_0_5x : zB (g275 18 0 5) 0 11 := by first | exact zB.eqv ek275_18_0_5 c259_18_0_5x | (have q9 := c259_18_0_5x; constructor <;> omega)
            have c276x : zB (g275 18 0 7) 0 120 := by first | assumption | (constructor <;> omega)
            have kk11_275 : ∀ x j, g275 11 x j = f 11 x j := fun x j => (hF275q 11 x j rfl).trans (kk11_259 x j)
            refine z_goto (pc := 63) 67 C dX7_readPaper_63 (by decide) ?_
            refine z_istore (pc := 67) C dX7_readPaper_67 (by rw [hn]; decide) rfl ?_
            refine z_aload_n (pc := 69) C dX7_readPaper_69 rfl ?_
            refine z_bipush (pc := 70) (v := 43) C dX7_readPaper_70 (by decide) ?_
            refine z_callV (pc := 72) C zk_X7_48 (w_X7_takes _ _ 43 (zB.wk (a' := 1) (b' := 126) (zB.of (x := 43) 43 (by decide)) (by decide) (by decide)) hI275) rfl rfl (by decide) rfl rfl (Nat.le_of_ble_eq_true rfl) dX7_readPaper_72 (fun r277 g277 q277 => ?_)
            obtain ⟨⟨v277, rfl, b277x⟩, hI277, hF277q⟩ := q277
            have hF277 := zFr.tr hF275 hF277q (by decide)
            simp only [Option.toList, List.cons_append, List.nil_append]
            have ek277_18_0_7 : (g277 18 0 7).toInt = (g275 18 0 7).toInt := by rw [hF277q 18 0 7 rfl]
            have c277_18_0_7x : zB (g277 18 0 7) 0 120 := by first | exact zB.eqv ek277_18_0_7 c276x | (have q9 := c276x; constructor <;> omega)
            have ek277_18_0_5 : (g277 18 0 5).toInt = (g275 18 0 5).toInt := by rw [hF277q 18 0 5 rfl]
            have c277_18_0_5x : zB (g277 18 0 5) 0 11 := by first | exact zB.eqv ek277_18_0_5 c275_18_0_5x | (have q9 := c275_18_0_5x; constructor <;> omega)
            have c278x : zB (g277 18 0 7) 0 120 := by first | assumption | (constructor <;> omega)
            have kk11_277 : ∀ x j, g277 11 x j = f 11 x j := fun x j => (hF277q 11 x j rfl).trans (kk11_275 x j)
            refine z_if_eq (pc := 75) 85 C dX7_readPaper_75 (by decide) (fun h75_278 => ?_) (fun h75_278 => ?_)
            · skip
              have b280x : zB v277 0 0 := by have q1 := b277x; have q2 := (zB.of (x := 0) 0 (by decide)); simp only [z32lt, z32le, z32eq, Int32.reduceToInt, Int32.toInt_zero] at h75_278; constructor <;> omega
              refine z_iconst (pc := 85) (v := 0) C dX7_readPaper_85 (by decide) ?_
              refine z_istore (pc := 86) C dX7_readPaper_86 (by rw [hn]; decide) rfl ?_
              refine z_aload_n (pc := 88) C dX7_readPaper_88 rfl ?_
              refine z_getI (pc := 89) C zf_X7_36 rfl rfl (by decide) dX7_readPaper_89 ?_
              refine w_gp (fun v => v = g277 18 0 7) rfl (fun v281 q281 => ?_)
              have e281 : v281.toInt = (g277 18 0 7).toInt := by rw [q281]
              have b281x : zB v281 0 120 := by first | exact zB.eqv e281 c278x | (have q9 := c278x; constructor <;> omega)
              refine z_iconst (pc := 92) (v := -1) C dX7_readPaper_92 (by decide) ?_
              refine z_icmp_ne (pc := 93) 161 C dX7_readPaper_93 (by decide) (fun h93_281 => ?_) (fun h93_281 => absurd h93_281 (by have q1 := b281x; have q2 := (zB.of (x := (-1)) (-1) (by decide)); first | (simp only [z32lt, z32le, z32eq]; omega) | (simp only [z32lt, z32le, z32eq] at *; omega)))
              exact z_vret (pc := 161) C hr dX7_readPaper_161 ⟨rfl, hI277, hF277, (by
                                                                                          refine Or.inl ⟨u257, ?_, hb257, ?_, (fun x j => kk11_277 x j)⟩
                                                                                          · unfold zpaC zPa zbrC; simp only [zbd, zPb, hc1, if_neg hc75, hc223, hc257]
                                                                                          · rw [z32eq, nI_toInt (by omega)]
                                                                                            omega)⟩
            · skip
              have b283x : zB v277 1 1 := by have q1 := b277x; have q2 := (zB.of (x := 0) 0 (by decide)); simp only [z32lt, z32le, z32eq, Int32.reduceToInt, Int32.toInt_zero] at h75_278; constructor <;> omega
              refine z_aload_n (pc := 78) C dX7_readPaper_78 rfl ?_
              refine z_callVS (pc := 79) C hT zk_X7_95 (k_X7_readPromises _ _  hI277) rfl rfl (by decide) rfl rfl (Nat.le_of_ble_eq_true rfl) dX7_readPaper_79 (fun r284 g284 q284 => ?_)
              obtain ⟨⟨v284, rfl, b284x⟩, hI284, hF284q, hp284_0, hp284_1⟩ := q284
              have hp284_0 := hp284_0 _ rfl
              have hp284_1 := hp284_1 _ rfl
              have hF284 := zFr.tr hF277 hF284q (by decide)
              simp only [Option.toList, List.cons_append, List.nil_append]
              have cr284_18_0_7 : zB (g284 18 0 7) (-1) 120 := hI284 18 0 7
              have ek284_18_0_5 : (g284 18 0 5).toInt = (g277 18 0 5).toInt := by rw [hF284q 18 0 5 rfl]
              have c284_18_0_5x : zB (g284 18 0 5) 0 11 := by first | exact zB.eqv ek284_18_0_5 c277_18_0_5x | (have q9 := c277_18_0_5x; constructor <;> omega)
              have c285x : zB (g284 18 0 7) 0 120 := by first | assumption | (constructor <;> omega)
              have kk11_284 : ∀ x j, g284 11 x j = f 11 x j := fun x j => (hF284q 11 x j rfl).trans (kk11_277 x j)
              refine z_goto (pc := 82) 86 C dX7_readPaper_82 (by decide) ?_
              refine z_istore (pc := 86) C dX7_readPaper_86 (by rw [hn]; decide) rfl ?_
              refine z_aload_n (pc := 88) C dX7_readPaper_88 rfl ?_
              refine z_getI (pc := 89) C zf_X7_36 rfl rfl (by decide) dX7_readPaper_89 ?_
              refine w_gp (fun v => v = g284 18 0 7) rfl (fun v286 q286 => ?_)
              have e286 : v286.toInt = (g284 18 0 7).toInt := by rw [q286]
              have b286x : zB v286 0 120 := by first | exact zB.eqv e286 c285x | (have q9 := c285x; constructor <;> omega)
              refine z_iconst (pc := 92) (v := -1) C dX7_readPaper_92 (by decide) ?_
              refine z_icmp_ne (pc := 93) 161 C dX7_readPaper_93 (by decide) (fun h93_286 => ?_) (fun h93_286 => absurd h93_286 (by have q1 := b286x; have q2 := (zB.of (x := (-1)) (-1) (by decide)); first | (simp only [z32lt, z32le, z32eq]; omega) | (simp only [z32lt, z32le, z32eq] at *; omega)))
              exact z_vret (pc := 161) C hr dX7_readPaper_161 ⟨rfl, hI284, hF284, (by
                                                                                          refine Or.inl ⟨u257, ?_, hb257, ?_, (fun x j => kk11_284 x j)⟩
                                                                                          · unfold zpaC zPa zbrC; simp only [zbd, zPb, hc1, if_neg hc75, hc223, hc257]
                                                                                          · rw [z32eq, nI_toInt (by omega)]
                                                                                            omega)⟩
        · skip
          have h18257 : g257 18 0 3 = nI n := (hF257q 18 0 3 rfl).trans h18223
          have hTp257 : ∀ i, i < n → g257 19 0 i = T i := fun i hi => (hF257q 19 0 i rfl).trans (hTp223 i hi)
          have kk11_257 : ∀ x j, g257 11 x j = f 11 x j := fun x j => (hF257q 11 x j rfl).trans (kk11_223 x j)
          have fti257 : (g257 18 0 7).toInt = -1 := by rw [ft257]; decide
          have c288x : zB (g257 18 0 7) (-1) (-1) := by first | assumption | (constructor <;> omega)
          refine z_istore (pc := 45) C dX7_readPaper_45 (by rw [hn]; decide) rfl ?_
          refine z_aload_n (pc := 47) C dX7_readPaper_47 rfl ?_
          refine z_bipush (pc := 48) (v := 116) C dX7_readPaper_48 (by decide) ?_
          refine z_callV (pc := 50) C zk_X7_48 (e_X7_takes _ _ 116 (zB.wk (a' := 1) (b' := 126) (zB.of (x := 116) 116 (by decide)) (by decide) (by decide)) T n (u257) hN h18257 hTp257 hq257 hb257 hI257) rfl rfl (by decide) rfl rfl (Nat.le_of_ble_eq_true rfl) dX7_readPaper_50 (fun r289 g289 q289 => ?_)
          obtain ⟨⟨v289, rfl, b289x⟩, hI289, hF289q, hp289⟩ := q289
          have hp289 := hp289 _ rfl
          have hF289 := zFr.tr hF257 hF289q (by decide)
          simp only [Option.toList, List.cons_append, List.nil_append]
          have ek289_18_0_7 : (g289 18 0 7).toInt = (g257 18 0 7).toInt := by rw [hF289q 18 0 7 rfl]
          have c289_18_0_7x : zB (g289 18 0 7) (-1) (-1) := by first | exact zB.eqv ek289_18_0_7 c288x | (have q9 := c288x; constructor <;> omega)
          have ek289_18_0_5 : (g289 18 0 5).toInt = (g257 18 0 5).toInt := by rw [hF289q 18 0 5 rfl]
          have c289_18_0_5x : zB (g289 18 0 5) 0 11 := by first | exact zB.eqv ek289_18_0_5 c257_18_0_5x | (have q9 := c257_18_0_5x; constructor <;> omega)
          have h18289 : g289 18 0 3 = nI n := (hF289q 18 0 3 rfl).trans h18257
          have hTp289 : ∀ i, i < n → g289 19 0 i = T i := fun i hi => (hF289q 19 0 i rfl).trans (hTp257 i hi)
          have ft289 : g289 18 0 7 = -1 := (hF289q 18 0 7 rfl).trans ft257
          have kk11_289 : ∀ x j, g289 11 x j = f 11 x j := fun x j => (hF289q 11 x j rfl).trans (kk11_257 x j)
          rcases hp289 with ⟨hc289, rfl, hq289, hb289⟩ | ⟨hc289, rfl, hq289⟩
          · skip
            refine z_if_eq (pc := 53) 66 C dX7_readPaper_53 (by decide) (fun h => absurd h (by decide)) (fun _ => ?_)
            refine z_aload_n (pc := 56) C dX7_readPaper_56 rfl ?_
            refine z_iconst (pc := 57) (v := 1) C dX7_readPaper_57 (by decide) ?_
            refine z_bipush (pc := 58) (v := 99) C dX7_readPaper_58 (by decide) ?_
            refine z_callV (pc := 60) C zk_X7_73 (e_X7_readNumber _ _ 1 (zB.wk (a' := 0) (b' := 40) (zB.of (x := 1) 1 (by decide)) (by decide) (by decide)) 99 (zB.wk (a' := 0) (b' := 99) (zB.of (x := 99) 99 (by decide)) (by decide) (by decide))  T n (zsp T n (u257) + 1) hN h18289 hTp289 hq289 hb289 ft289 hI289) rfl rfl (by decide) rfl rfl (Nat.le_of_ble_eq_true rfl) dX7_readPaper_60 (fun r290 g290 q290 => ?_)
            obtain ⟨⟨v290, rfl, b290x⟩, hI290, hF290q, hp290⟩ := q290
            have hp290 := hp290 _ rfl
            have hF290 := zFr.tr hF289 hF290q (by decide)
            simp only [Option.toList, List.cons_append, List.nil_append]
            have cr290_18_0_7 : zB (g290 18 0 7) (-1) 120 := hI290 18 0 7
            have ek290_18_0_5 : (g290 18 0 5).toInt = (g289 18 0 5).toInt := by rw [hF290q 18 0 5 rfl]
            have c290_18_0_5x : zB (g290 18 0 5) 0 11 := by first | exact zB.eqv ek290_18_0_5 c289_18_0_5x | (have q9 := c289_18_0_5x; constructor <;> omega)
            rcases hp290 with ⟨u290, hc290, hb290, hz290⟩ | ⟨u290, hc290, hq290, hb290, ft290, hlo290, hhi290⟩
            · skip
              have hd290 : znu T n 1 99 (zsp T n (u257) + 1) = _ := hc290
              have kk11_290 : ∀ x j, g290 11 x j = f 11 x j := fun x j => (hF290q 11 x j rfl).trans (kk11_289 x j)
              have hzi290 : (g290 18 0 7).toInt = (u290 : Int) := by rw [hz290]; exact nI_toInt (by omega)
              have c291x : zB (g290 18 0 7) 0 120 := by first | assumption | (constructor <;> omega)
              refine z_goto (pc := 63) 67 C dX7_readPaper_63 (by decide) ?_
              refine z_istore (pc := 67) C dX7_readPaper_67 (by rw [hn]; decide) rfl ?_
              refine z_aload_n (pc := 69) C dX7_readPaper_69 rfl ?_
              refine z_bipush (pc := 70) (v := 43) C dX7_readPaper_70 (by decide) ?_
              refine z_callV (pc := 72) C zk_X7_48 (w_X7_takes _ _ 43 (zB.wk (a' := 1) (b' := 126) (zB.of (x := 43) 43 (by decide)) (by decide) (by decide)) hI290) rfl rfl (by decide) rfl rfl (Nat.le_of_ble_eq_true rfl) dX7_readPaper_72 (fun r292 g292 q292 => ?_)
              obtain ⟨⟨v292, rfl, b292x⟩, hI292, hF292q⟩ := q292
              have hF292 := zFr.tr hF290 hF292q (by decide)
              simp only [Option.toList, List.cons_append, List.nil_append]
              have ek292_18_0_7 : (g292 18 0 7).toInt = (g290 18 0 7).toInt := by rw [hF292q 18 0 7 rfl]
              have c292_18_0_7x : zB (g292 18 0 7) 0 120 := by first | exact zB.eqv ek292_18_0_7 c291x | (have q9 := c291x; constructor <;> omega)
              have ek292_18_0_5 : (g292 18 0 5).toInt = (g290 18 0 5).toInt := by rw [hF292q 18 0 5 rfl]
              have c292_18_0_5x : zB (g292 18 0 5) 0 11 := by first | exact zB.eqv ek292_18_0_5 c290_18_0_5x | (have q9 := c290_18_0_5x; constructor <;> omega)
              have c293x : zB (g292 18 0 7) 0 120 := by first | assumption | (constructor <;> omega)
              have kk11_292 : ∀ x j, g292 11 x j = f 11 x j := fun x j => (hF292q 11 x j rfl).trans (kk11_290 x j)
              refine z_if_eq (pc := 75) 85 C dX7_readPaper_75 (by decide) (fun h75_293 => ?_) (fun h75_293 => ?_)
              · skip
                have b295x : zB v292 0 0 := by have q1 := b292x; have q2 := (zB.of (x := 0) 0 (by decide)); simp only [z32lt, z32le, z32eq, Int32.reduceToInt, Int32.toInt_zero] at h75_293; constructor <;> omega
                refine z_iconst (pc := 85) (v := 0) C dX7_readPaper_85 (by decide) ?_
                refine z_istore (pc := 86) C dX7_readPaper_86 (by rw [hn]; decide) rfl ?_
                refine z_aload_n (pc := 88) C dX7_readPaper_88 rfl ?_
                refine z_getI (pc := 89) C zf_X7_36 rfl rfl (by decide) dX7_readPaper_89 ?_
                refine w_gp (fun v => v = g292 18 0 7) rfl (fun v296 q296 => ?_)
                have e296 : v296.toInt = (g292 18 0 7).toInt := by rw [q296]
                have b296x : zB v296 0 120 := by first | exact zB.eqv e296 c293x | (have q9 := c293x; constructor <;> omega)
                refine z_iconst (pc := 92) (v := -1) C dX7_readPaper_92 (by decide) ?_
                refine z_icmp_ne (pc := 93) 161 C dX7_readPaper_93 (by decide) (fun h93_296 => ?_) (fun h93_296 => absurd h93_296 (by have q1 := b296x; have q2 := (zB.of (x := (-1)) (-1) (by decide)); first | (simp only [z32lt, z32le, z32eq]; omega) | (simp only [z32lt, z32le, z32eq] at *; omega)))
                exact z_vret (pc := 161) C hr dX7_readPaper_161 ⟨rfl, hI292, hF292, (by
                                                                                          refine Or.inl ⟨u290, ?_, hb290, ?_, (fun x j => kk11_292 x j)⟩
                                                                                          · unfold zpaC zPa zbrC; simp only [zbd, zPb, hc1, if_neg hc75, hc223, hc257, if_pos hc289, hd290]
                                                                                          · rw [z32eq, nI_toInt (by omega)]
                                                                                            omega)⟩
              · skip
                have b298x : zB v292 1 1 := by have q1 := b292x; have q2 := (zB.of (x := 0) 0 (by decide)); simp only [z32lt, z32le, z32eq, Int32.reduceToInt, Int32.toInt_zero] at h75_293; constructor <;> omega
                refine z_aload_n (pc := 78) C dX7_readPaper_78 rfl ?_
                refine z_callVS (pc := 79) C hT zk_X7_95 (k_X7_readPromises _ _  hI292) rfl rfl (by decide) rfl rfl (Nat.le_of_ble_eq_true rfl) dX7_readPaper_79 (fun r299 g299 q299 => ?_)
                obtain ⟨⟨v299, rfl, b299x⟩, hI299, hF299q, hp299_0, hp299_1⟩ := q299
                have hp299_0 := hp299_0 _ rfl
                have hp299_1 := hp299_1 _ rfl
                have hF299 := zFr.tr hF292 hF299q (by decide)
                simp only [Option.toList, List.cons_append, List.nil_append]
                have cr299_18_0_7 : zB (g299 18 0 7) (-1) 120 := hI299 18 0 7
                have ek299_18_0_5 : (g299 18 0 5).toInt = (g292 18 0 5).toInt := by rw [hF299q 18 0 5 rfl]
                have c299_18_0_5x : zB (g299 18 0 5) 0 11 := by first | exact zB.eqv ek299_18_0_5 c292_18_0_5x | (have q9 := c292_18_0_5x; constructor <;> omega)
                have c300x : zB (g299 18 0 7) 0 120 := by first | assumption | (constructor <;> omega)
                have kk11_299 : ∀ x j, g299 11 x j = f 11 x j := fun x j => (hF299q 11 x j rfl).trans (kk11_292 x j)
                refine z_goto (pc := 82) 86 C dX7_readPaper_82 (by decide) ?_
                refine z_istore (pc := 86) C dX7_readPaper_86 (by rw [hn]; decide) rfl ?_
                refine z_aload_n (pc := 88) C dX7_readPaper_88 rfl ?_
                refine z_getI (pc := 89) C zf_X7_36 rfl rfl (by decide) dX7_readPaper_89 ?_
                refine w_gp (fun v => v = g299 18 0 7) rfl (fun v301 q301 => ?_)
                have e301 : v301.toInt = (g299 18 0 7).toInt := by rw [q301]
                have b301x : zB v301 0 120 := by first | exact zB.eqv e301 c300x | (have q9 := c300x; constructor <;> omega)
                refine z_iconst (pc := 92) (v := -1) C dX7_readPaper_92 (by decide) ?_
                refine z_icmp_ne (pc := 93) 161 C dX7_readPaper_93 (by decide) (fun h93_301 => ?_) (fun h93_301 => absurd h93_301 (by have q1 := b301x; have q2 := (zB.of (x := (-1)) (-1) (by decide)); first | (simp only [z32lt, z32le, z32eq]; omega) | (simp only [z32lt, z32le, z32eq] at *; omega)))
                exact z_vret (pc := 161) C hr dX7_readPaper_161 ⟨rfl, hI299, hF299, (by
                                                                                          refine Or.inl ⟨u290, ?_, hb290, ?_, (fun x j => kk11_299 x j)⟩
                                                                                          · unfold zpaC zPa zbrC; simp only [zbd, zPb, hc1, if_neg hc75, hc223, hc257, if_pos hc289, hd290]
                                                                                          · rw [z32eq, nI_toInt (by omega)]
                                                                                            omega)⟩
            · skip
              have hd290 : znu T n 1 99 (zsp T n (u257) + 1) = _ := hc290
              have h18290 : g290 18 0 3 = nI n := (hF290q 18 0 3 rfl).trans h18289
              have hTp290 : ∀ i, i < n → g290 19 0 i = T i := fun i hi => (hF290q 19 0 i rfl).trans (hTp289 i hi)
              have kk11_290 : ∀ x j, g290 11 x j = f 11 x j := fun x j => (hF290q 11 x j rfl).trans (kk11_289 x j)
              have fti290 : (g290 18 0 7).toInt = -1 := by rw [ft290]; decide
              have c303x : zB (g290 18 0 7) (-1) (-1) := by first | assumption | (constructor <;> omega)
              have bo290x : zB v290 1 99 := by have qk290_0 : (1 : Int32).toInt = 1 := (by decide); have qk290_1 : (99 : Int32).toInt = 99 := (by decide); constructor <;> omega
              refine z_goto (pc := 63) 67 C dX7_readPaper_63 (by decide) ?_
              refine z_istore (pc := 67) C dX7_readPaper_67 (by rw [hn]; decide) rfl ?_
              refine z_aload_n (pc := 69) C dX7_readPaper_69 rfl ?_
              refine z_bipush (pc := 70) (v := 43) C dX7_readPaper_70 (by decide) ?_
              refine z_callV (pc := 72) C zk_X7_48 (e_X7_takes _ _ 43 (zB.wk (a' := 1) (b' := 126) (zB.of (x := 43) 43 (by decide)) (by decide) (by decide)) T n (u290) hN h18290 hTp290 hq290 hb290 hI290) rfl rfl (by decide) rfl rfl (Nat.le_of_ble_eq_true rfl) dX7_readPaper_72 (fun r304 g304 q304 => ?_)
              obtain ⟨⟨v304, rfl, b304x⟩, hI304, hF304q, hp304⟩ := q304
              have hp304 := hp304 _ rfl
              have hF304 := zFr.tr hF290 hF304q (by decide)
              simp only [Option.toList, List.cons_append, List.nil_append]
              have ek304_18_0_7 : (g304 18 0 7).toInt = (g290 18 0 7).toInt := by rw [hF304q 18 0 7 rfl]
              have c304_18_0_7x : zB (g304 18 0 7) (-1) (-1) := by first | exact zB.eqv ek304_18_0_7 c303x | (have q9 := c303x; constructor <;> omega)
              have ek304_18_0_5 : (g304 18 0 5).toInt = (g290 18 0 5).toInt := by rw [hF304q 18 0 5 rfl]
              have c304_18_0_5x : zB (g304 18 0 5) 0 11 := by first | exact zB.eqv ek304_18_0_5 c290_18_0_5x | (have q9 := c290_18_0_5x; constructor <;> omega)
              have h18304 : g304 18 0 3 = nI n := (hF304q 18 0 3 rfl).trans h18290
              have hTp304 : ∀ i, i < n → g304 19 0 i = T i := fun i hi => (hF304q 19 0 i rfl).trans (hTp290 i hi)
              have ft304 : g304 18 0 7 = -1 := (hF304q 18 0 7 rfl).trans ft290
              have kk11_304 : ∀ x j, g304 11 x j = f 11 x j := fun x j => (hF304q 11 x j rfl).trans (kk11_290 x j)
              rcases hp304 with ⟨hc304, rfl, hq304, hb304⟩ | ⟨hc304, rfl, hq304⟩
              · skip
                refine z_if_eq (pc := 75) 85 C dX7_readPaper_75 (by decide) (fun h => absurd h (by decide)) (fun _ => ?_)
                refine z_aload_n (pc := 78) C dX7_readPaper_78 rfl ?_
                refine z_callVS (pc := 79) C hT zk_X7_95 (e_X7_readPromises _ _   T n (zsp T n (u290) + 1) hN h18304 hTp304 hq304 hb304 ft304 hI304) rfl rfl (by decide) rfl rfl (Nat.le_of_ble_eq_true rfl) dX7_readPaper_79 (fun r305 g305 q305 => ?_)
                obtain ⟨⟨v305, rfl, b305x⟩, hI305, hF305q, hp305⟩ := q305
                have hp305 := hp305 _ rfl
                have hF305 := zFr.tr hF304 hF305q (by decide)
                simp only [Option.toList, List.cons_append, List.nil_append]
                have cr305_18_0_7 : zB (g305 18 0 7) (-1) 120 := hI305 18 0 7
                have ek305_18_0_5 : (g305 18 0 5).toInt = (g304 18 0 5).toInt := by rw [hF305q 18 0 5 rfl]
                have c305_18_0_5x : zB (g305 18 0 5) 0 11 := by first | exact zB.eqv ek305_18_0_5 c304_18_0_5x | (have q9 := c304_18_0_5x; constructor <;> omega)
                rcases hp305 with ⟨u305, hc305, hb305, hz305⟩ | ⟨u305, hc305, hq305, hb305, ft305⟩
                · skip
                  have kk11_305 : ∀ x j, g305 11 x j = f 11 x j := fun x j => (hF305q 11 x j rfl).trans (kk11_304 x j)
                  have hzi305 : (g305 18 0 7).toInt = (u305 : Int) := by rw [hz305]; exact nI_toInt (by omega)
                  have c306x : zB (g305 18 0 7) 0 120 := by first | assumption | (constructor <;> omega)
                  refine z_goto (pc := 82) 86 C dX7_readPaper_82 (by decide) ?_
                  refine z_istore (pc := 86) C dX7_readPaper_86 (by rw [hn]; decide) rfl ?_
                  refine z_aload_n (pc := 88) C dX7_readPaper_88 rfl ?_
                  refine z_getI (pc := 89) C zf_X7_36 rfl rfl (by decide) dX7_readPaper_89 ?_
                  refine w_gp (fun v => v = g305 18 0 7) rfl (fun v307 q307 => ?_)
                  have e307 : v307.toInt = (g305 18 0 7).toInt := by rw [q307]
                  have b307x : zB v307 0 120 := by first | exact zB.eqv e307 c306x | (have q9 := c306x; constructor <;> omega)
                  refine z_iconst (pc := 92) (v := -1) C dX7_readPaper_92 (by decide) ?_
                  refine z_icmp_ne (pc := 93) 161 C dX7_readPaper_93 (by decide) (fun h93_307 => ?_) (fun h93_307 => absurd h93_307 (by have q1 := b307x; have q2 := (zB.of (x := (-1)) (-1) (by decide)); first | (simp only [z32lt, z32le, z32eq]; omega) | (simp only [z32lt, z32le, z32eq] at *; omega)))
                  exact z_vret (pc := 161) C hr dX7_readPaper_161 ⟨rfl, hI305, hF305, (by
                                                                                          refine Or.inl ⟨u305, ?_, hb305, ?_, (fun x j => kk11_305 x j)⟩
                                                                                          · unfold zpaC zPa zbrC; simp only [zbd, zPb, hc1, if_neg hc75, hc223, hc257, if_pos hc289, hd290, if_pos hc304, hc305]
                                                                                          · rw [z32eq, nI_toInt (by omega)]
                                                                                            omega)⟩
                · skip
                  have h18305 : g305 18 0 3 = nI n := (hF305q 18 0 3 rfl).trans h18304
                  have hTp305 : ∀ i, i < n → g305 19 0 i = T i := fun i hi => (hF305q 19 0 i rfl).trans (hTp304 i hi)
                  have kk11_305 : ∀ x j, g305 11 x j = f 11 x j := fun x j => (hF305q 11 x j rfl).trans (kk11_304 x j)
                  have fti305 : (g305 18 0 7).toInt = -1 := by rw [ft305]; decide
                  have c309x : zB (g305 18 0 7) (-1) (-1) := by first | assumption | (constructor <;> omega)
                  refine z_goto (pc := 82) 86 C dX7_readPaper_82 (by decide) ?_
                  refine z_istore (pc := 86) C dX7_readPaper_86 (by rw [hn]; decide) rfl ?_
                  refine z_aload_n (pc := 88) C dX7_readPaper_88 rfl ?_
                  refine z_getI (pc := 89) C zf_X7_36 rfl rfl (by decide) dX7_readPaper_89 ?_
                  refine w_gp (fun v => v = g305 18 0 7) rfl (fun v310 q310 => ?_)
                  have e310 : v310.toInt = (g305 18 0 7).toInt := by rw [q310]
                  have b310x : zB v310 (-1) (-1) := by first | exact zB.eqv e310 c309x | (have q9 := c309x; constructor <;> omega)
                  refine z_iconst (pc := 92) (v := -1) C dX7_readPaper_92 (by decide) ?_
                  refine z_icmp_ne (pc := 93) 161 C dX7_readPaper_93 (by decide) (fun h93_310 => absurd h93_310 (by have q1 := b310x; have q2 := (zB.of (x := (-1)) (-1) (by decide)); first | (simp only [z32lt, z32le, z32eq]; omega) | (simp only [z32lt, z32le, z32eq] at *; omega))) (fun h93_310 => ?_)
                  refine z_aload_n (pc := 96) C dX7_readPaper_96 rfl ?_
                  refine z_getI (pc := 97) C zf_X7_42 rfl rfl (by decide) dX7_readPaper_97 ?_
                  refine w_gp (fun v => v = g305 18 0 5) rfl (fun v312 q312 => ?_)
                  have e312 : v312.toInt = (g305 18 0 5).toInt := by rw [q312]
                  have b312x : zB v312 0 11 := by first | exact zB.eqv e312 c305_18_0_5x | (have q9 := c305_18_0_5x; constructor <;> omega)
                  refine z_bipush (pc := 100) (v := 12) C dX7_readPaper_100 (by decide) ?_
                  refine z_icmp_ge (pc := 102) 161 C dX7_readPaper_102 (by decide) (fun h102_312 => absurd h102_312 (by have q1 := b312x; have q2 := (zB.of (x := 12) 12 (by decide)); first | (simp only [z32lt, z32le, z32eq]; omega) | (simp only [z32lt, z32le, z32eq] at *; omega))) (fun h102_312 => ?_)
                  refine z_aload_n (pc := 105) C dX7_readPaper_105 rfl ?_
                  refine z_getR (pc := 106) C zf_X7_23 rfl rfl (by decide) dX7_readPaper_106 ?_
                  refine z_aload_n (pc := 109) C dX7_readPaper_109 rfl ?_
                  refine z_getI (pc := 110) C zf_X7_42 rfl rfl (by decide) dX7_readPaper_110 ?_
                  refine w_gp (fun v => v = g305 18 0 5) rfl (fun v314 q314 => ?_)
                  have e314 : v314.toInt = (g305 18 0 5).toInt := by rw [q314]
                  have b314x : zB v314 0 11 := by first | exact zB.eqv e314 c305_18_0_5x | (have q9 := c305_18_0_5x; constructor <;> omega)
                  refine z_aald (pc := 113) C rfl ⟨rfl, by decide⟩ (by decide) (zIx b314x (by decide) (by decide)) dX7_readPaper_113 ?_
                  refine w_grx (by have hq := zN b314x (by decide); show 24 + v314.toNatClampNeg < 36; omega) (fun m315 q315r h315x => ?_)
                  have q315r : m315 = 24 + v314.toNatClampNeg := q315r
                  have k315r : v314.toNatClampNeg = v314.toInt.toNat := rfl
                  refine z_astore (pc := 114) C dX7_readPaper_114 (by rw [hn]; decide) rfl ?_
                  refine z_aload (pc := 116) C dX7_readPaper_116 rfl ?_
                  refine z_iload_n (pc := 118) C dX7_readPaper_118 rfl ?_
                  refine z_iload_n (pc := 119) C dX7_readPaper_119 rfl ?_
                  refine z_callV (pc := 120) C zk_X7_98 (x_X4_lead _ _ m315 h315x a1 b1 v1 b1x hI305) rfl rfl h315x rfl rfl (Nat.le_of_ble_eq_true rfl) dX7_readPaper_120 (fun r316 g316 q316 => ?_)
                  obtain ⟨rfl, hI316, hF316q, hp316_0⟩ := q316
                  have hF316 := zFr.tr hF305 hF316q (by decide)
                  simp only [Option.toList, List.cons_append, List.nil_append]
                  have ek316_18_0_7 : (g316 18 0 7).toInt = (g305 18 0 7).toInt := by rw [hF316q 18 0 7 rfl]
                  have c316_18_0_7x : zB (g316 18 0 7) (-1) (-1) := by first | exact zB.eqv ek316_18_0_7 c309x | (have q9 := c309x; constructor <;> omega)
                  have ek316_18_0_5 : (g316 18 0 5).toInt = (g305 18 0 5).toInt := by rw [hF316q 18 0 5 rfl]
                  have c316_18_0_5x : zB (g316 18 0 5) 0 11 := by first | exact zB.eqv ek316_18_0_5 c305_18_0_5x | (have q9 := c305_18_0_5x; constructor <;> omega)
                  refine z_aload (pc := 123) C dX7_readPaper_123 rfl ?_
                  refine z_iload_n (pc := 125) C dX7_readPaper_125 rfl ?_
                  refine z_if_eq (pc := 126) 133 C dX7_readPaper_126 (by decide) (fun h126_316 => ?_) (fun h126_316 => absurd h126_316 (by decide))
                  refine z_iconst (pc := 133) (v := 2) C dX7_readPaper_133 (by decide) ?_
                  refine z_iload (pc := 134) C dX7_readPaper_134 rfl ?_
                  refine z_iconst (pc := 136) (v := 0) C dX7_readPaper_136 (by decide) ?_
                  refine z_callV (pc := 137) C zk_X7_102 (x_X4_become _ _ m315 h315x 2 (zB.wk (a' := 0) (b' := 2) (zB.of (x := 2) 2 (by decide)) (by decide) (by decide)) 1 (zB.wk (a' := 0) (b' := 40) (zB.of (x := 1) 1 (by decide)) (by decide) (by decide)) 0 (zB.wk (a' := (-2147483648)) (b' := 2147483647) (zB.of (x := 0) 0 (by decide)) (by decide) (by decide)) hI316) rfl rfl h315x rfl rfl (Nat.le_of_ble_eq_true rfl) dX7_readPaper_137 (fun r318 g318 q318 => ?_)
                  have qa318_0 : (0 : Int32).toInt = 0 := by decide
                  have qa318_1 : (1 : Int32).toInt = 1 := by decide
                  have qa318_2 : (2 : Int32).toInt = 2 := by decide
                  obtain ⟨rfl, hI318, hF318q, hp318_0⟩ := q318
                  have hF318 := zFr.tr hF316 hF318q (by decide)
                  simp only [Option.toList, List.cons_append, List.nil_append]
                  have ek318_18_0_7 : (g318 18 0 7).toInt = (g316 18 0 7).toInt := by rw [hF318q 18 0 7 rfl]
                  have c318_18_0_7x : zB (g318 18 0 7) (-1) (-1) := by first | exact zB.eqv ek318_18_0_7 c316_18_0_7x | (have q9 := c316_18_0_7x; constructor <;> omega)
                  have ek318_18_0_5 : (g318 18 0 5).toInt = (g316 18 0 5).toInt := by rw [hF318q 18 0 5 rfl]
                  have c318_18_0_5x : zB (g318 18 0 5) 0 11 := by first | exact zB.eqv ek318_18_0_5 c316_18_0_5x | (have q9 := c316_18_0_5x; constructor <;> omega)
                  refine z_aload (pc := 140) C dX7_readPaper_140 rfl ?_
                  refine z_iload (pc := 142) C dX7_readPaper_142 rfl ?_
                  refine z_iload (pc := 144) C dX7_readPaper_144 rfl ?_
                  refine z_iload (pc := 146) C dX7_readPaper_146 rfl ?_
                  refine z_callV (pc := 148) C zk_X7_106 (x_X4_rule _ _ m315 h315x v257 b257x v290 (zB.wk (a' := 0) (b' := 99) bo290x (by decide) (by decide)) v305 b305x hI318) rfl rfl h315x rfl rfl (Nat.le_of_ble_eq_true rfl) dX7_readPaper_148 (fun r319 g319 q319 => ?_)
                  obtain ⟨rfl, hI319, hF319q, hp319_0⟩ := q319
                  have hF319 := zFr.tr hF318 hF319q (by decide)
                  simp only [Option.toList, List.cons_append, List.nil_append]
                  have ek319_18_0_7 : (g319 18 0 7).toInt = (g318 18 0 7).toInt := by rw [hF319q 18 0 7 rfl]
                  have c319_18_0_7x : zB (g319 18 0 7) (-1) (-1) := by first | exact zB.eqv ek319_18_0_7 c318_18_0_7x | (have q9 := c318_18_0_7x; constructor <;> omega)
                  have ek319_18_0_5 : (g319 18 0 5).toInt = (g318 18 0 5).toInt := by rw [hF319q 18 0 5 rfl]
                  have c319_18_0_5x : zB (g319 18 0 5) 0 11 := by first | exact zB.eqv ek319_18_0_5 c318_18_0_5x | (have q9 := c318_18_0_5x; constructor <;> omega)
                  refine z_aload_n (pc := 151) C dX7_readPaper_151 rfl ?_
                  refine z_dupr (pc := 152) C dX7_readPaper_152 ?_
                  refine z_getI (pc := 153) C zf_X7_42 rfl rfl (by decide) dX7_readPaper_153 ?_
                  refine w_gp (fun v => v = g319 18 0 5) rfl (fun v320 q320 => ?_)
                  have e320 : v320.toInt = (g319 18 0 5).toInt := by rw [q320]
                  have b320x : zB v320 0 11 := by first | exact zB.eqv e320 c319_18_0_5x | (have q9 := c319_18_0_5x; constructor <;> omega)
                  refine z_iconst (pc := 156) (v := 1) C dX7_readPaper_156 (by decide) ?_
                  refine z_iadd (pc := 157) C dX7_readPaper_157 ?_
                  refine w_gp (fun v => v = v320 + (1 : Int32)) rfl (fun v321 q321 => ?_)
                  have e321 : v321.toInt = v320.toInt + 1 := by rw [q321]; exact (zadd_eb b320x (zB.of (x := 1) 1 (by decide)) (by decide) (by decide))
                  have b321x : zB v321 1 12 := by have q1 := b320x; have q2 := (zB.of (x := 1) 1 (by decide)); constructor <;> omega
                  refine z_putI (pc := 158) C zf_X7_42 zp_7_5 rfl rfl (by decide) dX7_readPaper_158 ?_
                  refine w_memx hI319 hF319 (zB.wk (a' := 0) (b' := 12) b321x (by decide) (by decide)) rfl (fun g322 qm322 hI322 hF322 hq322 hx322 => ?_)
                  have ek322_18_0_7 : (g322 18 0 7).toInt = (g319 18 0 7).toInt := by rw [hq322 18 0 7 (by omega)]
                  have c322_18_0_7x : zB (g322 18 0 7) (-1) (-1) := by first | exact zB.eqv ek322_18_0_7 c319_18_0_7x | (have q9 := c319_18_0_7x; constructor <;> omega)
                  have ec322 : (g322 18 0 5).toInt = v321.toInt := by rw [hx322]
                  have c322x : zB (g322 18 0 5) 1 12 := by first | exact zB.eqv ec322 b321x | (have q9 := b321x; constructor <;> omega)
                  exact z_vret (pc := 161) C hr dX7_readPaper_161 ⟨rfl, hI322, hF322, (by
                                                                                          have hnn : m315 = 24 + (f 18 0 5).toInt.toNat := by omega
                                                                                          have hg1 := hp316_0
                                                                                          have hg2 := hp318_0
                                                                                          have hg3 := hp319_0
                                                                                          rw [hnn] at hg1 hg2 hg3
                                                                                          rw [hg1] at hg2
                                                                                          rw [hg2] at hg3
                                                                                          refine Or.inr ⟨_, zc8 (2 : Int32) a1 v1 (1 : Int32) 0 v257 v290 v305, ?_, ?_, hb305, ?_, ?_, ?_, ?_⟩
                                                                                          · unfold zpaC zPa zbrC; simp only [zbd, zPb, hc1, if_neg hc75, hc223, hc257, if_pos hc289, hd290, if_pos hc304, hc305]
                                                                                          · rw [qm322, zup_ne _ _ (by omega), hg3]; exact hq305
                                                                                          · rw [qm322, zup_ne _ _ (by omega), hg3]; exact ft305
                                                                                          · rw [z32eq]
                                                                                            have e1 : (f 18 0 5 + 1 : Int32).toInt = (f 18 0 5).toInt + 1 := zadd_eb pf18_0_5 (zB.of (x := 1) 1 (by decide)) (by decide) (by decide)
                                                                                            omega
                                                                                          · intro j hj
                                                                                            rw [qm322, zup_ne _ _ (by omega), hg3]
                                                                                            rcases (show j = 0 ∨ j = 1 ∨ j = 2 ∨ j = 3 ∨ j = 4 ∨ j = 5 ∨ j = 6 ∨ j = 7 by omega) with rfl | rfl | rfl | rfl | rfl | rfl | rfl | rfl <;> simp [zup, zc8]
                                                                                          · intro x j hj hx
                                                                                            rw [qm322, zup_ne _ _ (by omega), hg3, zup_ne _ _ (by omega), zup_ne _ _ (by omega), zup_ne _ _ (by omega), zup_ne _ _ (by omega), zup_ne _ _ (by omega), zup_ne _ _ (by omega), zup_ne _ _ (by omega), zup_ne _ _ (by omega)]
                                                                                            exact kk11_305 x j)⟩
              · skip
                have hb304 : zsp T n (u290) ≤ n := zsp_len hb290
                refine z_if_eq (pc := 75) 85 C dX7_readPaper_75 (by decide) (fun _ => ?_) (fun h => absurd (by decide) h)
                refine z_iconst (pc := 85) (v := 0) C dX7_readPaper_85 (by decide) ?_
                refine z_istore (pc := 86) C dX7_readPaper_86 (by rw [hn]; decide) rfl ?_
                refine z_aload_n (pc := 88) C dX7_readPaper_88 rfl ?_
                refine z_getI (pc := 89) C zf_X7_36 rfl rfl (by decide) dX7_readPaper_89 ?_
                refine w_gp (fun v => v = g304 18 0 7) rfl (fun v323 q323 => ?_)
                have e323 : v323.toInt = (g304 18 0 7).toInt := by rw [q323]
                have b323x : zB v323 (-1) (-1) := by first | exact zB.eqv e323 c304_18_0_7x | (have q9 := c304_18_0_7x; constructor <;> omega)
                refine z_iconst (pc := 92) (v := -1) C dX7_readPaper_92 (by decide) ?_
                refine z_icmp_ne (pc := 93) 161 C dX7_readPaper_93 (by decide) (fun h93_323 => absurd h93_323 (by have q1 := b323x; have q2 := (zB.of (x := (-1)) (-1) (by decide)); first | (simp only [z32lt, z32le, z32eq]; omega) | (simp only [z32lt, z32le, z32eq] at *; omega))) (fun h93_323 => ?_)
                refine z_aload_n (pc := 96) C dX7_readPaper_96 rfl ?_
                refine z_getI (pc := 97) C zf_X7_42 rfl rfl (by decide) dX7_readPaper_97 ?_
                refine w_gp (fun v => v = g304 18 0 5) rfl (fun v325 q325 => ?_)
                have e325 : v325.toInt = (g304 18 0 5).toInt := by rw [q325]
                have b325x : zB v325 0 11 := by first | exact zB.eqv e325 c304_18_0_5x | (have q9 := c304_18_0_5x; constructor <;> omega)
                refine z_bipush (pc := 100) (v := 12) C dX7_readPaper_100 (by decide) ?_
                refine z_icmp_ge (pc := 102) 161 C dX7_readPaper_102 (by decide) (fun h102_325 => absurd h102_325 (by have q1 := b325x; have q2 := (zB.of (x := 12) 12 (by decide)); first | (simp only [z32lt, z32le, z32eq]; omega) | (simp only [z32lt, z32le, z32eq] at *; omega))) (fun h102_325 => ?_)
                refine z_aload_n (pc := 105) C dX7_readPaper_105 rfl ?_
                refine z_getR (pc := 106) C zf_X7_23 rfl rfl (by decide) dX7_readPaper_106 ?_
                refine z_aload_n (pc := 109) C dX7_readPaper_109 rfl ?_
                refine z_getI (pc := 110) C zf_X7_42 rfl rfl (by decide) dX7_readPaper_110 ?_
                refine w_gp (fun v => v = g304 18 0 5) rfl (fun v327 q327 => ?_)
                have e327 : v327.toInt = (g304 18 0 5).toInt := by rw [q327]
                have b327x : zB v327 0 11 := by first | exact zB.eqv e327 c304_18_0_5x | (have q9 := c304_18_0_5x; constructor <;> omega)
                refine z_aald (pc := 113) C rfl ⟨rfl, by decide⟩ (by decide) (zIx b327x (by decide) (by decide)) dX7_readPaper_113 ?_
                refine w_grx (by have hq := zN b327x (by decide); show 24 + v327.toNatClampNeg < 36; omega) (fun m328 q328r h328x => ?_)
                have q328r : m328 = 24 + v327.toNatClampNeg := q328r
                have k328r : v327.toNatClampNeg = v327.toInt.toNat := rfl
                refine z_astore (pc := 114) C dX7_readPaper_114 (by rw [hn]; decide) rfl ?_
                refine z_aload (pc := 116) C dX7_readPaper_116 rfl ?_
                refine z_iload_n (pc := 118) C dX7_readPaper_118 rfl ?_
                refine z_iload_n (pc := 119) C dX7_readPaper_119 rfl ?_
                refine z_callV (pc := 120) C zk_X7_98 (x_X4_lead _ _ m328 h328x a1 b1 v1 b1x hI304) rfl rfl h328x rfl rfl (Nat.le_of_ble_eq_true rfl) dX7_readPaper_120 (fun r329 g329 q329 => ?_)
                obtain ⟨rfl, hI329, hF329q, hp329_0⟩ := q329
                have hF329 := zFr.tr hF304 hF329q (by decide)
                simp only [Option.toList, List.cons_append, List.nil_append]
                have ek329_18_0_7 : (g329 18 0 7).toInt = (g304 18 0 7).toInt := by rw [hF329q 18 0 7 rfl]
                have c329_18_0_7x : zB (g329 18 0 7) (-1) (-1) := by first | exact zB.eqv ek329_18_0_7 c304_18_0_7x | (have q9 := c304_18_0_7x; constructor <;> omega)
                have ek329_18_0_5 : (g329 18 0 5).toInt = (g304 18 0 5).toInt := by rw [hF329q 18 0 5 rfl]
                have c329_18_0_5x : zB (g329 18 0 5) 0 11 := by first | exact zB.eqv ek329_18_0_5 c304_18_0_5x | (have q9 := c304_18_0_5x; constructor <;> omega)
                refine z_aload (pc := 123) C dX7_readPaper_123 rfl ?_
                refine z_iload_n (pc := 125) C dX7_readPaper_125 rfl ?_
                refine z_if_eq (pc := 126) 133 C dX7_readPaper_126 (by decide) (fun h126_329 => ?_) (fun h126_329 => absurd h126_329 (by decide))
                refine z_iconst (pc := 133) (v := 2) C dX7_readPaper_133 (by decide) ?_
                refine z_iload (pc := 134) C dX7_readPaper_134 rfl ?_
                refine z_iconst (pc := 136) (v := 0) C dX7_readPaper_136 (by decide) ?_
                refine z_callV (pc := 137) C zk_X7_102 (x_X4_become _ _ m328 h328x 2 (zB.wk (a' := 0) (b' := 2) (zB.of (x := 2) 2 (by decide)) (by decide) (by decide)) 1 (zB.wk (a' := 0) (b' := 40) (zB.of (x := 1) 1 (by decide)) (by decide) (by decide)) 0 (zB.wk (a' := (-2147483648)) (b' := 2147483647) (zB.of (x := 0) 0 (by decide)) (by decide) (by decide)) hI329) rfl rfl h328x rfl rfl (Nat.le_of_ble_eq_true rfl) dX7_readPaper_137 (fun r331 g331 q331 => ?_)
                have qa331_0 : (0 : Int32).toInt = 0 := by decide
                have qa331_1 : (1 : Int32).toInt = 1 := by decide
                have qa331_2 : (2 : Int32).toInt = 2 := by decide
                obtain ⟨rfl, hI331, hF331q, hp331_0⟩ := q331
                have hF331 := zFr.tr hF329 hF331q (by decide)
                simp only [Option.toList, List.cons_append, List.nil_append]
                have ek331_18_0_7 : (g331 18 0 7).toInt = (g329 18 0 7).toInt := by rw [hF331q 18 0 7 rfl]
                have c331_18_0_7x : zB (g331 18 0 7) (-1) (-1) := by first | exact zB.eqv ek331_18_0_7 c329_18_0_7x | (have q9 := c329_18_0_7x; constructor <;> omega)
                have ek331_18_0_5 : (g331 18 0 5).toInt = (g329 18 0 5).toInt := by rw [hF331q 18 0 5 rfl]
                have c331_18_0_5x : zB (g331 18 0 5) 0 11 := by first | exact zB.eqv ek331_18_0_5 c329_18_0_5x | (have q9 := c329_18_0_5x; constructor <;> omega)
                refine z_aload (pc := 140) C dX7_readPaper_140 rfl ?_
                refine z_iload (pc := 142) C dX7_readPaper_142 rfl ?_
                refine z_iload (pc := 144) C dX7_readPaper_144 rfl ?_
                refine z_iload (pc := 146) C dX7_readPaper_146 rfl ?_
                refine z_callV (pc := 148) C zk_X7_106 (x_X4_rule _ _ m328 h328x v257 b257x v290 (zB.wk (a' := 0) (b' := 99) bo290x (by decide) (by decide)) 0 (zB.wk (a' := 0) (b' := 7) (zB.of (x := 0) 0 (by decide)) (by decide) (by decide)) hI331) rfl rfl h328x rfl rfl (Nat.le_of_ble_eq_true rfl) dX7_readPaper_148 (fun r332 g332 q332 => ?_)
                have qa332_0 : (0 : Int32).toInt = 0 := by decide
                obtain ⟨rfl, hI332, hF332q, hp332_0⟩ := q332
                have hF332 := zFr.tr hF331 hF332q (by decide)
                simp only [Option.toList, List.cons_append, List.nil_append]
                have ek332_18_0_7 : (g332 18 0 7).toInt = (g331 18 0 7).toInt := by rw [hF332q 18 0 7 rfl]
                have c332_18_0_7x : zB (g332 18 0 7) (-1) (-1) := by first | exact zB.eqv ek332_18_0_7 c331_18_0_7x | (have q9 := c331_18_0_7x; constructor <;> omega)
                have ek332_18_0_5 : (g332 18 0 5).toInt = (g331 18 0 5).toInt := by rw [hF332q 18 0 5 rfl]
                have c332_18_0_5x : zB (g332 18 0 5) 0 11 := by first | exact zB.eqv ek332_18_0_5 c331_18_0_5x | (have q9 := c331_18_0_5x; constructor <;> omega)
                refine z_aload_n (pc := 151) C dX7_readPaper_151 rfl ?_
                refine z_dupr (pc := 152) C dX7_readPaper_152 ?_
                refine z_getI (pc := 153) C zf_X7_42 rfl rfl (by decide) dX7_readPaper_153 ?_
                refine w_gp (fun v => v = g332 18 0 5) rfl (fun v333 q333 => ?_)
                have e333 : v333.toInt = (g332 18 0 5).toInt := by rw [q333]
                have b333x : zB v333 0 11 := by first | exact zB.eqv e333 c332_18_0_5x | (have q9 := c332_18_0_5x; constructor <;> omega)
                refine z_iconst (pc := 156) (v := 1) C dX7_readPaper_156 (by decide) ?_
                refine z_iadd (pc := 157) C dX7_readPaper_157 ?_
                refine w_gp (fun v => v = v333 + (1 : Int32)) rfl (fun v334 q334 => ?_)
                have e334 : v334.toInt = v333.toInt + 1 := by rw [q334]; exact (zadd_eb b333x (zB.of (x := 1) 1 (by decide)) (by decide) (by decide))
                have b334x : zB v334 1 12 := by have q1 := b333x; have q2 := (zB.of (x := 1) 1 (by decide)); constructor <;> omega
                refine z_putI (pc := 158) C zf_X7_42 zp_7_5 rfl rfl (by decide) dX7_readPaper_158 ?_
                refine w_memx hI332 hF332 (zB.wk (a' := 0) (b' := 12) b334x (by decide) (by decide)) rfl (fun g335 qm335 hI335 hF335 hq335 hx335 => ?_)
                have ek335_18_0_7 : (g335 18 0 7).toInt = (g332 18 0 7).toInt := by rw [hq335 18 0 7 (by omega)]
                have c335_18_0_7x : zB (g335 18 0 7) (-1) (-1) := by first | exact zB.eqv ek335_18_0_7 c332_18_0_7x | (have q9 := c332_18_0_7x; constructor <;> omega)
                have ec335 : (g335 18 0 5).toInt = v334.toInt := by rw [hx335]
                have c335x : zB (g335 18 0 5) 1 12 := by first | exact zB.eqv ec335 b334x | (have q9 := b334x; constructor <;> omega)
                exact z_vret (pc := 161) C hr dX7_readPaper_161 ⟨rfl, hI335, hF335, (by
                                                                                          have hnn : m328 = 24 + (f 18 0 5).toInt.toNat := by omega
                                                                                          have hg1 := hp329_0
                                                                                          have hg2 := hp331_0
                                                                                          have hg3 := hp332_0
                                                                                          rw [hnn] at hg1 hg2 hg3
                                                                                          rw [hg1] at hg2
                                                                                          rw [hg2] at hg3
                                                                                          refine Or.inr ⟨_, zc8 (2 : Int32) a1 v1 (1 : Int32) 0 v257 v290 (0 : Int32), ?_, ?_, hb304, ?_, ?_, ?_, ?_⟩
                                                                                          · unfold zpaC zPa zbrC; simp only [zbd, zPb, hc1, if_neg hc75, hc223, hc257, if_pos hc289, hd290, if_neg hc304]
                                                                                          · rw [qm335, zup_ne _ _ (by omega), hg3]; exact hq304
                                                                                          · rw [qm335, zup_ne _ _ (by omega), hg3]; exact ft304
                                                                                          · rw [z32eq]
                                                                                            have e1 : (f 18 0 5 + 1 : Int32).toInt = (f 18 0 5).toInt + 1 := zadd_eb pf18_0_5 (zB.of (x := 1) 1 (by decide)) (by decide) (by decide)
                                                                                            omega
                                                                                          · intro j hj
                                                                                            rw [qm335, zup_ne _ _ (by omega), hg3]
                                                                                            rcases (show j = 0 ∨ j = 1 ∨ j = 2 ∨ j = 3 ∨ j = 4 ∨ j = 5 ∨ j = 6 ∨ j = 7 by omega) with rfl | rfl | rfl | rfl | rfl | rfl | rfl | rfl <;> simp [zup, zc8]
                                                                                          · intro x j hj hx
                                                                                            rw [qm335, zup_ne _ _ (by omega), hg3, zup_ne _ _ (by omega), zup_ne _ _ (by omega), zup_ne _ _ (by omega), zup_ne _ _ (by omega), zup_ne _ _ (by omega), zup_ne _ _ (by omega), zup_ne _ _ (by omega), zup_ne _ _ (by omega)]
                                                                                            exact kk11_304 x j)⟩
          · skip
            have hb289 : zsp T n (u257) ≤ n := zsp_len hb257
            refine z_if_eq (pc := 53) 66 C dX7_readPaper_53 (by decide) (fun _ => ?_) (fun h => absurd (by decide) h)
            refine z_iconst (pc := 66) (v := 0) C dX7_readPaper_66 (by decide) ?_
            refine z_istore (pc := 67) C dX7_readPaper_67 (by rw [hn]; decide) rfl ?_
            refine z_aload_n (pc := 69) C dX7_readPaper_69 rfl ?_
            refine z_bipush (pc := 70) (v := 43) C dX7_readPaper_70 (by decide) ?_
            refine z_callV (pc := 72) C zk_X7_48 (e_X7_takes _ _ 43 (zB.wk (a' := 1) (b' := 126) (zB.of (x := 43) 43 (by decide)) (by decide) (by decide)) T n (zsp T n (u257)) hN h18289 hTp289 hq289 hb289 hI289) rfl rfl (by decide) rfl rfl (Nat.le_of_ble_eq_true rfl) dX7_readPaper_72 (fun r336 g336 q336 => ?_)
            obtain ⟨⟨v336, rfl, b336x⟩, hI336, hF336q, hp336⟩ := q336
            have hp336 := hp336 _ rfl
            have hF336 := zFr.tr hF289 hF336q (by decide)
            simp only [Option.toList, List.cons_append, List.nil_append]
            have ek336_18_0_7 : (g336 18 0 7).toInt = (g289 18 0 7).toInt := by rw [hF336q 18 0 7 rfl]
            have c336_18_0_7x : zB (g336 18 0 7) (-1) (-1) := by first | exact zB.eqv ek336_18_0_7 c289_18_0_7x | (have q9 := c289_18_0_7x; constructor <;> omega)
            have ek336_18_0_5 : (g336 18 0 5).toInt = (g289 18 0 5).toInt := by rw [hF336q 18 0 5 rfl]
            have c336_18_0_5x : zB (g336 18 0 5) 0 11 := by first | exact zB.eqv ek336_18_0_5 c289_18_0_5x | (have q9 := c289_18_0_5x; constructor <;> omega)
            have h18336 : g336 18 0 3 = nI n := (hF336q 18 0 3 rfl).trans h18289
            have hTp336 : ∀ i, i < n → g336 19 0 i = T i := fun i hi => (hF336q 19 0 i rfl).trans (hTp289 i hi)
            have ft336 : g336 18 0 7 = -1 := (hF336q 18 0 7 rfl).trans ft289
            have kk11_336 : ∀ x j, g336 11 x j = f 11 x j := fun x j => (hF336q 11 x j rfl).trans (kk11_289 x j)
            rcases hp336 with ⟨hc336, rfl, hq336, hb336⟩ | ⟨hc336, rfl, hq336⟩
            · skip
              refine z_if_eq (pc := 75) 85 C dX7_readPaper_75 (by decide) (fun h => absurd h (by decide)) (fun _ => ?_)
              refine z_aload_n (pc := 78) C dX7_readPaper_78 rfl ?_
              refine z_callVS (pc := 79) C hT zk_X7_95 (e_X7_readPromises _ _   T n (zsp T n (zsp T n (u257)) + 1) hN h18336 hTp336 hq336 hb336 ft336 hI336) rfl rfl (by decide) rfl rfl (Nat.le_of_ble_eq_true rfl) dX7_readPaper_79 (fun r337 g337 q337 => ?_)
              obtain ⟨⟨v337, rfl, b337x⟩, hI337, hF337q, hp337⟩ := q337
              have hp337 := hp337 _ rfl
              have hF337 := zFr.tr hF336 hF337q (by decide)
              simp only [Option.toList, List.cons_append, List.nil_append]
              have cr337_18_0_7 : zB (g337 18 0 7) (-1) 120 := hI337 18 0 7
              have ek337_18_0_5 : (g337 18 0 5).toInt = (g336 18 0 5).toInt := by rw [hF337q 18 0 5 rfl]
              have c337_18_0_5x : zB (g337 18 0 5) 0 11 := by first | exact zB.eqv ek337_18_0_5 c336_18_0_5x | (have q9 := c336_18_0_5x; constructor <;> omega)
              rcases hp337 with ⟨u337, hc337, hb337, hz337⟩ | ⟨u337, hc337, hq337, hb337, ft337⟩
              · skip
                have kk11_337 : ∀ x j, g337 11 x j = f 11 x j := fun x j => (hF337q 11 x j rfl).trans (kk11_336 x j)
                have hzi337 : (g337 18 0 7).toInt = (u337 : Int) := by rw [hz337]; exact nI_toInt (by omega)
                have c338x : zB (g337 18 0 7) 0 120 := by first | assumption | (constructor <;> omega)
                refine z_goto (pc := 82) 86 C dX7_readPaper_82 (by decide) ?_
                refine z_istore (pc := 86) C dX7_readPaper_86 (by rw [hn]; decide) rfl ?_
                refine z_aload_n (pc := 88) C dX7_readPaper_88 rfl ?_
                refine z_getI (pc := 89) C zf_X7_36 rfl rfl (by decide) dX7_readPaper_89 ?_
                refine w_gp (fun v => v = g337 18 0 7) rfl (fun v339 q339 => ?_)
                have e339 : v339.toInt = (g337 18 0 7).toInt := by rw [q339]
                have b339x : zB v339 0 120 := by first | exact zB.eqv e339 c338x | (have q9 := c338x; constructor <;> omega)
                refine z_iconst (pc := 92) (v := -1) C dX7_readPaper_92 (by decide) ?_
                refine z_icmp_ne (pc := 93) 161 C dX7_readPaper_93 (by decide) (fun h93_339 => ?_) (fun h93_339 => absurd h93_339 (by have q1 := b339x; have q2 := (zB.of (x := (-1)) (-1) (by decide)); first | (simp only [z32lt, z32le, z32eq]; omega) | (simp only [z32lt, z32le, z32eq] at *; omega)))
                exact z_vret (pc := 161) C hr dX7_readPaper_161 ⟨rfl, hI337, hF337, (by
                                                                                          refine Or.inl ⟨u337, ?_, hb337, ?_, (fun x j => kk11_337 x j)⟩
                                                                                          · unfold zpaC zPa zbrC; simp only [zbd, zPb, hc1, if_neg hc75, hc223, hc257, if_neg hc289, if_pos hc336, hc337]
                                                                                          · rw [z32eq, nI_toInt (by omega)]
                                                                                            omega)⟩
              · skip
                have h18337 : g337 18 0 3 = nI n := (hF337q 18 0 3 rfl).trans h18336
                have hTp337 : ∀ i, i < n → g337 19 0 i = T i := fun i hi => (hF337q 19 0 i rfl).trans (hTp336 i hi)
                have kk11_337 : ∀ x j, g337 11 x j = f 11 x j := fun x j => (hF337q 11 x j rfl).trans (kk11_336 x j)
                have fti337 : (g337 18 0 7).toInt = -1 := by rw [ft337]; decide
                have c341x : zB (g337 18 0 7) (-1) (-1) := by first | assumption | (constructor <;> omega)
                refine z_goto (pc := 82) 86 C dX7_readPaper_82 (by decide) ?_
                refine z_istore (pc := 86) C dX7_readPaper_86 (by rw [hn]; decide) rfl ?_
                refine z_aload_n (pc := 88) C dX7_readPaper_88 rfl ?_
                refine z_getI (pc := 89) C zf_X7_36 rfl rfl (by decide) dX7_readPaper_89 ?_
                refine w_gp (fun v => v = g337 18 0 7) rfl (fun v342 q342 => ?_)
                have e342 : v342.toInt = (g337 18 0 7).toInt := by rw [q342]
                have b342x : zB v342 (-1) (-1) := by first | exact zB.eqv e342 c341x | (have q9 := c341x; constructor <;> omega)
                refine z_iconst (pc := 92) (v := -1) C dX7_readPaper_92 (by decide) ?_
                refine z_icmp_ne (pc := 93) 161 C dX7_readPaper_93 (by decide) (fun h93_342 => absurd h93_342 (by have q1 := b342x; have q2 := (zB.of (x := (-1)) (-1) (by decide)); first | (simp only [z32lt, z32le, z32eq]; omega) | (simp only [z32lt, z32le, z32eq] at *; omega))) (fun h93_342 => ?_)
                refine z_aload_n (pc := 96) C dX7_readPaper_96 rfl ?_
                refine z_getI (pc := 97) C zf_X7_42 rfl rfl (by decide) dX7_readPaper_97 ?_
                refine w_gp (fun v => v = g337 18 0 5) rfl (fun v344 q344 => ?_)
                have e344 : v344.toInt = (g337 18 0 5).toInt := by rw [q344]
                have b344x : zB v344 0 11 := by first | exact zB.eqv e344 c337_18_0_5x | (have q9 := c337_18_0_5x; constructor <;> omega)
                refine z_bipush (pc := 100) (v := 12) C dX7_readPaper_100 (by decide) ?_
                refine z_icmp_ge (pc := 102) 161 C dX7_readPaper_102 (by decide) (fun h102_344 => absurd h102_344 (by have q1 := b344x; have q2 := (zB.of (x := 12) 12 (by decide)); first | (simp only [z32lt, z32le, z32eq]; omega) | (simp only [z32lt, z32le, z32eq] at *; omega))) (fun h102_344 => ?_)
                refine z_aload_n (pc := 105) C dX7_readPaper_105 rfl ?_
                refine z_getR (pc := 106) C zf_X7_23 rfl rfl (by decide) dX7_readPaper_106 ?_
                refine z_aload_n (pc := 109) C dX7_readPaper_109 rfl ?_
                refine z_getI (pc := 110) C zf_X7_42 rfl rfl (by decide) dX7_readPaper_110 ?_
                refine w_gp (fun v => v = g337 18 0 5) rfl (fun v346 q346 => ?_)
                have e346 : v346.toInt = (g337 18 0 5).toInt := by rw [q346]
                have b346x : zB v346 0 11 := by first | exact zB.eqv e346 c337_18_0_5x | (have q9 := c337_18_0_5x; constructor <;> omega)
                refine z_aald (pc := 113) C rfl ⟨rfl, by decide⟩ (by decide) (zIx b346x (by decide) (by decide)) dX7_readPaper_113 ?_
                refine w_grx (by have hq := zN b346x (by decide); show 24 + v346.toNatClampNeg < 36; omega) (fun m347 q347r h347x => ?_)
                have q347r : m347 = 24 + v346.toNatClampNeg := q347r
                have k347r : v346.toNatClampNeg = v346.toInt.toNat := rfl
                refine z_astore (pc := 114) C dX7_readPaper_114 (by rw [hn]; decide) rfl ?_
                refine z_aload (pc := 116) C dX7_readPaper_116 rfl ?_
                refine z_iload_n (pc := 118) C dX7_readPaper_118 rfl ?_
                refine z_iload_n (pc := 119) C dX7_readPaper_119 rfl ?_
                refine z_callV (pc := 120) C zk_X7_98 (x_X4_lead _ _ m347 h347x a1 b1 v1 b1x hI337) rfl rfl h347x rfl rfl (Nat.le_of_ble_eq_true rfl) dX7_readPaper_120 (fun r348 g348 q348 => ?_)
                obtain ⟨rfl, hI348, hF348q, hp348_0⟩ := q348
                have hF348 := zFr.tr hF337 hF348q (by decide)
                simp only [Option.toList, List.cons_append, List.nil_append]
                have ek348_18_0_7 : (g348 18 0 7).toInt = (g337 18 0 7).toInt := by rw [hF348q 18 0 7 rfl]
                have c348_18_0_7x : zB (g348 18 0 7) (-1) (-1) := by first | exact zB.eqv ek348_18_0_7 c341x | (have q9 := c341x; constructor <;> omega)
                have ek348_18_0_5 : (g348 18 0 5).toInt = (g337 18 0 5).toInt := by rw [hF348q 18 0 5 rfl]
                have c348_18_0_5x : zB (g348 18 0 5) 0 11 := by first | exact zB.eqv ek348_18_0_5 c337_18_0_5x | (have q9 := c337_18_0_5x; constructor <;> omega)
                refine z_aload (pc := 123) C dX7_readPaper_123 rfl ?_
                refine z_iload_n (pc := 125) C dX7_readPaper_125 rfl ?_
                refine z_if_eq (pc := 126) 133 C dX7_readPaper_126 (by decide) (fun h126_348 => ?_) (fun h126_348 => absurd h126_348 (by decide))
                refine z_iconst (pc := 133) (v := 2) C dX7_readPaper_133 (by decide) ?_
                refine z_iload (pc := 134) C dX7_readPaper_134 rfl ?_
                refine z_iconst (pc := 136) (v := 0) C dX7_readPaper_136 (by decide) ?_
                refine z_callV (pc := 137) C zk_X7_102 (x_X4_become _ _ m347 h347x 2 (zB.wk (a' := 0) (b' := 2) (zB.of (x := 2) 2 (by decide)) (by decide) (by decide)) 1 (zB.wk (a' := 0) (b' := 40) (zB.of (x := 1) 1 (by decide)) (by decide) (by decide)) 0 (zB.wk (a' := (-2147483648)) (b' := 2147483647) (zB.of (x := 0) 0 (by decide)) (by decide) (by decide)) hI348) rfl rfl h347x rfl rfl (Nat.le_of_ble_eq_true rfl) dX7_readPaper_137 (fun r350 g350 q350 => ?_)
                have qa350_0 : (0 : Int32).toInt = 0 := by decide
                have qa350_1 : (1 : Int32).toInt = 1 := by decide
                have qa350_2 : (2 : Int32).toInt = 2 := by decide
                obtain ⟨rfl, hI350, hF350q, hp350_0⟩ := q350
                have hF350 := zFr.tr hF348 hF350q (by decide)
                simp only [Option.toList, List.cons_append, List.nil_append]
                have ek350_18_0_7 : (g350 18 0 7).toInt = (g348 18 0 7).toInt := by rw [hF350q 18 0 7 rfl]
                have c350_18_0_7x : zB (g350 18 0 7) (-1) (-1) := by first | exact zB.eqv ek350_18_0_7 c348_18_0_7x | (have q9 := c348_18_0_7x; constructor <;> omega)
                have ek350_18_0_5 : (g350 18 0 5).toInt = (g348 18 0 5).toInt := by rw [hF350q 18 0 5 rfl]
                have c350_18_0_5x : zB (g350 18 0 5) 0 11 := by first | exact zB.eqv ek350_18_0_5 c348_18_0_5x | (have q9 := c348_18_0_5x; constructor <;> omega)
                refine z_aload (pc := 140) C dX7_readPaper_140 rfl ?_
                refine z_iload (pc := 142) C dX7_readPaper_142 rfl ?_
                refine z_iload (pc := 144) C dX7_readPaper_144 rfl ?_
                refine z_iload (pc := 146) C dX7_readPaper_146 rfl ?_
                refine z_callV (pc := 148) C zk_X7_106 (x_X4_rule _ _ m347 h347x v257 b257x 0 (zB.wk (a' := 0) (b' := 99) (zB.of (x := 0) 0 (by decide)) (by decide) (by decide)) v337 b337x hI350) rfl rfl h347x rfl rfl (Nat.le_of_ble_eq_true rfl) dX7_readPaper_148 (fun r351 g351 q351 => ?_)
                have qa351_0 : (0 : Int32).toInt = 0 := by decide
                obtain ⟨rfl, hI351, hF351q, hp351_0⟩ := q351
                have hF351 := zFr.tr hF350 hF351q (by decide)
                simp only [Option.toList, List.cons_append, List.nil_append]
                have ek351_18_0_7 : (g351 18 0 7).toInt = (g350 18 0 7).toInt := by rw [hF351q 18 0 7 rfl]
                have c351_18_0_7x : zB (g351 18 0 7) (-1) (-1) := by first | exact zB.eqv ek351_18_0_7 c350_18_0_7x | (have q9 := c350_18_0_7x; constructor <;> omega)
                have ek351_18_0_5 : (g351 18 0 5).toInt = (g350 18 0 5).toInt := by rw [hF351q 18 0 5 rfl]
                have c351_18_0_5x : zB (g351 18 0 5) 0 11 := by first | exact zB.eqv ek351_18_0_5 c350_18_0_5x | (have q9 := c350_18_0_5x; constructor <;> omega)
                refine z_aload_n (pc := 151) C dX7_readPaper_151 rfl ?_
                refine z_dupr (pc := 152) C dX7_readPaper_152 ?_
                refine z_getI (pc := 153) C zf_X7_42 rfl rfl (by decide) dX7_readPaper_153 ?_
                refine w_gp (fun v => v = g351 18 0 5) rfl (fun v352 q352 => ?_)
                have e352 : v352.toInt = (g351 18 0 5).toInt := by rw [q352]
                have b352x : zB v352 0 11 := by first | exact zB.eqv e352 c351_18_0_5x | (have q9 := c351_18_0_5x; constructor <;> omega)
                refine z_iconst (pc := 156) (v := 1) C dX7_readPaper_156 (by decide) ?_
                refine z_iadd (pc := 157) C dX7_readPaper_157 ?_
                refine w_gp (fun v => v = v352 + (1 : Int32)) rfl (fun v353 q353 => ?_)
                have e353 : v353.toInt = v352.toInt + 1 := by rw [q353]; exact (zadd_eb b352x (zB.of (x := 1) 1 (by decide)) (by decide) (by decide))
                have b353x : zB v353 1 12 := by have q1 := b352x; have q2 := (zB.of (x := 1) 1 (by decide)); constructor <;> omega
                refine z_putI (pc := 158) C zf_X7_42 zp_7_5 rfl rfl (by decide) dX7_readPaper_158 ?_
                refine w_memx hI351 hF351 (zB.wk (a' := 0) (b' := 12) b353x (by decide) (by decide)) rfl (fun g354 qm354 hI354 hF354 hq354 hx354 => ?_)
                have ek354_18_0_7 : (g354 18 0 7).toInt = (g351 18 0 7).toInt := by rw [hq354 18 0 7 (by omega)]
                have c354_18_0_7x : zB (g354 18 0 7) (-1) (-1) := by first | exact zB.eqv ek354_18_0_7 c351_18_0_7x | (have q9 := c351_18_0_7x; constructor <;> omega)
                have ec354 : (g354 18 0 5).toInt = v353.toInt := by rw [hx354]
                have c354x : zB (g354 18 0 5) 1 12 := by first | exact zB.eqv ec354 b353x | (have q9 := b353x; constructor <;> omega)
                exact z_vret (pc := 161) C hr dX7_readPaper_161 ⟨rfl, hI354, hF354, (by
                                                                                          have hnn : m347 = 24 + (f 18 0 5).toInt.toNat := by omega
                                                                                          have hg1 := hp348_0
                                                                                          have hg2 := hp350_0
                                                                                          have hg3 := hp351_0
                                                                                          rw [hnn] at hg1 hg2 hg3
                                                                                          rw [hg1] at hg2
                                                                                          rw [hg2] at hg3
                                                                                          refine Or.inr ⟨_, zc8 (2 : Int32) a1 v1 (1 : Int32) 0 v257 (0 : Int32) v337, ?_, ?_, hb337, ?_, ?_, ?_, ?_⟩
                                                                                          · unfold zpaC zPa zbrC; simp only [zbd, zPb, hc1, if_neg hc75, hc223, hc257, if_neg hc289, if_pos hc336, hc337]
                                                                                          · rw [qm354, zup_ne _ _ (by omega), hg3]; exact hq337
                                                                                          · rw [qm354, zup_ne _ _ (by omega), hg3]; exact ft337
                                                                                          · rw [z32eq]
                                                                                            have e1 : (f 18 0 5 + 1 : Int32).toInt = (f 18 0 5).toInt + 1 := zadd_eb pf18_0_5 (zB.of (x := 1) 1 (by decide)) (by decide) (by decide)
                                                                                            omega
                                                                                          · intro j hj
                                                                                            rw [qm354, zup_ne _ _ (by omega), hg3]
                                                                                            rcases (show j = 0 ∨ j = 1 ∨ j = 2 ∨ j = 3 ∨ j = 4 ∨ j = 5 ∨ j = 6 ∨ j = 7 by omega) with rfl | rfl | rfl | rfl | rfl | rfl | rfl | rfl <;> simp [zup, zc8]
                                                                                          · intro x j hj hx
                                                                                            rw [qm354, zup_ne _ _ (by omega), hg3, zup_ne _ _ (by omega), zup_ne _ _ (by omega), zup_ne _ _ (by omega), zup_ne _ _ (by omega), zup_ne _ _ (by omega), zup_ne _ _ (by omega), zup_ne _ _ (by omega), zup_ne _ _ (by omega)]
                                                                                            exact kk11_337 x j)⟩
            · skip
              have hb336 : zsp T n (zsp T n (u257)) ≤ n := zsp_len hb289
              refine z_if_eq (pc := 75) 85 C dX7_readPaper_75 (by decide) (fun _ => ?_) (fun h => absurd (by decide) h)
              refine z_iconst (pc := 85) (v := 0) C dX7_readPaper_85 (by decide) ?_
              refine z_istore (pc := 86) C dX7_readPaper_86 (by rw [hn]; decide) rfl ?_
              refine z_aload_n (pc := 88) C dX7_readPaper_88 rfl ?_
              refine z_getI (pc := 89) C zf_X7_36 rfl rfl (by decide) dX7_readPaper_89 ?_
              refine w_gp (fun v => v = g336 18 0 7) rfl (fun v355 q355 => ?_)
              have e355 : v355.toInt = (g336 18 0 7).toInt := by rw [q355]
              have b355x : zB v355 (-1) (-1) := by first | exact zB.eqv e355 c336_18_0_7x | (have q9 := c336_18_0_7x; constructor <;> omega)
              refine z_iconst (pc := 92) (v := -1) C dX7_readPaper_92 (by decide) ?_
              refine z_icmp_ne (pc := 93) 161 C dX7_readPaper_93 (by decide) (fun h93_355 => absurd h93_355 (by have q1 := b355x; have q2 := (zB.of (x := (-1)) (-1) (by decide)); first | (simp only [z32lt, z32le, z32eq]; omega) | (simp only [z32lt, z32le, z32eq] at *; omega))) (fun h93_355 => ?_)
              refine z_aload_n (pc := 96) C dX7_readPaper_96 rfl ?_
              refine z_getI (pc := 97) C zf_X7_42 rfl rfl (by decide) dX7_readPaper_97 ?_
              refine w_gp (fun v => v = g336 18 0 5) rfl (fun v357 q357 => ?_)
              have e357 : v357.toInt = (g336 18 0 5).toInt := by rw [q357]
              have b357x : zB v357 0 11 := by first | exact zB.eqv e357 c336_18_0_5x | (have q9 := c336_18_0_5x; constructor <;> omega)
              refine z_bipush (pc := 100) (v := 12) C dX7_readPaper_100 (by decide) ?_
              refine z_icmp_ge (pc := 102) 161 C dX7_readPaper_102 (by decide) (fun h102_357 => absurd h102_357 (by have q1 := b357x; have q2 := (zB.of (x := 12) 12 (by decide)); first | (simp only [z32lt, z32le, z32eq]; omega) | (simp only [z32lt, z32le, z32eq] at *; omega))) (fun h102_357 => ?_)
              refine z_aload_n (pc := 105) C dX7_readPaper_105 rfl ?_
              refine z_getR (pc := 106) C zf_X7_23 rfl rfl (by decide) dX7_readPaper_106 ?_
              refine z_aload_n (pc := 109) C dX7_readPaper_109 rfl ?_
              refine z_getI (pc := 110) C zf_X7_42 rfl rfl (by decide) dX7_readPaper_110 ?_
              refine w_gp (fun v => v = g336 18 0 5) rfl (fun v359 q359 => ?_)
              have e359 : v359.toInt = (g336 18 0 5).toInt := by rw [q359]
              have b359x : zB v359 0 11 := by first | exact zB.eqv e359 c336_18_0_5x | (have q9 := c336_18_0_5x; constructor <;> omega)
              refine z_aald (pc := 113) C rfl ⟨rfl, by decide⟩ (by decide) (zIx b359x (by decide) (by decide)) dX7_readPaper_113 ?_
              refine w_grx (by have hq := zN b359x (by decide); show 24 + v359.toNatClampNeg < 36; omega) (fun m360 q360r h360x => ?_)
              have q360r : m360 = 24 + v359.toNatClampNeg := q360r
              have k360r : v359.toNatClampNeg = v359.toInt.toNat := rfl
              refine z_astore (pc := 114) C dX7_readPaper_114 (by rw [hn]; decide) rfl ?_
              refine z_aload (pc := 116) C dX7_readPaper_116 rfl ?_
              refine z_iload_n (pc := 118) C dX7_readPaper_118 rfl ?_
              refine z_iload_n (pc := 119) C dX7_readPaper_119 rfl ?_
              refine z_callV (pc := 120) C zk_X7_98 (x_X4_lead _ _ m360 h360x a1 b1 v1 b1x hI336) rfl rfl h360x rfl rfl (Nat.le_of_ble_eq_true rfl) dX7_readPaper_120 (fun r361 g361 q361 => ?_)
              obtain ⟨rfl, hI361, hF361q, hp361_0⟩ := q361
              have hF361 := zFr.tr hF336 hF361q (by decide)
              simp only [Option.toList, List.cons_append, List.nil_append]
              have ek361_18_0_7 : (g361 18 0 7).toInt = (g336 18 0 7).toInt := by rw [hF361q 18 0 7 rfl]
              have c361_18_0_7x : zB (g361 18 0 7) (-1) (-1) := by first | exact zB.eqv ek361_18_0_7 c336_18_0_7x | (have q9 := c336_18_0_7x; constructor <;> omega)
              have ek361_18_0_5 : (g361 18 0 5).toInt = (g336 18 0 5).toInt := by rw [hF361q 18 0 5 rfl]
              have c361_18_0_5x : zB (g361 18 0 5) 0 11 := by first | exact zB.eqv ek361_18_0_5 c336_18_0_5x | (have q9 := c336_18_0_5x; constructor <;> omega)
              refine z_aload (pc := 123) C dX7_readPaper_123 rfl ?_
              refine z_iload_n (pc := 125) C dX7_readPaper_125 rfl ?_
              refine z_if_eq (pc := 126) 133 C dX7_readPaper_126 (by decide) (fun h126_361 => ?_) (fun h126_361 => absurd h126_361 (by decide))
              refine z_iconst (pc := 133) (v := 2) C dX7_readPaper_133 (by decide) ?_
              refine z_iload (pc := 134) C dX7_readPaper_134 rfl ?_
              refine z_iconst (pc := 136) (v := 0) C dX7_readPaper_136 (by decide) ?_
              refine z_callV (pc := 137) C zk_X7_102 (x_X4_become _ _ m360 h360x 2 (zB.wk (a' := 0) (b' := 2) (zB.of (x := 2) 2 (by decide)) (by decide) (by decide)) 1 (zB.wk (a' := 0) (b' := 40) (zB.of (x := 1) 1 (by decide)) (by decide) (by decide)) 0 (zB.wk (a' := (-2147483648)) (b' := 2147483647) (zB.of (x := 0) 0 (by decide)) (by decide) (by decide)) hI361) rfl rfl h360x rfl rfl (Nat.le_of_ble_eq_true rfl) dX7_readPaper_137 (fun r363 g363 q363 => ?_)
              have qa363_0 : (0 : Int32).toInt = 0 := by decide
              have qa363_1 : (1 : Int32).toInt = 1 := by decide
              have qa363_2 : (2 : Int32).toInt = 2 := by decide
              obtain ⟨rfl, hI363, hF363q, hp363_0⟩ := q363
              have hF363 := zFr.tr hF361 hF363q (by decide)
              simp only [Option.toList, List.cons_append, List.nil_append]
              have ek363_18_0_7 : (g363 18 0 7).toInt = (g361 18 0 7).toInt := by rw [hF363q 18 0 7 rfl]
              have c363_18_0_7x : zB (g363 18 0 7) (-1) (-1) := by first | exact zB.eqv ek363_18_0_7 c361_18_0_7x | (have q9 := c361_18_0_7x; constructor <;> omega)
              have ek363_18_0_5 : (g363 18 0 5).toInt = (g361 18 0 5).toInt := by rw [hF363q 18 0 5 rfl]
              have c363_18_0_5x : zB (g363 18 0 5) 0 11 := by first | exact zB.eqv ek363_18_0_5 c361_18_0_5x | (have q9 := c361_18_0_5x; constructor <;> omega)
              refine z_aload (pc := 140) C dX7_readPaper_140 rfl ?_
              refine z_iload (pc := 142) C dX7_readPaper_142 rfl ?_
              refine z_iload (pc := 144) C dX7_readPaper_144 rfl ?_
              refine z_iload (pc := 146) C dX7_readPaper_146 rfl ?_
              refine z_callV (pc := 148) C zk_X7_106 (x_X4_rule _ _ m360 h360x v257 b257x 0 (zB.wk (a' := 0) (b' := 99) (zB.of (x := 0) 0 (by decide)) (by decide) (by decide)) 0 (zB.wk (a' := 0) (b' := 7) (zB.of (x := 0) 0 (by decide)) (by decide) (by decide)) hI363) rfl rfl h360x rfl rfl (Nat.le_of_ble_eq_true rfl) dX7_readPaper_148 (fun r364 g364 q364 => ?_)
              have qa364_0 : (0 : Int32).toInt = 0 := by decide
              obtain ⟨rfl, hI364, hF364q, hp364_0⟩ := q364
              have hF364 := zFr.tr hF363 hF364q (by decide)
              simp only [Option.toList, List.cons_append, List.nil_append]
              have ek364_18_0_7 : (g364 18 0 7).toInt = (g363 18 0 7).toInt := by rw [hF364q 18 0 7 rfl]
              have c364_18_0_7x : zB (g364 18 0 7) (-1) (-1) := by first | exact zB.eqv ek364_18_0_7 c363_18_0_7x | (have q9 := c363_18_0_7x; constructor <;> omega)
              have ek364_18_0_5 : (g364 18 0 5).toInt = (g363 18 0 5).toInt := by rw [hF364q 18 0 5 rfl]
              have c364_18_0_5x : zB (g364 18 0 5) 0 11 := by first | exact zB.eqv ek364_18_0_5 c363_18_0_5x | (have q9 := c363_18_0_5x; constructor <;> omega)
              refine z_aload_n (pc := 151) C dX7_readPaper_151 rfl ?_
              refine z_dupr (pc := 152) C dX7_readPaper_152 ?_
              refine z_getI (pc := 153) C zf_X7_42 rfl rfl (by decide) dX7_readPaper_153 ?_
              refine w_gp (fun v => v = g364 18 0 5) rfl (fun v365 q365 => ?_)
              have e365 : v365.toInt = (g364 18 0 5).toInt := by rw [q365]
              have b365x : zB v365 0 11 := by first | exact zB.eqv e365 c364_18_0_5x | (have q9 := c364_18_0_5x; constructor <;> omega)
              refine z_iconst (pc := 156) (v := 1) C dX7_readPaper_156 (by decide) ?_
              refine z_iadd (pc := 157) C dX7_readPaper_157 ?_
              refine w_gp (fun v => v = v365 + (1 : Int32)) rfl (fun v366 q366 => ?_)
              have e366 : v366.toInt = v365.toInt + 1 := by rw [q366]; exact (zadd_eb b365x (zB.of (x := 1) 1 (by decide)) (by decide) (by decide))
              have b366x : zB v366 1 12 := by have q1 := b365x; have q2 := (zB.of (x := 1) 1 (by decide)); constructor <;> omega
              refine z_putI (pc := 158) C zf_X7_42 zp_7_5 rfl rfl (by decide) dX7_readPaper_158 ?_
              refine w_memx hI364 hF364 (zB.wk (a' := 0) (b' := 12) b366x (by decide) (by decide)) rfl (fun g367 qm367 hI367 hF367 hq367 hx367 => ?_)
              have ek367_18_0_7 : (g367 18 0 7).toInt = (g364 18 0 7).toInt := by rw [hq367 18 0 7 (by omega)]
              have c367_18_0_7x : zB (g367 18 0 7) (-1) (-1) := by first | exact zB.eqv ek367_18_0_7 c364_18_0_7x | (have q9 := c364_18_0_7x; constructor <;> omega)
              have ec367 : (g367 18 0 5).toInt = v366.toInt := by rw [hx367]
              have c367x : zB (g367 18 0 5) 1 12 := by first | exact zB.eqv ec367 b366x | (have q9 := b366x; constructor <;> omega)
              exact z_vret (pc := 161) C hr dX7_readPaper_161 ⟨rfl, hI367, hF367, (by
                                                                                          have hnn : m360 = 24 + (f 18 0 5).toInt.toNat := by omega
                                                                                          have hg1 := hp361_0
                                                                                          have hg2 := hp363_0
                                                                                          have hg3 := hp364_0
                                                                                          rw [hnn] at hg1 hg2 hg3
                                                                                          rw [hg1] at hg2
                                                                                          rw [hg2] at hg3
                                                                                          refine Or.inr ⟨_, zc8 (2 : Int32) a1 v1 (1 : Int32) 0 v257 (0 : Int32) (0 : Int32), ?_, ?_, hb336, ?_, ?_, ?_, ?_⟩
                                                                                          · unfold zpaC zPa zbrC; simp only [zbd, zPb, hc1, if_neg hc75, hc223, hc257, if_neg hc289, if_neg hc336]
                                                                                          · rw [qm367, zup_ne _ _ (by omega), hg3]; exact hq336
                                                                                          · rw [qm367, zup_ne _ _ (by omega), hg3]; exact ft336
                                                                                          · rw [z32eq]
                                                                                            have e1 : (f 18 0 5 + 1 : Int32).toInt = (f 18 0 5).toInt + 1 := zadd_eb pf18_0_5 (zB.of (x := 1) 1 (by decide)) (by decide) (by decide)
                                                                                            omega
                                                                                          · intro j hj
                                                                                            rw [qm367, zup_ne _ _ (by omega), hg3]
                                                                                            rcases (show j = 0 ∨ j = 1 ∨ j = 2 ∨ j = 3 ∨ j = 4 ∨ j = 5 ∨ j = 6 ∨ j = 7 by omega) with rfl | rfl | rfl | rfl | rfl | rfl | rfl | rfl <;> simp [zup, zc8]
                                                                                          · intro x j hj hx
                                                                                            rw [qm367, zup_ne _ _ (by omega), hg3, zup_ne _ _ (by omega), zup_ne _ _ (by omega), zup_ne _ _ (by omega), zup_ne _ _ (by omega), zup_ne _ _ (by omega), zup_ne _ _ (by omega), zup_ne _ _ (by omega), zup_ne _ _ (by omega)]
                                                                                            exact kk11_336 x j)⟩
