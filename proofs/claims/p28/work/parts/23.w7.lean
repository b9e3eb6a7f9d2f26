set_option maxRecDepth 100000 in
set_option maxHeartbeats 4000000 in
theorem w_X10_ones (d : Nat) (f : zM) (a0 : Int32) (b0 : zB a0 0 63) (hI : zInv f) : ZM d yX10_ones cX10_ones 3 (some .int) [zi a0] f (fun r g => (∃ v, r = some (zi v) ∧ zB v 0 63) ∧ zInv g ∧ zFr [] f g) := by
  refine ZM.intro (by decide +kernel) (Nat.le_of_ble_eq_true rfl) ?_
  intro X C hr hn
  have hF : zFr [] f f := zFr.rf _ _
  have J : ∀ t : Nat, (∀ a4_1 : Int32, zB a4_1 0 63 → ∀ a4_2 : Int32, zB a4_2 0 63 → ∀ g : zM, zInv g → zFr [] f g → (a4_1.toInt + a4_2.toInt ≤ 63) → (0 + 3 * (a4_2.toInt - 0) : Int) < t → Z X 4 [some (zi a0), some (zi a4_1), some (zi a4_2)] [] g) := by
    intro t
    induction t with
    | zero =>
      intros; exfalso; omega
    | succ t ih =>
      have ih0 := ih
      intro a4_1 b4_1 a4_2 b4_2 g4_ hI4_ hF4_ hR4_0 hM4_
      refine z_iload_n (pc := 4) C dX10_ones_4 rfl ?_
      refine z_if_eq (pc := 5) 20 C dX10_ones_5 (by decide) (fun h5_0 => ?_) (fun h5_0 => ?_)
      · skip
        have b2x : zB a4_2 0 0 := by have q1 := b4_2; have q2 := (zB.of (x := 0) 0 (by decide)); simp only [z32lt, z32le, z32eq, Int32.reduceToInt, Int32.toInt_zero] at h5_0; constructor <;> omega
        refine z_iload_n (pc := 20) C dX10_ones_20 rfl ?_
        exact z_iret (pc := 21) C hr dX10_ones_21 ⟨⟨_, rfl, b4_1⟩, hI4_, hF4_⟩
      · skip
        have b3x : zB a4_2 1 63 := by have q1 := b4_2; have q2 := (zB.of (x := 0) 0 (by decide)); simp only [z32lt, z32le, z32eq, Int32.reduceToInt, Int32.toInt_zero] at h5_0; constructor <;> omega
        refine z_iinc (pc := 8) (v := 1) C dX10_ones_8 rfl (by decide) (by rw [hn]; decide) rfl ?_
        obtain ⟨v4, hv4, e4⟩ : ∃ v : Int32, v = a4_1 + 1 ∧ v.toInt = a4_1.toInt + 1 := ⟨_, rfl, zadd_eb b4_1 (zB.of (x := 1) 1 (by decide)) (by decide) (by decide)⟩
        rw [← hv4]
        have b4x : zB v4 1 64 := by have q9 := b4_1; constructor <;> omega
        refine z_iload_n (pc := 11) C dX10_ones_11 rfl ?_
        refine z_iload_n (pc := 12) C dX10_ones_12 rfl ?_
        refine z_iconst (pc := 13) (v := 1) C dX10_ones_13 (by decide) ?_
        refine z_isub (pc := 14) C dX10_ones_14 ?_
        refine w_gp (fun v => v.toInt = a4_2.toInt - 1) (zsub_eb b3x (zB.of (x := 1) 1 (by decide)) (by decide) (by decide)) (fun v5 e5 => ?_)
        have b5x : zB v5 0 62 := by have q1 := b3x; have q2 := (zB.of (x := 1) 1 (by decide)); constructor <;> omega
        refine z_iand (pc := 15) C dX10_ones_15 ?_
        refine w_gp (fun v => zB v 0 62 ∧ v.toInt ≤ v5.toInt) (zand_r b3x b5x (by decide)) (fun v6 e6 => ?_)
        have b6x := e6.1
        have r6 := e6.2
        refine z_istore_n (pc := 16) C dX10_ones_16 (by rw [hn]; decide) rfl ?_
        refine z_goto (pc := 17) 4 C dX10_ones_17 (by decide) ?_
        exact ih0 v4 (by constructor <;> omega) v6 (zB.wk (a' := 0) (b' := 63) b6x (by decide) (by decide)) g4_ hI4_ hF4_ (by omega) (by omega)
  have J0 := J 204
  show Z X 0 [some (zi a0), none, none] [] f
  refine z_iconst (pc := 0) (v := 0) C dX10_ones_0 (by decide) ?_
  refine z_istore_n (pc := 1) C dX10_ones_1 (by rw [hn]; decide) rfl ?_
  refine z_iload_n (pc := 2) C dX10_ones_2 rfl ?_
  refine z_istore_n (pc := 3) C dX10_ones_3 (by rw [hn]; decide) rfl ?_
  exact J0 0 (zB.wk (a' := 0) (b' := 63) (zB.of (x := 0) 0 (by decide)) (by decide) (by decide)) a0 b0 f hI hF (by have qc0 : (0 : Int32).toInt = 0 := (by decide); omega) (by have qc0 : (0 : Int32).toInt = 0 := (by decide); omega)

set_option maxRecDepth 100000 in
set_option maxHeartbeats 4000000 in
theorem w_X10_addCrime (d : Nat) (f : zM) (a1 : Int32) (b1 : zB a1 0 5) (a2 : Int32) (b2 : zB a2 0 63) (a3 : Int32) (b3 : zB a3 0 63) (a4 : Int32) (b4 : zB a4 0 40) (a5 : Int32) (b5 : zB a5 0 40) (a6 : Int32) (b6 : zB a6 0 1) (pf25_0_0 : zB (f 25 0 0) 0 23) (hI : zInv f) : ZM d yX10_addCrime cX10_addCrime 8 none [zr 25 0, zi a1, zi a2, zi a3, zi a4, zi a5, zi a6] f (fun r g => r = none ∧ zInv g ∧ zFr [(25, some 0), (26, none)] f g ∧ ((g 25 0 0).toInt = (f 25 0 0).toInt + 1)) := by
  refine ZM.intro (by decide +kernel) (Nat.le_of_ble_eq_true rfl) ?_
  intro X C hr hn
  have hF : zFr [(25, some 0), (26, none)] f f := zFr.rf _ _
  show Z X 0 [some (zr 25 0), some (zi a1), some (zi a2), some (zi a3), some (zi a4), some (zi a5), some (zi a6), none] [] f
  refine z_bipush (pc := 0) (v := 6) C dX10_addCrime_0 (by decide) ?_
  refine z_aload_n (pc := 2) C dX10_addCrime_2 rfl ?_
  refine z_getI (pc := 3) C zf_X10_80 rfl rfl (by decide) dX10_addCrime_3 ?_
  refine w_gp (fun v => v.toInt = (f 25 0 0).toInt) rfl (fun v1 e1 => ?_)
  have b1x : zB v1 0 23 := by have q9 : zB (f 25 0 0) 0 23 := pf25_0_0; constructor <;> omega
  refine z_imul (pc := 6) C dX10_addCrime_6 ?_
  refine w_gp (fun v => v.toInt = 6 * v1.toInt) (zmul_kb 6 (by decide) (by decide) b1x (by decide) (by decide)) (fun v2 e2 => ?_)
  have b2x : zB v2 0 138 := zmul_bb e2 (by decide) b1x
  refine z_istore (pc := 7) C dX10_addCrime_7 (by rw [hn]; decide) rfl ?_
  refine z_aload_n (pc := 9) C dX10_addCrime_9 rfl ?_
  refine z_getR (pc := 10) C zf_X10_7 rfl rfl (by decide) dX10_addCrime_10 ?_
  refine z_iload (pc := 13) C dX10_addCrime_13 rfl ?_
  refine z_iload_n (pc := 15) C dX10_addCrime_15 rfl ?_
  refine z_iast (pc := 16) C rfl (by decide) (zIx b2x (by decide) (by decide)) dX10_addCrime_16 ?_
  refine w_mem2 hI hF (by rw [zrg26 (r := 0) (by have hq : v2.toNatClampNeg = v2.toInt.toNat := rfl; have hq2 := b2x; omega)]; exact b1) rfl (fun g3 hI3 hF3 hq3 hx3 => ?_)
  have ek3_25_0_0 : (g3 25 0 0).toInt = (f 25 0 0).toInt := by rw [hq3 25 0 0 (by omega)]
  have c3_25_0_0x : zB (g3 25 0 0) 0 23 := by have q9 := pf25_0_0; constructor <;> omega
  refine z_aload_n (pc := 17) C dX10_addCrime_17 rfl ?_
  refine z_getR (pc := 18) C zf_X10_7 rfl rfl (by decide) dX10_addCrime_18 ?_
  refine z_iload (pc := 21) C dX10_addCrime_21 rfl ?_
  refine z_iconst (pc := 23) (v := 1) C dX10_addCrime_23 (by decide) ?_
  refine z_iadd (pc := 24) C dX10_addCrime_24 ?_
  refine w_gp (fun v => v.toInt = v2.toInt + 1) (zadd_eb b2x (zB.of (x := 1) 1 (by decide)) (by decide) (by decide)) (fun v4 e4 => ?_)
  have b4x : zB v4 1 139 := by have q1 := b2x; have q2 := (zB.of (x := 1) 1 (by decide)); constructor <;> omega
  refine z_iload_n (pc := 25) C dX10_addCrime_25 rfl ?_
  refine z_iast (pc := 26) C rfl (by decide) (zIx b4x (by decide) (by decide)) dX10_addCrime_26 ?_
  refine w_mem2 hI3 hF3 (by rw [zrg26 (r := 1) (by have hq : v4.toNatClampNeg = v4.toInt.toNat := rfl; have hq2 := b4x; omega)]; exact b2) rfl (fun g5 hI5 hF5 hq5 hx5 => ?_)
  have ek5_25_0_0 : (g5 25 0 0).toInt = (g3 25 0 0).toInt := by rw [hq5 25 0 0 (by omega)]
  have c5_25_0_0x : zB (g5 25 0 0) 0 23 := by have q9 := c3_25_0_0x; constructor <;> omega
  refine z_aload_n (pc := 27) C dX10_addCrime_27 rfl ?_
  refine z_getR (pc := 28) C zf_X10_7 rfl rfl (by decide) dX10_addCrime_28 ?_
  refine z_iload (pc := 31) C dX10_addCrime_31 rfl ?_
  refine z_iconst (pc := 33) (v := 2) C dX10_addCrime_33 (by decide) ?_
  refine z_iadd (pc := 34) C dX10_addCrime_34 ?_
  refine w_gp (fun v => v.toInt = v2.toInt + 2) (zadd_eb b2x (zB.of (x := 2) 2 (by decide)) (by decide) (by decide)) (fun v6 e6 => ?_)
  have b6x : zB v6 2 140 := by have q1 := b2x; have q2 := (zB.of (x := 2) 2 (by decide)); constructor <;> omega
  refine z_iload_n (pc := 35) C dX10_addCrime_35 rfl ?_
  refine z_iast (pc := 36) C rfl (by decide) (zIx b6x (by decide) (by decide)) dX10_addCrime_36 ?_
  refine w_mem2 hI5 hF5 (by rw [zrg26 (r := 2) (by have hq : v6.toNatClampNeg = v6.toInt.toNat := rfl; have hq2 := b6x; omega)]; exact b3) rfl (fun g7 hI7 hF7 hq7 hx7 => ?_)
  have ek7_25_0_0 : (g7 25 0 0).toInt = (g5 25 0 0).toInt := by rw [hq7 25 0 0 (by omega)]
  have c7_25_0_0x : zB (g7 25 0 0) 0 23 := by have q9 := c5_25_0_0x; constructor <;> omega
  refine z_aload_n (pc := 37) C dX10_addCrime_37 rfl ?_
  refine z_getR (pc := 38) C zf_X10_7 rfl rfl (by decide) dX10_addCrime_38 ?_
  refine z_iload (pc := 41) C dX10_addCrime_41 rfl ?_
  refine z_iconst (pc := 43) (v := 3) C dX10_addCrime_43 (by decide) ?_
  refine z_iadd (pc := 44) C dX10_addCrime_44 ?_
  refine w_gp (fun v => v.toInt = v2.toInt + 3) (zadd_eb b2x (zB.of (x := 3) 3 (by decide)) (by decide) (by decide)) (fun v8 e8 => ?_)
  have b8x : zB v8 3 141 := by have q1 := b2x; have q2 := (zB.of (x := 3) 3 (by decide)); constructor <;> omega
  refine z_iload (pc := 45) C dX10_addCrime_45 rfl ?_
  refine z_iast (pc := 47) C rfl (by decide) (zIx b8x (by decide) (by decide)) dX10_addCrime_47 ?_
  refine w_mem2 hI7 hF7 (by rw [zrg26 (r := 3) (by have hq : v8.toNatClampNeg = v8.toInt.toNat := rfl; have hq2 := b8x; omega)]; exact b4) rfl (fun g9 hI9 hF9 hq9 hx9 => ?_)
  have ek9_25_0_0 : (g9 25 0 0).toInt = (g7 25 0 0).toInt := by rw [hq9 25 0 0 (by omega)]
  have c9_25_0_0x : zB (g9 25 0 0) 0 23 := by have q9 := c7_25_0_0x; constructor <;> omega
  refine z_aload_n (pc := 48) C dX10_addCrime_48 rfl ?_
  refine z_getR (pc := 49) C zf_X10_7 rfl rfl (by decide) dX10_addCrime_49 ?_
  refine z_iload (pc := 52) C dX10_addCrime_52 rfl ?_
  refine z_iconst (pc := 54) (v := 4) C dX10_addCrime_54 (by decide) ?_
  refine z_iadd (pc := 55) C dX10_addCrime_55 ?_
  refine w_gp (fun v => v.toInt = v2.toInt + 4) (zadd_eb b2x (zB.of (x := 4) 4 (by decide)) (by decide) (by decide)) (fun v10 e10 => ?_)
  have b10x : zB v10 4 142 := by have q1 := b2x; have q2 := (zB.of (x := 4) 4 (by decide)); constructor <;> omega
  refine z_iload (pc := 56) C dX10_addCrime_56 rfl ?_
  refine z_iast (pc := 58) C rfl (by decide) (zIx b10x (by decide) (by decide)) dX10_addCrime_58 ?_
  refine w_mem2 hI9 hF9 (by rw [zrg26 (r := 4) (by have hq : v10.toNatClampNeg = v10.toInt.toNat := rfl; have hq2 := b10x; omega)]; exact b5) rfl (fun g11 hI11 hF11 hq11 hx11 => ?_)
  have ek11_25_0_0 : (g11 25 0 0).toInt = (g9 25 0 0).toInt := by rw [hq11 25 0 0 (by omega)]
  have c11_25_0_0x : zB (g11 25 0 0) 0 23 := by have q9 := c9_25_0_0x; constructor <;> omega
  refine z_aload_n (pc := 59) C dX10_addCrime_59 rfl ?_
  refine z_getR (pc := 60) C zf_X10_7 rfl rfl (by decide) dX10_addCrime_60 ?_
  refine z_iload (pc := 63) C dX10_addCrime_63 rfl ?_
  refine z_iconst (pc := 65) (v := 5) C dX10_addCrime_65 (by decide) ?_
  refine z_iadd (pc := 66) C dX10_addCrime_66 ?_
  refine w_gp (fun v => v.toInt = v2.toInt + 5) (zadd_eb b2x (zB.of (x := 5) 5 (by decide)) (by decide) (by decide)) (fun v12 e12 => ?_)
  have b12x : zB v12 5 143 := by have q1 := b2x; have q2 := (zB.of (x := 5) 5 (by decide)); constructor <;> omega
  refine z_iload (pc := 67) C dX10_addCrime_67 rfl ?_
  refine z_iast (pc := 69) C rfl (by decide) (zIx b12x (by decide) (by decide)) dX10_addCrime_69 ?_
  refine w_mem2 hI11 hF11 (by rw [zrg26 (r := 5) (by have hq : v12.toNatClampNeg = v12.toInt.toNat := rfl; have hq2 := b12x; omega)]; exact b6) rfl (fun g13 hI13 hF13 hq13 hx13 => ?_)
  have ek13_25_0_0 : (g13 25 0 0).toInt = (g11 25 0 0).toInt := by rw [hq13 25 0 0 (by omega)]
  have c13_25_0_0x : zB (g13 25 0 0) 0 23 := by have q9 := c11_25_0_0x; constructor <;> omega
  refine z_aload_n (pc := 70) C dX10_addCrime_70 rfl ?_
  refine z_dupr (pc := 71) C dX10_addCrime_71 ?_
  refine z_getI (pc := 72) C zf_X10_80 rfl rfl (by decide) dX10_addCrime_72 ?_
  refine w_gp (fun v => v.toInt = (g13 25 0 0).toInt) rfl (fun v14 e14 => ?_)
  have b14x : zB v14 0 23 := by have q9 : zB (g13 25 0 0) 0 23 := c13_25_0_0x; constructor <;> omega
  refine z_iconst (pc := 75) (v := 1) C dX10_addCrime_75 (by decide) ?_
  refine z_iadd (pc := 76) C dX10_addCrime_76 ?_
  refine w_gp (fun v => v.toInt = v14.toInt + 1) (zadd_eb b14x (zB.of (x := 1) 1 (by decide)) (by decide) (by decide)) (fun v15 e15 => ?_)
  have b15x : zB v15 1 24 := by have q1 := b14x; have q2 := (zB.of (x := 1) 1 (by decide)); constructor <;> omega
  refine z_putI (pc := 77) C zf_X10_80 zp_10_0 rfl rfl (by decide) dX10_addCrime_77 ?_
  refine w_mem2 hI13 hF13 (zB.wk (a' := 0) (b' := 24) b15x (by decide) (by decide)) rfl (fun g16 hI16 hF16 hq16 hx16 => ?_)
  have ec16 : (g16 25 0 0).toInt = v15.toInt := by rw [hx16]
  have c16x : zB (g16 25 0 0) 1 24 := by have q9 := b15x; constructor <;> omega
  exact z_vret (pc := 80) C hr dX10_addCrime_80 ⟨rfl, hI16, hF16, (by omega)⟩

set_option maxRecDepth 100000 in
set_option maxHeartbeats 4000000 in
theorem w_X10_crime (d : Nat) (f : zM) (a1 : Int32) (b1 : zB a1 (-2147483648) 2147483647) (a2 : Int32) (b2 : zB a2 (-2147483648) 2147483647) (a3 : Int32) (b3 : zB a3 (-2147483648) 2147483647) (a4 : Int32) (b4 : zB a4 (-2147483648) 2147483647) (a5 : Int32) (b5 : zB a5 (-2147483648) 2147483647) (a6 : Int32) (b6 : zB a6 0 1) (hI : zInv f) : ZM (d + 2) yX10_crime cX10_crime 7 (some .int) [zr 25 0, zi a1, zi a2, zi a3, zi a4, zi a5, zi a6] f (fun r g => (∃ v, r = some (zi v) ∧ zB v (-3) 23) ∧ zInv g ∧ zFr [(25, some 0), (26, none)] f g) := by
  refine ZM.intro (by decide +kernel) (Nat.le_of_ble_eq_true rfl) ?_
  intro X C hr hn
  have hF : zFr [(25, some 0), (26, none)] f f := zFr.rf _ _
  have ct25_0_0 : zB (f 25 0 0) 0 24 := hI 25 0 0
  have J : ∀ t : Nat, (∀ g : zM, zInv g → zFr [(25, some 0), (26, none)] f g → zB (g 25 0 0) 0 24 → (1 : Int) < t → Z X 63 [some (zr 25 0), some (zi a1), some (zi a2), some (zi a3), some (zi a4), some (zi a5), some (zi a6)] [] g) ∧ (zB a1 0 5 → zB a2 1 63 → zB a3 0 63 → zB a4 0 40 → zB a5 1 40 → ∀ a95_s1 : Int32, zB a95_s1 0 5 → ∀ a95_s2 : Int32, zB a95_s2 1 63 → ∀ a95_s3 : Int32, zB a95_s3 0 63 → ∀ a95_s4 : Int32, zB a95_s4 0 40 → ∀ a95_s5 : Int32, zB a95_s5 1 40 → ∀ a95_s6 : Int32, zB a95_s6 0 1 → ∀ g : zM, zInv g → zFr [(25, some 0), (26, none)] f g → zB (g 25 0 0) 0 23 → (0 : Int) < t → Z X 95 [some (zr 25 0), some (zi a1), some (zi a2), some (zi a3), some (zi a4), some (zi a5), some (zi a6)] [zi a95_s6, zi a95_s5, zi a95_s4, zi a95_s3, zi a95_s2, zi a95_s1, zr 25 0] g) := by
    intro t
    induction t with
    | zero =>
      refine ⟨?_, ?_⟩ <;> (intros; exfalso; omega)
    | succ t ih =>
      obtain ⟨ih0, ih1⟩ := ih
      refine ⟨?_, ?_⟩
      · skip
        intro g63_ hI63_ hF63_ f63_25_0_0 hM63_
        refine z_iconst (pc := 63) (v := -1) C dX10_crime_63 (by decide) ?_
        exact z_iret (pc := 64) C hr dX10_crime_64 ⟨⟨_, rfl, (zB.wk (a' := (-3)) (b' := 23) (zB.of (x := (-1)) (-1) (by decide)) (by decide) (by decide))⟩, hI63_, hF63_⟩
      · skip
        intro b95_1 b95_2 b95_3 b95_4 b95_5 a95_s1 b95_s1 a95_s2 b95_s2 a95_s3 b95_s3 a95_s4 b95_s4 a95_s5 b95_s5 a95_s6 b95_s6 g95_ hI95_ hF95_ f95_25_0_0 hM95_
        refine z_callV (pc := 95) C zk_X10_91 (w_X10_addCrime _ _ a95_s1 b95_s1 a95_s2 (zB.wk (a' := 0) (b' := 63) b95_s2 (by decide) (by decide)) a95_s3 b95_s3 a95_s4 b95_s4 a95_s5 (zB.wk (a' := 0) (b' := 40) b95_s5 (by decide) (by decide)) a95_s6 b95_s6 f95_25_0_0 hI95_) rfl rfl (by decide) rfl rfl (Nat.le_of_ble_eq_true rfl) dX10_crime_95 (fun r1 g1 q1 => ?_)
        obtain ⟨rfl, hI1, hF1q, hp1_0⟩ := q1
        have hF1 := zFr.tr hF95_ hF1q (by decide)
        simp only [Option.toList, List.cons_append, List.nil_append]
        have cr1_25_0_0 : zB (g1 25 0 0) 0 24 := hI1 25 0 0
        refine z_aload_n (pc := 98) C dX10_crime_98 rfl ?_
        refine z_getI (pc := 99) C zf_X10_80 rfl rfl (by decide) dX10_crime_99 ?_
        refine w_gp (fun v => v.toInt = (g1 25 0 0).toInt) rfl (fun v2 e2 => ?_)
        have b2x : zB v2 0 24 := by have q9 : zB (g1 25 0 0) 0 24 := cr1_25_0_0; constructor <;> omega
        refine z_iconst (pc := 102) (v := 1) C dX10_crime_102 (by decide) ?_
        refine z_isub (pc := 103) C dX10_crime_103 ?_
        refine w_gp (fun v => v.toInt = v2.toInt - 1) (zsub_eb b2x (zB.of (x := 1) 1 (by decide)) (by decide) (by decide)) (fun v3 e3 => ?_)
        have b3x : zB v3 (-1) 23 := by have q1 := b2x; have q2 := (zB.of (x := 1) 1 (by decide)); constructor <;> omega
        exact z_iret (pc := 104) C hr dX10_crime_104 ⟨⟨_, rfl, (zB.wk (a' := (-3)) (b' := 23) b3x (by decide) (by decide))⟩, hI1, hF1⟩
  obtain ⟨J0, J1⟩ := J 13
  show Z X 0 [some (zr 25 0), some (zi a1), some (zi a2), some (zi a3), some (zi a4), some (zi a5), some (zi a6)] [] f
  refine z_iload_n (pc := 0) C dX10_crime_0 rfl ?_
  refine z_callSb (pc := 1) C zk_X10_83 (m_X10_isLand _ _ _) rfl rfl (Nat.le_of_ble_eq_true rfl) dX10_crime_1 (fun h1_3 => ?_) (fun h1_3 => ?_)
  · skip
    have b5x : zB a1 0 5 := h1_3
    refine z_if_eq (pc := 4) 63 C dX10_crime_4 (by decide) (fun h => absurd h (by decide)) (fun _ => ?_)
    refine z_iload_n (pc := 7) C dX10_crime_7 rfl ?_
    refine z_i2l (pc := 8) C dX10_crime_8 ?_
    refine z_lconst (pc := 9) (v := 1) C dX10_crime_9 (by decide) ?_
    refine z_ldc2 (pc := 10) C zw_1127 dX10_crime_10 ?_
    refine z_callSb (pc := 13) C zk_X10_69 (m_X10_in _ _ _ _ _) rfl rfl (Nat.le_of_ble_eq_true rfl) dX10_crime_13 (fun h13_5 => ?_) (fun h13_5 => ?_)
    · skip
      have b7x : zB a2 1 63 := zin64 h13_5 rfl rfl
      refine z_if_eq (pc := 16) 63 C dX10_crime_16 (by decide) (fun h => absurd h (by decide)) (fun _ => ?_)
      refine z_iload_n (pc := 19) C dX10_crime_19 rfl ?_
      refine z_i2l (pc := 20) C dX10_crime_20 ?_
      refine z_lconst (pc := 21) (v := 0) C dX10_crime_21 (by decide) ?_
      refine z_ldc2 (pc := 22) C zw_1127 dX10_crime_22 ?_
      refine z_callSb (pc := 25) C zk_X10_69 (m_X10_in _ _ _ _ _) rfl rfl (Nat.le_of_ble_eq_true rfl) dX10_crime_25 (fun h25_7 => ?_) (fun h25_7 => ?_)
      · skip
        have b9x : zB a3 0 63 := zin64 h25_7 rfl rfl
        refine z_if_eq (pc := 28) 63 C dX10_crime_28 (by decide) (fun h => absurd h (by decide)) (fun _ => ?_)
        refine z_iload_n (pc := 31) C dX10_crime_31 rfl ?_
        refine z_iload_n (pc := 32) C dX10_crime_32 rfl ?_
        refine z_iand (pc := 33) C dX10_crime_33 ?_
        refine w_gp (fun v => zB v 0 63 ∧ v.toInt ≤ a3.toInt) (zand_r b7x b9x (by decide)) (fun v10 e10 => ?_)
        have b10x := e10.1
        have r10 := e10.2
        refine z_if_ne (pc := 34) 63 C dX10_crime_34 (by decide) (fun h34_10 => ?_) (fun h34_10 => ?_)
        · skip
          have b12x : zB v10 1 63 := by have q1 := b10x; have q2 := (zB.of (x := 0) 0 (by decide)); simp only [z32lt, z32le, z32eq, Int32.reduceToInt, Int32.toInt_zero] at h34_10; constructor <;> omega
          exact J0  f hI hF ct25_0_0 (by omega)
        · skip
          have b13x : zB v10 0 0 := by have q1 := b10x; have q2 := (zB.of (x := 0) 0 (by decide)); simp only [z32lt, z32le, z32eq, Int32.reduceToInt, Int32.toInt_zero] at h34_10; constructor <;> omega
          refine z_iload (pc := 37) C dX10_crime_37 rfl ?_
          refine z_i2l (pc := 39) C dX10_crime_39 ?_
          refine z_lconst (pc := 40) (v := 1) C dX10_crime_40 (by decide) ?_
          refine z_ldc2 (pc := 41) C zw_1128 dX10_crime_41 ?_
          refine z_callSb (pc := 44) C zk_X10_69 (m_X10_in _ _ _ _ _) rfl rfl (Nat.le_of_ble_eq_true rfl) dX10_crime_44 (fun h44_13 => ?_) (fun h44_13 => ?_)
          · skip
            have b15x : zB a5 1 40 := zin64 h44_13 rfl rfl
            refine z_if_eq (pc := 47) 63 C dX10_crime_47 (by decide) (fun h => absurd h (by decide)) (fun _ => ?_)
            refine z_iload (pc := 50) C dX10_crime_50 rfl ?_
            refine z_i2l (pc := 52) C dX10_crime_52 ?_
            refine z_lconst (pc := 53) (v := 0) C dX10_crime_53 (by decide) ?_
            refine z_iload (pc := 54) C dX10_crime_54 rfl ?_
            refine z_i2l (pc := 56) C dX10_crime_56 ?_
            refine z_callSb (pc := 57) C zk_X10_69 (m_X10_in _ _ _ _ _) rfl rfl (Nat.le_of_ble_eq_true rfl) dX10_crime_57 (fun h57_15 => ?_) (fun h57_15 => ?_)
            · skip
              have b17x : zB a4 0 40 := zin64v h57_15 rfl b15x
              have b17xr := zin64r h57_15
              refine z_if_ne (pc := 60) 65 C dX10_crime_60 (by decide) (fun _ => ?_) (fun h => absurd h (by decide))
              refine z_aload_n (pc := 65) C dX10_crime_65 rfl ?_
              refine z_getI (pc := 66) C zf_X10_80 rfl rfl (by decide) dX10_crime_66 ?_
              refine w_gp (fun v => v.toInt = (f 25 0 0).toInt) rfl (fun v18 e18 => ?_)
              have b18x : zB v18 0 24 := by have q9 : zB (f 25 0 0) 0 24 := ct25_0_0; constructor <;> omega
              refine z_bipush (pc := 69) (v := 24) C dX10_crime_69 (by decide) ?_
              refine z_icmp_ne (pc := 71) 77 C dX10_crime_71 (by decide) (fun h71_18 => ?_) (fun h71_18 => ?_)
              · skip
                have b20x : zB v18 0 23 := by have q1 := b18x; have q2 := (zB.of (x := 24) 24 (by decide)); simp only [z32lt, z32le, z32eq, Int32.reduceToInt, Int32.toInt_zero] at h71_18; constructor <;> omega
                have c21x : zB (f 25 0 0) 0 23 := by constructor <;> omega
                refine z_aload_n (pc := 77) C dX10_crime_77 rfl ?_
                refine z_iload_n (pc := 78) C dX10_crime_78 rfl ?_
                refine z_iload_n (pc := 79) C dX10_crime_79 rfl ?_
                refine z_iload_n (pc := 80) C dX10_crime_80 rfl ?_
                refine z_iload (pc := 81) C dX10_crime_81 rfl ?_
                refine z_iload (pc := 83) C dX10_crime_83 rfl ?_
                refine z_iload (pc := 85) C dX10_crime_85 rfl ?_
                refine z_if_eq (pc := 87) 94 C dX10_crime_87 (by decide) (fun h87_21 => ?_) (fun h87_21 => ?_)
                · skip
                  have b23x : zB a6 0 0 := by have q1 := b6; have q2 := (zB.of (x := 0) 0 (by decide)); simp only [z32lt, z32le, z32eq, Int32.reduceToInt, Int32.toInt_zero] at h87_21; constructor <;> omega
                  refine z_iconst (pc := 94) (v := 0) C dX10_crime_94 (by decide) ?_
                  exact J1 b5x b7x b9x b17x b15x a1 b5x a2 b7x a3 b9x a4 b17x a5 b15x 0 (zB.wk (a' := 0) (b' := 1) (zB.of (x := 0) 0 (by decide)) (by decide) (by decide)) f hI hF c21x (by have qc0 : (0 : Int32).toInt = 0 := (by decide); omega)
                · skip
                  have b24x : zB a6 1 1 := by have q1 := b6; have q2 := (zB.of (x := 0) 0 (by decide)); simp only [z32lt, z32le, z32eq, Int32.reduceToInt, Int32.toInt_zero] at h87_21; constructor <;> omega
                  refine z_iconst (pc := 90) (v := 1) C dX10_crime_90 (by decide) ?_
                  refine z_goto (pc := 91) 95 C dX10_crime_91 (by decide) ?_
                  exact J1 b5x b7x b9x b17x b15x a1 b5x a2 b7x a3 b9x a4 b17x a5 b15x 1 (zB.wk (a' := 0) (b' := 1) (zB.of (x := 1) 1 (by decide)) (by decide) (by decide)) f hI hF c21x (by have qc0 : (1 : Int32).toInt = 1 := (by decide); omega)
              · skip
                have b25x : zB v18 24 24 := by have q1 := b18x; have q2 := (zB.of (x := 24) 24 (by decide)); simp only [z32lt, z32le, z32eq, Int32.reduceToInt, Int32.toInt_zero] at h71_18; constructor <;> omega
                have c26x : zB (f 25 0 0) 24 24 := by constructor <;> omega
                refine z_bipush (pc := 74) (v := -3) C dX10_crime_74 (by decide) ?_
                exact z_iret (pc := 76) C hr dX10_crime_76 ⟨⟨_, rfl, (zB.wk (a' := (-3)) (b' := 23) (zB.of (x := (-3)) (-3) (by decide)) (by decide) (by decide))⟩, hI, hF⟩
            · skip
              refine z_if_ne (pc := 60) 65 C dX10_crime_60 (by decide) (fun h => absurd (by decide) h) (fun _ => ?_)
              exact J0  f hI hF ct25_0_0 (by omega)
          · skip
            refine z_if_eq (pc := 47) 63 C dX10_crime_47 (by decide) (fun _ => ?_) (fun h => absurd (by decide) h)
            exact J0  f hI hF ct25_0_0 (by omega)
      · skip
        refine z_if_eq (pc := 28) 63 C dX10_crime_28 (by decide) (fun _ => ?_) (fun h => absurd (by decide) h)
        exact J0  f hI hF ct25_0_0 (by omega)
    · skip
      refine z_if_eq (pc := 16) 63 C dX10_crime_16 (by decide) (fun _ => ?_) (fun h => absurd (by decide) h)
      exact J0  f hI hF ct25_0_0 (by omega)
  · skip
    refine z_if_eq (pc := 4) 63 C dX10_crime_4 (by decide) (fun _ => ?_) (fun h => absurd (by decide) h)
    exact J0  f hI hF ct25_0_0 (by omega)

set_option maxRecDepth 100000 in
set_option maxHeartbeats 4000000 in
theorem w_X10_deed (d : Nat) (f : zM) (a1 : Int32) (b1 : zB a1 (-2147483648) 2147483647) (a2 : Int32) (b2 : zB a2 (-2147483648) 2147483647) (a3 : Int32) (b3 : zB a3 (-2147483648) 2147483647) (a4 : Int32) (b4 : zB a4 (-2147483648) 2147483647) (hI : zInv f) : ZM (d + 2) yX10_deed cX10_deed 5 (some .int) [zr 25 0, zi a1, zi a2, zi a3, zi a4] f (fun r g => (∃ v, r = some (zi v) ∧ zB v (-3) 7) ∧ zInv g ∧ zFr [(25, some 2), (27, none)] f g) := by
  refine ZM.intro (by decide +kernel) (Nat.le_of_ble_eq_true rfl) ?_
  intro X C hr hn
  have hF : zFr [(25, some 2), (27, none)] f f := zFr.rf _ _
  have ct25_0_2 : zB (f 25 0 2) 0 8 := hI 25 0 2
  have J : ∀ t : Nat, (∀ g : zM, zInv g → zFr [(25, some 2), (27, none)] f g → zB (g 25 0 2) 0 8 → (0 : Int) < t → Z X 44 [some (zr 25 0), some (zi a1), some (zi a2), some (zi a3), some (zi a4)] [] g) := by
    intro t
    induction t with
    | zero =>
      intros; exfalso; omega
    | succ t ih =>
      have ih0 := ih
      intro g44_ hI44_ hF44_ f44_25_0_2 hM44_
      refine z_iconst (pc := 44) (v := -1) C dX10_deed_44 (by decide) ?_
      exact z_iret (pc := 45) C hr dX10_deed_45 ⟨⟨_, rfl, (zB.wk (a' := (-3)) (b' := 7) (zB.of (x := (-1)) (-1) (by decide)) (by decide) (by decide))⟩, hI44_, hF44_⟩
  have J0 := J 12
  show Z X 0 [some (zr 25 0), some (zi a1), some (zi a2), some (zi a3), some (zi a4)] [] f
  refine z_iload_n (pc := 0) C dX10_deed_0 rfl ?_
  refine z_i2l (pc := 1) C dX10_deed_1 ?_
  refine z_lconst (pc := 2) (v := 1) C dX10_deed_2 (by decide) ?_
  refine z_ldc2 (pc := 3) C zw_1127 dX10_deed_3 ?_
  refine z_callSb (pc := 6) C zk_X10_69 (m_X10_in _ _ _ _ _) rfl rfl (Nat.le_of_ble_eq_true rfl) dX10_deed_6 (fun h6_0 => ?_) (fun h6_0 => ?_)
  · skip
    have b2x : zB a1 1 63 := zin64 h6_0 rfl rfl
    refine z_if_eq (pc := 9) 44 C dX10_deed_9 (by decide) (fun h => absurd h (by decide)) (fun _ => ?_)
    refine z_iload_n (pc := 12) C dX10_deed_12 rfl ?_
    refine z_i2l (pc := 13) C dX10_deed_13 ?_
    refine z_lconst (pc := 14) (v := 0) C dX10_deed_14 (by decide) ?_
    refine z_ldc2 (pc := 15) C zw_1127 dX10_deed_15 ?_
    refine z_callSb (pc := 18) C zk_X10_69 (m_X10_in _ _ _ _ _) rfl rfl (Nat.le_of_ble_eq_true rfl) dX10_deed_18 (fun h18_2 => ?_) (fun h18_2 => ?_)
    · skip
      have b4x : zB a2 0 63 := zin64 h18_2 rfl rfl
      refine z_if_eq (pc := 21) 44 C dX10_deed_21 (by decide) (fun h => absurd h (by decide)) (fun _ => ?_)
      refine z_iload_n (pc := 24) C dX10_deed_24 rfl ?_
      refine z_callSb (pc := 25) C zk_X10_83 (m_X10_isLand _ _ _) rfl rfl (Nat.le_of_ble_eq_true rfl) dX10_deed_25 (fun h25_4 => ?_) (fun h25_4 => ?_)
      · skip
        have b6x : zB a3 0 5 := h25_4
        refine z_if_eq (pc := 28) 44 C dX10_deed_28 (by decide) (fun h => absurd h (by decide)) (fun _ => ?_)
        refine z_iload (pc := 31) C dX10_deed_31 rfl ?_
        refine z_i2l (pc := 33) C dX10_deed_33 ?_
        refine z_lconst (pc := 34) (v := 0) C dX10_deed_34 (by decide) ?_
        refine z_ldc2 (pc := 35) C zw_1137 dX10_deed_35 ?_
        refine z_callSb (pc := 38) C zk_X10_69 (m_X10_in _ _ _ _ _) rfl rfl (Nat.le_of_ble_eq_true rfl) dX10_deed_38 (fun h38_6 => ?_) (fun h38_6 => ?_)
        · skip
          have b8x : zB a4 0 99 := zin64 h38_6 rfl rfl
          refine z_if_ne (pc := 41) 46 C dX10_deed_41 (by decide) (fun _ => ?_) (fun h => absurd h (by decide))
          refine z_aload_n (pc := 46) C dX10_deed_46 rfl ?_
          refine z_getI (pc := 47) C zf_X10_73 rfl rfl (by decide) dX10_deed_47 ?_
          refine w_gp (fun v => v.toInt = (f 25 0 2).toInt) rfl (fun v9 e9 => ?_)
          have b9x : zB v9 0 8 := by have q9 : zB (f 25 0 2) 0 8 := ct25_0_2; constructor <;> omega
          refine z_bipush (pc := 50) (v := 8) C dX10_deed_50 (by decide) ?_
          refine z_icmp_ne (pc := 52) 58 C dX10_deed_52 (by decide) (fun h52_9 => ?_) (fun h52_9 => ?_)
          · skip
            have b11x : zB v9 0 7 := by have q1 := b9x; have q2 := (zB.of (x := 8) 8 (by decide)); simp only [z32lt, z32le, z32eq, Int32.reduceToInt, Int32.toInt_zero] at h52_9; constructor <;> omega
            have c12x : zB (f 25 0 2) 0 7 := by constructor <;> omega
            refine z_aload_n (pc := 58) C dX10_deed_58 rfl ?_
            refine z_getR (pc := 59) C zf_X10_13 rfl rfl (by decide) dX10_deed_59 ?_
            refine z_iconst (pc := 62) (v := 5) C dX10_deed_62 (by decide) ?_
            refine z_aload_n (pc := 63) C dX10_deed_63 rfl ?_
            refine z_getI (pc := 64) C zf_X10_73 rfl rfl (by decide) dX10_deed_64 ?_
            refine w_gp (fun v => v.toInt = (f 25 0 2).toInt) rfl (fun v13 e13 => ?_)
            have b13x : zB v13 0 7 := by have q9 : zB (f 25 0 2) 0 7 := c12x; constructor <;> omega
            refine z_imul (pc := 67) C dX10_deed_67 ?_
            refine w_gp (fun v => v.toInt = 5 * v13.toInt) (zmul_kb 5 (by decide) (by decide) b13x (by decide) (by decide)) (fun v14 e14 => ?_)
            have b14x : zB v14 0 35 := zmul_bb e14 (by decide) b13x
            refine z_iload_n (pc := 68) C dX10_deed_68 rfl ?_
            refine z_iast (pc := 69) C rfl (by decide) (zIx b14x (by decide) (by decide)) dX10_deed_69 ?_
            refine w_mem2 hI hF (by rw [zrg27 (r := 0) (by have hq : v14.toNatClampNeg = v14.toInt.toNat := rfl; have hq2 := b14x; omega)]; exact (zB.wk (a' := 0) (b' := 63) b2x (by decide) (by decide))) rfl (fun g15 hI15 hF15 hq15 hx15 => ?_)
            have ek15_25_0_2 : (g15 25 0 2).toInt = (f 25 0 2).toInt := by rw [hq15 25 0 2 (by omega)]
            have c15_25_0_2x : zB (g15 25 0 2) 0 7 := by have q9 := c12x; constructor <;> omega
            refine z_aload_n (pc := 70) C dX10_deed_70 rfl ?_
            refine z_getR (pc := 71) C zf_X10_13 rfl rfl (by decide) dX10_deed_71 ?_
            refine z_iconst (pc := 74) (v := 5) C dX10_deed_74 (by decide) ?_
            refine z_aload_n (pc := 75) C dX10_deed_75 rfl ?_
            refine z_getI (pc := 76) C zf_X10_73 rfl rfl (by decide) dX10_deed_76 ?_
            refine w_gp (fun v => v.toInt = (g15 25 0 2).toInt) rfl (fun v16 e16 => ?_)
            have b16x : zB v16 0 7 := by have q9 : zB (g15 25 0 2) 0 7 := c15_25_0_2x; constructor <;> omega
            refine z_imul (pc := 79) C dX10_deed_79 ?_
            refine w_gp (fun v => v.toInt = 5 * v16.toInt) (zmul_kb 5 (by decide) (by decide) b16x (by decide) (by decide)) (fun v17 e17 => ?_)
            have b17x : zB v17 0 35 := zmul_bb e17 (by decide) b16x
            refine z_iconst (pc := 80) (v := 1) C dX10_deed_80 (by decide) ?_
            refine z_iadd (pc := 81) C dX10_deed_81 ?_
            refine w_gp (fun v => v.toInt = v17.toInt + 1) (zadd_eb b17x (zB.of (x := 1) 1 (by decide)) (by decide) (by decide)) (fun v18 e18 => ?_)
            have b18x : zB v18 1 36 := by have q1 := b17x; have q2 := (zB.of (x := 1) 1 (by decide)); constructor <;> omega
            refine z_iload_n (pc := 82) C dX10_deed_82 rfl ?_
            refine z_iast (pc := 83) C rfl (by decide) (zIx b18x (by decide) (by decide)) dX10_deed_83 ?_
            refine w_mem2 hI15 hF15 (by rw [zrg27 (r := 1) (by have hq : v18.toNatClampNeg = v18.toInt.toNat := rfl; have hq2 := b18x; omega)]; exact b4x) rfl (fun g19 hI19 hF19 hq19 hx19 => ?_)
            have ek19_25_0_2 : (g19 25 0 2).toInt = (g15 25 0 2).toInt := by rw [hq19 25 0 2 (by omega)]
            have c19_25_0_2x : zB (g19 25 0 2) 0 7 := by have q9 := c15_25_0_2x; constructor <;> omega
            refine z_aload_n (pc := 84) C dX10_deed_84 rfl ?_
            refine z_getR (pc := 85) C zf_X10_13 rfl rfl (by decide) dX10_deed_85 ?_
            refine z_iconst (pc := 88) (v := 5) C dX10_deed_88 (by decide) ?_
            refine z_aload_n (pc := 89) C dX10_deed_89 rfl ?_
            refine z_getI (pc := 90) C zf_X10_73 rfl rfl (by decide) dX10_deed_90 ?_
            refine w_gp (fun v => v.toInt = (g19 25 0 2).toInt) rfl (fun v20 e20 => ?_)
            have b20x : zB v20 0 7 := by have q9 : zB (g19 25 0 2) 0 7 := c19_25_0_2x; constructor <;> omega
            refine z_imul (pc := 93) C dX10_deed_93 ?_
            refine w_gp (fun v => v.toInt = 5 * v20.toInt) (zmul_kb 5 (by decide) (by decide) b20x (by decide) (by decide)) (fun v21 e21 => ?_)
            have b21x : zB v21 0 35 := zmul_bb e21 (by decide) b20x
            refine z_iconst (pc := 94) (v := 2) C dX10_deed_94 (by decide) ?_
            refine z_iadd (pc := 95) C dX10_deed_95 ?_
            refine w_gp (fun v => v.toInt = v21.toInt + 2) (zadd_eb b21x (zB.of (x := 2) 2 (by decide)) (by decide) (by decide)) (fun v22 e22 => ?_)
            have b22x : zB v22 2 37 := by have q1 := b21x; have q2 := (zB.of (x := 2) 2 (by decide)); constructor <;> omega
            refine z_iload_n (pc := 96) C dX10_deed_96 rfl ?_
            refine z_iast (pc := 97) C rfl (by decide) (zIx b22x (by decide) (by decide)) dX10_deed_97 ?_
            refine w_mem2 hI19 hF19 (by rw [zrg27 (r := 2) (by have hq : v22.toNatClampNeg = v22.toInt.toNat := rfl; have hq2 := b22x; omega)]; exact b6x) rfl (fun g23 hI23 hF23 hq23 hx23 => ?_)
            have ek23_25_0_2 : (g23 25 0 2).toInt = (g19 25 0 2).toInt := by rw [hq23 25 0 2 (by omega)]
            have c23_25_0_2x : zB (g23 25 0 2) 0 7 := by have q9 := c19_25_0_2x; constructor <;> omega
            refine z_aload_n (pc := 98) C dX10_deed_98 rfl ?_
            refine z_getR (pc := 99) C zf_X10_13 rfl rfl (by decide) dX10_deed_99 ?_
            refine z_iconst (pc := 102) (v := 5) C dX10_deed_102 (by decide) ?_
            refine z_aload_n (pc := 103) C dX10_deed_103 rfl ?_
            refine z_getI (pc := 104) C zf_X10_73 rfl rfl (by decide) dX10_deed_104 ?_
            refine w_gp (fun v => v.toInt = (g23 25 0 2).toInt) rfl (fun v24 e24 => ?_)
            have b24x : zB v24 0 7 := by have q9 : zB (g23 25 0 2) 0 7 := c23_25_0_2x; constructor <;> omega
            refine z_imul (pc := 107) C dX10_deed_107 ?_
            refine w_gp (fun v => v.toInt = 5 * v24.toInt) (zmul_kb 5 (by decide) (by decide) b24x (by decide) (by decide)) (fun v25 e25 => ?_)
            have b25x : zB v25 0 35 := zmul_bb e25 (by decide) b24x
            refine z_iconst (pc := 108) (v := 3) C dX10_deed_108 (by decide) ?_
            refine z_iadd (pc := 109) C dX10_deed_109 ?_
            refine w_gp (fun v => v.toInt = v25.toInt + 3) (zadd_eb b25x (zB.of (x := 3) 3 (by decide)) (by decide) (by decide)) (fun v26 e26 => ?_)
            have b26x : zB v26 3 38 := by have q1 := b25x; have q2 := (zB.of (x := 3) 3 (by decide)); constructor <;> omega
            refine z_iload (pc := 110) C dX10_deed_110 rfl ?_
            refine z_iast (pc := 112) C rfl (by decide) (zIx b26x (by decide) (by decide)) dX10_deed_112 ?_
            refine w_mem2 hI23 hF23 (by rw [zrg27 (r := 3) (by have hq : v26.toNatClampNeg = v26.toInt.toNat := rfl; have hq2 := b26x; omega)]; exact b8x) rfl (fun g27 hI27 hF27 hq27 hx27 => ?_)
            have ek27_25_0_2 : (g27 25 0 2).toInt = (g23 25 0 2).toInt := by rw [hq27 25 0 2 (by omega)]
            have c27_25_0_2x : zB (g27 25 0 2) 0 7 := by have q9 := c23_25_0_2x; constructor <;> omega
            refine z_aload_n (pc := 113) C dX10_deed_113 rfl ?_
            refine z_getR (pc := 114) C zf_X10_13 rfl rfl (by decide) dX10_deed_114 ?_
            refine z_iconst (pc := 117) (v := 5) C dX10_deed_117 (by decide) ?_
            refine z_aload_n (pc := 118) C dX10_deed_118 rfl ?_
            refine z_getI (pc := 119) C zf_X10_73 rfl rfl (by decide) dX10_deed_119 ?_
            refine w_gp (fun v => v.toInt = (g27 25 0 2).toInt) rfl (fun v28 e28 => ?_)
            have b28x : zB v28 0 7 := by have q9 : zB (g27 25 0 2) 0 7 := c27_25_0_2x; constructor <;> omega
            refine z_imul (pc := 122) C dX10_deed_122 ?_
            refine w_gp (fun v => v.toInt = 5 * v28.toInt) (zmul_kb 5 (by decide) (by decide) b28x (by decide) (by decide)) (fun v29 e29 => ?_)
            have b29x : zB v29 0 35 := zmul_bb e29 (by decide) b28x
            refine z_iconst (pc := 123) (v := 4) C dX10_deed_123 (by decide) ?_
            refine z_iadd (pc := 124) C dX10_deed_124 ?_
            refine w_gp (fun v => v.toInt = v29.toInt + 4) (zadd_eb b29x (zB.of (x := 4) 4 (by decide)) (by decide) (by decide)) (fun v30 e30 => ?_)
            have b30x : zB v30 4 39 := by have q1 := b29x; have q2 := (zB.of (x := 4) 4 (by decide)); constructor <;> omega
            refine z_iconst (pc := 125) (v := 0) C dX10_deed_125 (by decide) ?_
            refine z_iast (pc := 126) C rfl (by decide) (zIx b30x (by decide) (by decide)) dX10_deed_126 ?_
            refine w_mem2 hI27 hF27 (by rw [zrg27 (r := 4) (by have hq : v30.toNatClampNeg = v30.toInt.toNat := rfl; have hq2 := b30x; omega)]; exact (zB.wk (a' := 0) (b' := 1) (zB.of (x := 0) 0 (by decide)) (by decide) (by decide))) rfl (fun g31 hI31 hF31 hq31 hx31 => ?_)
            have ek31_25_0_2 : (g31 25 0 2).toInt = (g27 25 0 2).toInt := by rw [hq31 25 0 2 (by omega)]
            have c31_25_0_2x : zB (g31 25 0 2) 0 7 := by have q9 := c27_25_0_2x; constructor <;> omega
            refine z_aload_n (pc := 127) C dX10_deed_127 rfl ?_
            refine z_dupr (pc := 128) C dX10_deed_128 ?_
            refine z_getI (pc := 129) C zf_X10_73 rfl rfl (by decide) dX10_deed_129 ?_
            refine w_gp (fun v => v.toInt = (g31 25 0 2).toInt) rfl (fun v32 e32 => ?_)
            have b32x : zB v32 0 7 := by have q9 : zB (g31 25 0 2) 0 7 := c31_25_0_2x; constructor <;> omega
            refine z_iconst (pc := 132) (v := 1) C dX10_deed_132 (by decide) ?_
            refine z_iadd (pc := 133) C dX10_deed_133 ?_
            refine w_gp (fun v => v.toInt = v32.toInt + 1) (zadd_eb b32x (zB.of (x := 1) 1 (by decide)) (by decide) (by decide)) (fun v33 e33 => ?_)
            have b33x : zB v33 1 8 := by have q1 := b32x; have q2 := (zB.of (x := 1) 1 (by decide)); constructor <;> omega
            refine z_putI (pc := 134) C zf_X10_73 zp_10_2 rfl rfl (by decide) dX10_deed_134 ?_
            refine w_mem2 hI31 hF31 (zB.wk (a' := 0) (b' := 8) b33x (by decide) (by decide)) rfl (fun g34 hI34 hF34 hq34 hx34 => ?_)
            have ec34 : (g34 25 0 2).toInt = v33.toInt := by rw [hx34]
            have c34x : zB (g34 25 0 2) 1 8 := by have q9 := b33x; constructor <;> omega
            refine z_aload_n (pc := 137) C dX10_deed_137 rfl ?_
            refine z_getI (pc := 138) C zf_X10_73 rfl rfl (by decide) dX10_deed_138 ?_
            refine w_gp (fun v => v.toInt = (g34 25 0 2).toInt) rfl (fun v35 e35 => ?_)
            have b35x : zB v35 1 8 := by have q9 : zB (g34 25 0 2) 1 8 := c34x; constructor <;> omega
            refine z_iconst (pc := 141) (v := 1) C dX10_deed_141 (by decide) ?_
            refine z_isub (pc := 142) C dX10_deed_142 ?_
            refine w_gp (fun v => v.toInt = v35.toInt - 1) (zsub_eb b35x (zB.of (x := 1) 1 (by decide)) (by decide) (by decide)) (fun v36 e36 => ?_)
            have b36x : zB v36 0 7 := by have q1 := b35x; have q2 := (zB.of (x := 1) 1 (by decide)); constructor <;> omega
            exact z_iret (pc := 143) C hr dX10_deed_143 ⟨⟨_, rfl, (zB.wk (a' := (-3)) (b' := 7) b36x (by decide) (by decide))⟩, hI34, hF34⟩
          · skip
            have b37x : zB v9 8 8 := by have q1 := b9x; have q2 := (zB.of (x := 8) 8 (by decide)); simp only [z32lt, z32le, z32eq, Int32.reduceToInt, Int32.toInt_zero] at h52_9; constructor <;> omega
            have c38x : zB (f 25 0 2) 8 8 := by constructor <;> omega
            refine z_bipush (pc := 55) (v := -3) C dX10_deed_55 (by decide) ?_
            exact z_iret (pc := 57) C hr dX10_deed_57 ⟨⟨_, rfl, (zB.wk (a' := (-3)) (b' := 7) (zB.of (x := (-3)) (-3) (by decide)) (by decide) (by decide))⟩, hI, hF⟩
        · skip
          refine z_if_ne (pc := 41) 46 C dX10_deed_41 (by decide) (fun h => absurd (by decide) h) (fun _ => ?_)
          exact J0  f hI hF ct25_0_2 (by omega)
      · skip
        refine z_if_eq (pc := 28) 44 C dX10_deed_28 (by decide) (fun _ => ?_) (fun h => absurd (by decide) h)
        exact J0  f hI hF ct25_0_2 (by omega)
    · skip
      refine z_if_eq (pc := 21) 44 C dX10_deed_21 (by decide) (fun _ => ?_) (fun h => absurd (by decide) h)
      exact J0  f hI hF ct25_0_2 (by omega)
  · skip
    refine z_if_eq (pc := 9) 44 C dX10_deed_9 (by decide) (fun _ => ?_) (fun h => absurd (by decide) h)
    exact J0  f hI hF ct25_0_2 (by omega)

set_option maxRecDepth 100000 in
set_option maxHeartbeats 4000000 in
theorem w_X10_addPaper (d : Nat) (f : zM) (a1 : Int32) (b1 : zB a1 0 2) (a2 : Int32) (b2 : zB a2 0 5) (a3 : Int32) (b3 : zB a3 0 5) (a4 : Int32) (b4 : zB a4 0 40) (a5 : Int32) (b5 : zB a5 (-2147483648) 2147483647) (a6 : Int32) (b6 : zB a6 0 31) (a7 : Int32) (b7 : zB a7 0 99) (a8 : Int32) (b8 : zB a8 0 7) (hI : zInv f) : ZM d yX10_addPaper cX10_addPaper 10 (some .int) [zr 25 0, zi a1, zi a2, zi a3, zi a4, zi a5, zi a6, zi a7, zi a8] f (fun r g => (∃ v, r = some (zi v) ∧ zB v (-3) 11) ∧ zInv g ∧ zFr [(25, some 4), (28, none)] f g) := by
  refine ZM.intro (by decide +kernel) (Nat.le_of_ble_eq_true rfl) ?_
  intro X C hr hn
  have hF : zFr [(25, some 4), (28, none)] f f := zFr.rf _ _
  have ct25_0_4 : zB (f 25 0 4) 0 12 := hI 25 0 4
  show Z X 0 [some (zr 25 0), some (zi a1), some (zi a2), some (zi a3), some (zi a4), some (zi a5), some (zi a6), some (zi a7), some (zi a8), none] [] f
  refine z_aload_n (pc := 0) C dX10_addPaper_0 rfl ?_
  refine z_getI (pc := 1) C zf_X10_77 rfl rfl (by decide) dX10_addPaper_1 ?_
  refine w_gp (fun v => v.toInt = (f 25 0 4).toInt) rfl (fun v1 e1 => ?_)
  have b1x : zB v1 0 12 := by have q9 : zB (f 25 0 4) 0 12 := ct25_0_4; constructor <;> omega
  refine z_bipush (pc := 4) (v := 12) C dX10_addPaper_4 (by decide) ?_
  refine z_icmp_ne (pc := 6) 12 C dX10_addPaper_6 (by decide) (fun h6_1 => ?_) (fun h6_1 => ?_)
  · skip
    have b3x : zB v1 0 11 := by have q1 := b1x; have q2 := (zB.of (x := 12) 12 (by decide)); simp only [z32lt, z32le, z32eq, Int32.reduceToInt, Int32.toInt_zero] at h6_1; constructor <;> omega
    have c4x : zB (f 25 0 4) 0 11 := by constructor <;> omega
    refine z_bipush (pc := 12) (v := 8) C dX10_addPaper_12 (by decide) ?_
    refine z_aload_n (pc := 14) C dX10_addPaper_14 rfl ?_
    refine z_getI (pc := 15) C zf_X10_77 rfl rfl (by decide) dX10_addPaper_15 ?_
    refine w_gp (fun v => v.toInt = (f 25 0 4).toInt) rfl (fun v5 e5 => ?_)
    have b5x : zB v5 0 11 := by have q9 : zB (f 25 0 4) 0 11 := c4x; constructor <;> omega
    refine z_imul (pc := 18) C dX10_addPaper_18 ?_
    refine w_gp (fun v => v.toInt = 8 * v5.toInt) (zmul_kb 8 (by decide) (by decide) b5x (by decide) (by decide)) (fun v6 e6 => ?_)
    have b6x : zB v6 0 88 := zmul_bb e6 (by decide) b5x
    refine z_istore (pc := 19) C dX10_addPaper_19 (by rw [hn]; decide) rfl ?_
    refine z_aload_n (pc := 21) C dX10_addPaper_21 rfl ?_
    refine z_getR (pc := 22) C zf_X10_16 rfl rfl (by decide) dX10_addPaper_22 ?_
    refine z_iload (pc := 25) C dX10_addPaper_25 rfl ?_
    refine z_iload_n (pc := 27) C dX10_addPaper_27 rfl ?_
    refine z_iast (pc := 28) C rfl (by decide) (zIx b6x (by decide) (by decide)) dX10_addPaper_28 ?_
    refine w_mem2 hI hF (by rw [zrg28 (r := 0) (by have hq : v6.toNatClampNeg = v6.toInt.toNat := rfl; have hq2 := b6x; omega)]; exact b1) rfl (fun g7 hI7 hF7 hq7 hx7 => ?_)
    have ek7_25_0_4 : (g7 25 0 4).toInt = (f 25 0 4).toInt := by rw [hq7 25 0 4 (by omega)]
    have c7_25_0_4x : zB (g7 25 0 4) 0 11 := by have q9 := c4x; constructor <;> omega
    refine z_aload_n (pc := 29) C dX10_addPaper_29 rfl ?_
    refine z_getR (pc := 30) C zf_X10_16 rfl rfl (by decide) dX10_addPaper_30 ?_
    refine z_iload (pc := 33) C dX10_addPaper_33 rfl ?_
    refine z_iconst (pc := 35) (v := 1) C dX10_addPaper_35 (by decide) ?_
    refine z_iadd (pc := 36) C dX10_addPaper_36 ?_
    refine w_gp (fun v => v.toInt = v6.toInt + 1) (zadd_eb b6x (zB.of (x := 1) 1 (by decide)) (by decide) (by decide)) (fun v8 e8 => ?_)
    have b8x : zB v8 1 89 := by have q1 := b6x; have q2 := (zB.of (x := 1) 1 (by decide)); constructor <;> omega
    refine z_iload_n (pc := 37) C dX10_addPaper_37 rfl ?_
    refine z_iast (pc := 38) C rfl (by decide) (zIx b8x (by decide) (by decide)) dX10_addPaper_38 ?_
    refine w_mem2 hI7 hF7 (by rw [zrg28 (r := 1) (by have hq : v8.toNatClampNeg = v8.toInt.toNat := rfl; have hq2 := b8x; omega)]; exact b2) rfl (fun g9 hI9 hF9 hq9 hx9 => ?_)
    have ek9_25_0_4 : (g9 25 0 4).toInt = (g7 25 0 4).toInt := by rw [hq9 25 0 4 (by omega)]
    have c9_25_0_4x : zB (g9 25 0 4) 0 11 := by have q9 := c7_25_0_4x; constructor <;> omega
    refine z_aload_n (pc := 39) C dX10_addPaper_39 rfl ?_
    refine z_getR (pc := 40) C zf_X10_16 rfl rfl (by decide) dX10_addPaper_40 ?_
    refine z_iload (pc := 43) C dX10_addPaper_43 rfl ?_
    refine z_iconst (pc := 45) (v := 2) C dX10_addPaper_45 (by decide) ?_
    refine z_iadd (pc := 46) C dX10_addPaper_46 ?_
    refine w_gp (fun v => v.toInt = v6.toInt + 2) (zadd_eb b6x (zB.of (x := 2) 2 (by decide)) (by decide) (by decide)) (fun v10 e10 => ?_)
    have b10x : zB v10 2 90 := by have q1 := b6x; have q2 := (zB.of (x := 2) 2 (by decide)); constructor <;> omega
    refine z_iload_n (pc := 47) C dX10_addPaper_47 rfl ?_
    refine z_iast (pc := 48) C rfl (by decide) (zIx b10x (by decide) (by decide)) dX10_addPaper_48 ?_
    refine w_mem2 hI9 hF9 (by rw [zrg28 (r := 2) (by have hq : v10.toNatClampNeg = v10.toInt.toNat := rfl; have hq2 := b10x; omega)]; exact b3) rfl (fun g11 hI11 hF11 hq11 hx11 => ?_)
    have ek11_25_0_4 : (g11 25 0 4).toInt = (g9 25 0 4).toInt := by rw [hq11 25 0 4 (by omega)]
    have c11_25_0_4x : zB (g11 25 0 4) 0 11 := by have q9 := c9_25_0_4x; constructor <;> omega
    refine z_aload_n (pc := 49) C dX10_addPaper_49 rfl ?_
    refine z_getR (pc := 50) C zf_X10_16 rfl rfl (by decide) dX10_addPaper_50 ?_
    refine z_iload (pc := 53) C dX10_addPaper_53 rfl ?_
    refine z_iconst (pc := 55) (v := 3) C dX10_addPaper_55 (by decide) ?_
    refine z_iadd (pc := 56) C dX10_addPaper_56 ?_
    refine w_gp (fun v => v.toInt = v6.toInt + 3) (zadd_eb b6x (zB.of (x := 3) 3 (by decide)) (by decide) (by decide)) (fun v12 e12 => ?_)
    have b12x : zB v12 3 91 := by have q1 := b6x; have q2 := (zB.of (x := 3) 3 (by decide)); constructor <;> omega
    refine z_iload (pc := 57) C dX10_addPaper_57 rfl ?_
    refine z_iast (pc := 59) C rfl (by decide) (zIx b12x (by decide) (by decide)) dX10_addPaper_59 ?_
    refine w_mem2 hI11 hF11 (by rw [zrg28 (r := 3) (by have hq : v12.toNatClampNeg = v12.toInt.toNat := rfl; have hq2 := b12x; omega)]; exact b4) rfl (fun g13 hI13 hF13 hq13 hx13 => ?_)
    have ek13_25_0_4 : (g13 25 0 4).toInt = (g11 25 0 4).toInt := by rw [hq13 25 0 4 (by omega)]
    have c13_25_0_4x : zB (g13 25 0 4) 0 11 := by have q9 := c11_25_0_4x; constructor <;> omega
    refine z_aload_n (pc := 60) C dX10_addPaper_60 rfl ?_
    refine z_getR (pc := 61) C zf_X10_16 rfl rfl (by decide) dX10_addPaper_61 ?_
    refine z_iload (pc := 64) C dX10_addPaper_64 rfl ?_
    refine z_iconst (pc := 66) (v := 4) C dX10_addPaper_66 (by decide) ?_
    refine z_iadd (pc := 67) C dX10_addPaper_67 ?_
    refine w_gp (fun v => v.toInt = v6.toInt + 4) (zadd_eb b6x (zB.of (x := 4) 4 (by decide)) (by decide) (by decide)) (fun v14 e14 => ?_)
    have b14x : zB v14 4 92 := by have q1 := b6x; have q2 := (zB.of (x := 4) 4 (by decide)); constructor <;> omega
    refine z_iload (pc := 68) C dX10_addPaper_68 rfl ?_
    refine z_iast (pc := 70) C rfl (by decide) (zIx b14x (by decide) (by decide)) dX10_addPaper_70 ?_
    refine w_mem2 hI13 hF13 (by rw [zrg28 (r := 4) (by have hq : v14.toNatClampNeg = v14.toInt.toNat := rfl; have hq2 := b14x; omega)]; exact b5) rfl (fun g15 hI15 hF15 hq15 hx15 => ?_)
    have ek15_25_0_4 : (g15 25 0 4).toInt = (g13 25 0 4).toInt := by rw [hq15 25 0 4 (by omega)]
    have c15_25_0_4x : zB (g15 25 0 4) 0 11 := by have q9 := c13_25_0_4x; constructor <;> omega
    refine z_aload_n (pc := 71) C dX10_addPaper_71 rfl ?_
    refine z_getR (pc := 72) C zf_X10_16 rfl rfl (by decide) dX10_addPaper_72 ?_
    refine z_iload (pc := 75) C dX10_addPaper_75 rfl ?_
    refine z_iconst (pc := 77) (v := 5) C dX10_addPaper_77 (by decide) ?_
    refine z_iadd (pc := 78) C dX10_addPaper_78 ?_
    refine w_gp (fun v => v.toInt = v6.toInt + 5) (zadd_eb b6x (zB.of (x := 5) 5 (by decide)) (by decide) (by decide)) (fun v16 e16 => ?_)
    have b16x : zB v16 5 93 := by have q1 := b6x; have q2 := (zB.of (x := 5) 5 (by decide)); constructor <;> omega
    refine z_iload (pc := 79) C dX10_addPaper_79 rfl ?_
    refine z_iast (pc := 81) C rfl (by decide) (zIx b16x (by decide) (by decide)) dX10_addPaper_81 ?_
    refine w_mem2 hI15 hF15 (by rw [zrg28 (r := 5) (by have hq : v16.toNatClampNeg = v16.toInt.toNat := rfl; have hq2 := b16x; omega)]; exact b6) rfl (fun g17 hI17 hF17 hq17 hx17 => ?_)
    have ek17_25_0_4 : (g17 25 0 4).toInt = (g15 25 0 4).toInt := by rw [hq17 25 0 4 (by omega)]
    have c17_25_0_4x : zB (g17 25 0 4) 0 11 := by have q9 := c15_25_0_4x; constructor <;> omega
    refine z_aload_n (pc := 82) C dX10_addPaper_82 rfl ?_
    refine z_getR (pc := 83) C zf_X10_16 rfl rfl (by decide) dX10_addPaper_83 ?_
    refine z_iload (pc := 86) C dX10_addPaper_86 rfl ?_
    refine z_bipush (pc := 88) (v := 6) C dX10_addPaper_88 (by decide) ?_
    refine z_iadd (pc := 90) C dX10_addPaper_90 ?_
    refine w_gp (fun v => v.toInt = v6.toInt + 6) (zadd_eb b6x (zB.of (x := 6) 6 (by decide)) (by decide) (by decide)) (fun v18 e18 => ?_)
    have b18x : zB v18 6 94 := by have q1 := b6x; have q2 := (zB.of (x := 6) 6 (by decide)); constructor <;> omega
    refine z_iload (pc := 91) C dX10_addPaper_91 rfl ?_
    refine z_iast (pc := 93) C rfl (by decide) (zIx b18x (by decide) (by decide)) dX10_addPaper_93 ?_
    refine w_mem2 hI17 hF17 (by rw [zrg28 (r := 6) (by have hq : v18.toNatClampNeg = v18.toInt.toNat := rfl; have hq2 := b18x; omega)]; exact b7) rfl (fun g19 hI19 hF19 hq19 hx19 => ?_)
    have ek19_25_0_4 : (g19 25 0 4).toInt = (g17 25 0 4).toInt := by rw [hq19 25 0 4 (by omega)]
    have c19_25_0_4x : zB (g19 25 0 4) 0 11 := by have q9 := c17_25_0_4x; constructor <;> omega
    refine z_aload_n (pc := 94) C dX10_addPaper_94 rfl ?_
    refine z_getR (pc := 95) C zf_X10_16 rfl rfl (by decide) dX10_addPaper_95 ?_
    refine z_iload (pc := 98) C dX10_addPaper_98 rfl ?_
    refine z_bipush (pc := 100) (v := 7) C dX10_addPaper_100 (by decide) ?_
    refine z_iadd (pc := 102) C dX10_addPaper_102 ?_
    refine w_gp (fun v => v.toInt = v6.toInt + 7) (zadd_eb b6x (zB.of (x := 7) 7 (by decide)) (by decide) (by decide)) (fun v20 e20 => ?_)
    have b20x : zB v20 7 95 := by have q1 := b6x; have q2 := (zB.of (x := 7) 7 (by decide)); constructor <;> omega
    refine z_iload (pc := 103) C dX10_addPaper_103 rfl ?_
    refine z_iast (pc := 105) C rfl (by decide) (zIx b20x (by decide) (by decide)) dX10_addPaper_105 ?_
    refine w_mem2 hI19 hF19 (by rw [zrg28 (r := 7) (by have hq : v20.toNatClampNeg = v20.toInt.toNat := rfl; have hq2 := b20x; omega)]; exact b8) rfl (fun g21 hI21 hF21 hq21 hx21 => ?_)
    have ek21_25_0_4 : (g21 25 0 4).toInt = (g19 25 0 4).toInt := by rw [hq21 25 0 4 (by omega)]
    have c21_25_0_4x : zB (g21 25 0 4) 0 11 := by have q9 := c19_25_0_4x; constructor <;> omega
    refine z_aload_n (pc := 106) C dX10_addPaper_106 rfl ?_
    refine z_dupr (pc := 107) C dX10_addPaper_107 ?_
    refine z_getI (pc := 108) C zf_X10_77 rfl rfl (by decide) dX10_addPaper_108 ?_
    refine w_gp (fun v => v.toInt = (g21 25 0 4).toInt) rfl (fun v22 e22 => ?_)
    have b22x : zB v22 0 11 := by have q9 : zB (g21 25 0 4) 0 11 := c21_25_0_4x; constructor <;> omega
    refine z_iconst (pc := 111) (v := 1) C dX10_addPaper_111 (by decide) ?_
    refine z_iadd (pc := 112) C dX10_addPaper_112 ?_
    refine w_gp (fun v => v.toInt = v22.toInt + 1) (zadd_eb b22x (zB.of (x := 1) 1 (by decide)) (by decide) (by decide)) (fun v23 e23 => ?_)
    have b23x : zB v23 1 12 := by have q1 := b22x; have q2 := (zB.of (x := 1) 1 (by decide)); constructor <;> omega
    refine z_putI (pc := 113) C zf_X10_77 zp_10_4 rfl rfl (by decide) dX10_addPaper_113 ?_
    refine w_mem2 hI21 hF21 (zB.wk (a' := 0) (b' := 12) b23x (by decide) (by decide)) rfl (fun g24 hI24 hF24 hq24 hx24 => ?_)
    have ec24 : (g24 25 0 4).toInt = v23.toInt := by rw [hx24]
    have c24x : zB (g24 25 0 4) 1 12 := by have q9 := b23x; constructor <;> omega
    refine z_aload_n (pc := 116) C dX10_addPaper_116 rfl ?_
    refine z_getI (pc := 117) C zf_X10_77 rfl rfl (by decide) dX10_addPaper_117 ?_
    refine w_gp (fun v => v.toInt = (g24 25 0 4).toInt) rfl (fun v25 e25 => ?_)
    have b25x : zB v25 1 12 := by have q9 : zB (g24 25 0 4) 1 12 := c24x; constructor <;> omega
    refine z_iconst (pc := 120) (v := 1) C dX10_addPaper_120 (by decide) ?_
    refine z_isub (pc := 121) C dX10_addPaper_121 ?_
    refine w_gp (fun v => v.toInt = v25.toInt - 1) (zsub_eb b25x (zB.of (x := 1) 1 (by decide)) (by decide) (by decide)) (fun v26 e26 => ?_)
    have b26x : zB v26 0 11 := by have q1 := b25x; have q2 := (zB.of (x := 1) 1 (by decide)); constructor <;> omega
    exact z_iret (pc := 122) C hr dX10_addPaper_122 ⟨⟨_, rfl, (zB.wk (a' := (-3)) (b' := 11) b26x (by decide) (by decide))⟩, hI24, hF24⟩
  · skip
    have b27x : zB v1 12 12 := by have q1 := b1x; have q2 := (zB.of (x := 12) 12 (by decide)); simp only [z32lt, z32le, z32eq, Int32.reduceToInt, Int32.toInt_zero] at h6_1; constructor <;> omega
    have c28x : zB (f 25 0 4) 12 12 := by constructor <;> omega
    refine z_bipush (pc := 9) (v := -3) C dX10_addPaper_9 (by decide) ?_
    exact z_iret (pc := 11) C hr dX10_addPaper_11 ⟨⟨_, rfl, (zB.wk (a' := (-3)) (b' := 11) (zB.of (x := (-3)) (-3) (by decide)) (by decide) (by decide))⟩, hI, hF⟩

set_option maxRecDepth 100000 in
set_option maxHeartbeats 4000000 in
theorem w_X10_years (d : Nat) (f : zM) (a1 : Int32) (b1 : zB a1 (-2147483648) 2147483647) (a2 : Int32) (b2 : zB a2 (-2147483648) 2147483647) (a3 : Int32) (b3 : zB a3 (-2147483648) 2147483647) (a4 : Int32) (b4 : zB a4 (-2147483648) 2147483647) (a5 : Int32) (b5 : zB a5 (-2147483648) 2147483647) (a6 : Int32) (b6 : zB a6 (-2147483648) 2147483647) (hI : zInv f) : ZM (d + 3) yX10_years cX10_years 7 (some .int) [zr 25 0, zi a1, zi a2, zi a3, zi a4, zi a5, zi a6] f (fun r g => (∃ v, r = some (zi v) ∧ zB v (-3) 11) ∧ zInv g ∧ zFr [(25, some 4), (28, none)] f g) := by
  refine ZM.intro (by decide +kernel) (Nat.le_of_ble_eq_true rfl) ?_
  intro X C hr hn
  have hF : zFr [(25, some 4), (28, none)] f f := zFr.rf _ _
  have J : ∀ t : Nat, (∀ g : zM, zInv g → zFr [(25, some 4), (28, none)] f g → (1 : Int) < t → Z X 44 [some (zr 25 0), some (zi a1), some (zi a2), some (zi a3), some (zi a4), some (zi a5), some (zi a6)] [] g) ∧ (∀ a45_s0 : Int32, zB a45_s0 (-3) 11 → ∀ g : zM, zInv g → zFr [(25, some 4), (28, none)] f g → (0 : Int) < t → Z X 45 [some (zr 25 0), some (zi a1), some (zi a2), some (zi a3), some (zi a4), some (zi a5), some (zi a6)] [zi a45_s0] g) := by
    intro t
    induction t with
    | zero =>
      refine ⟨?_, ?_⟩ <;> (intros; exfalso; omega)
    | succ t ih =>
      obtain ⟨ih0, ih1⟩ := ih
      refine ⟨?_, ?_⟩
      · skip
        intro g44_ hI44_ hF44_ hM44_
        refine z_iconst (pc := 44) (v := -1) C dX10_years_44 (by decide) ?_
        exact ih1 (-1) (zB.wk (a' := (-3)) (b' := 11) (zB.of (x := (-1)) (-1) (by decide)) (by decide) (by decide)) g44_ hI44_ hF44_  (by have qc0 : ((-1) : Int32).toInt = (-1) := (by decide); omega)
      · skip
        intro a45_s0 b45_s0 g45_ hI45_ hF45_ hM45_
        exact z_iret (pc := 45) C hr dX10_years_45 ⟨⟨_, rfl, b45_s0⟩, hI45_, hF45_⟩
  obtain ⟨J0, J1⟩ := J 13
  show Z X 0 [some (zr 25 0), some (zi a1), some (zi a2), some (zi a3), some (zi a4), some (zi a5), some (zi a6)] [] f
  refine z_iload_n (pc := 0) C dX10_years_0 rfl ?_
  refine z_iload_n (pc := 1) C dX10_years_1 rfl ?_
  refine z_iload (pc := 2) C dX10_years_2 rfl ?_
  refine z_iload (pc := 4) C dX10_years_4 rfl ?_
  refine z_iload (pc := 6) C dX10_years_6 rfl ?_
  refine z_callSb (pc := 8) C zk_X10_101 (m_X10_mayBe _ _ _ _ _ _ _) rfl rfl (Nat.le_of_ble_eq_true rfl) dX10_years_8 (fun h8_0 => ?_) (fun h8_0 => ?_)
  · skip
    have b2x : zB a1 0 5 := h8_0.1
    have b3x : zB a2 0 5 := h8_0.2.1
    have b4x : zB a4 0 31 := h8_0.2.2.2.1
    have b5x : zB a5 0 99 := h8_0.2.2.2.2.1
    have b6x : zB a6 0 7 := h8_0.2.2.2.2.2
    refine z_if_eq (pc := 11) 44 C dX10_years_11 (by decide) (fun h => absurd h (by decide)) (fun _ => ?_)
    refine z_iload_n (pc := 14) C dX10_years_14 rfl ?_
    refine z_i2l (pc := 15) C dX10_years_15 ?_
    refine z_lconst (pc := 16) (v := 1) C dX10_years_16 (by decide) ?_
    refine z_ldc2 (pc := 17) C zw_1128 dX10_years_17 ?_
    refine z_callSb (pc := 20) C zk_X10_69 (m_X10_in _ _ _ _ _) rfl rfl (Nat.le_of_ble_eq_true rfl) dX10_years_20 (fun h20_6 => ?_) (fun h20_6 => ?_)
    · skip
      have b8x : zB a3 1 40 := zin64 h20_6 rfl rfl
      refine z_if_eq (pc := 23) 44 C dX10_years_23 (by decide) (fun h => absurd h (by decide)) (fun _ => ?_)
      refine z_aload_n (pc := 26) C dX10_years_26 rfl ?_
      refine z_iconst (pc := 27) (v := 0) C dX10_years_27 (by decide) ?_
      refine z_iload_n (pc := 28) C dX10_years_28 rfl ?_
      refine z_iload_n (pc := 29) C dX10_years_29 rfl ?_
      refine z_iload_n (pc := 30) C dX10_years_30 rfl ?_
      refine z_iconst (pc := 31) (v := 0) C dX10_years_31 (by decide) ?_
      refine z_iload (pc := 32) C dX10_years_32 rfl ?_
      refine z_iload (pc := 34) C dX10_years_34 rfl ?_
      refine z_iload (pc := 36) C dX10_years_36 rfl ?_
      refine z_callV (pc := 38) C zk_X10_105 (w_X10_addPaper _ _ 0 (zB.wk (a' := 0) (b' := 2) (zB.of (x := 0) 0 (by decide)) (by decide) (by decide)) a1 b2x a2 b3x a3 (zB.wk (a' := 0) (b' := 40) b8x (by decide) (by decide)) 0 (zB.wk (a' := (-2147483648)) (b' := 2147483647) (zB.of (x := 0) 0 (by decide)) (by decide) (by decide)) a4 b4x a5 b5x a6 b6x hI) rfl rfl (by decide) rfl rfl (Nat.le_of_ble_eq_true rfl) dX10_years_38 (fun r9 g9 q9 => ?_)
      obtain ⟨⟨v9, rfl, b9x⟩, hI9, hF9q⟩ := q9
      have hF9 := zFr.tr hF hF9q (by decide)
      simp only [Option.toList, List.cons_append, List.nil_append]
      refine z_goto (pc := 41) 45 C dX10_years_41 (by decide) ?_
      exact J1 v9 b9x g9 hI9 hF9  (by omega)
    · skip
      refine z_if_eq (pc := 23) 44 C dX10_years_23 (by decide) (fun _ => ?_) (fun h => absurd (by decide) h)
      exact J0  f hI hF  (by omega)
  · skip
    refine z_if_eq (pc := 11) 44 C dX10_years_11 (by decide) (fun _ => ?_) (fun h => absurd (by decide) h)
    exact J0  f hI hF  (by omega)

set_option maxRecDepth 100000 in
set_option maxHeartbeats 4000000 in
theorem w_X10_named (d : Nat) (f : zM) (a1 : Int32) (b1 : zB a1 (-2147483648) 2147483647) (a2 : Int32) (b2 : zB a2 (-2147483648) 2147483647) (a3 : Int32) (b3 : zB a3 (-2147483648) 2147483647) (a4 : Int32) (b4 : zB a4 (-2147483648) 2147483647) (a5 : Int32) (b5 : zB a5 (-2147483648) 2147483647) (a6 : Int32) (b6 : zB a6 (-2147483648) 2147483647) (hI : zInv f) : ZM (d + 3) yX10_named cX10_named 9 (some .int) [zr 25 0, zi a1, zi a2, zi a3, zi a4, zi a5, zi a6] f (fun r g => (∃ v, r = some (zi v) ∧ zB v (-3) 11) ∧ zInv g ∧ zFr [(25, some 4), (28, none)] f g) := by
  refine ZM.intro (by decide +kernel) (Nat.le_of_ble_eq_true rfl) ?_
  intro X C hr hn
  have hF : zFr [(25, some 4), (28, none)] f f := zFr.rf _ _
  have J : ∀ t : Nat, (∀ g : zM, zInv g → zFr [(25, some 4), (28, none)] f g → (231 : Int) < t → Z X 36 [some (zr 25 0), some (zi a1), some (zi a2), some (zi a3), some (zi a4), some (zi a5), some (zi a6), none, none] [] g) ∧ (∀ a37_s0 : Int32, zB a37_s0 0 1 → ∀ g : zM, zInv g → zFr [(25, some 4), (28, none)] f g → ((1 ≤ a37_s0.toInt → 0 ≤ a1.toInt ∧ a1.toInt ≤ 5)) → ((1 ≤ a37_s0.toInt → 0 ≤ a2.toInt ∧ a2.toInt ≤ 5)) → ((1 ≤ a37_s0.toInt → 0 ≤ a4.toInt ∧ a4.toInt ≤ 31)) → ((1 ≤ a37_s0.toInt → 0 ≤ a5.toInt ∧ a5.toInt ≤ 99)) → ((1 ≤ a37_s0.toInt → 0 ≤ a6.toInt ∧ a6.toInt ≤ 7)) → (230 : Int) < t → Z X 37 [some (zr 25 0), some (zi a1), some (zi a2), some (zi a3), some (zi a4), some (zi a5), some (zi a6), none, none] [zi a37_s0] g) ∧ (∀ a42_7 : Int32, zB a42_7 0 1 → ∀ a42_8 : Int32, zB a42_8 0 24 → ∀ g : zM, zInv g → zFr [(25, some 4), (28, none)] f g → ((1 ≤ a42_7.toInt → 0 ≤ a1.toInt ∧ a1.toInt ≤ 5)) → ((1 ≤ a42_7.toInt → 0 ≤ a2.toInt ∧ a2.toInt ≤ 5)) → ((1 ≤ a42_7.toInt → 0 ≤ a4.toInt ∧ a4.toInt ≤ 31)) → ((1 ≤ a42_7.toInt → 0 ≤ a5.toInt ∧ a5.toInt ≤ 99)) → ((1 ≤ a42_7.toInt → 0 ≤ a6.toInt ∧ a6.toInt ≤ 7)) → (4 + 9 * (24 - a42_8.toInt) : Int) < t → Z X 42 [some (zr 25 0), some (zi a1), some (zi a2), some (zi a3), some (zi a4), some (zi a5), some (zi a6), some (zi a42_7), some (zi a42_8)] [] g) ∧ (zB a1 0 5 → zB a2 0 5 → zB a4 0 31 → zB a5 0 99 → zB a6 0 7 → ∀ a79_7 : Int32, zB a79_7 1 1 → ∀ a79_8 : Int32, zB a79_8 0 23 → ∀ g : zM, zInv g → zFr [(25, some 4), (28, none)] f g → (3 + 9 * (24 - a79_8.toInt) : Int) < t → Z X 79 [some (zr 25 0), some (zi a1), some (zi a2), some (zi a3), some (zi a4), some (zi a5), some (zi a6), some (zi a79_7), some (zi a79_8)] [] g) ∧ (zB a1 0 5 → zB a2 0 5 → zB a4 0 31 → zB a5 0 99 → zB a6 0 7 → ∀ a84_7 : Int32, zB a84_7 1 1 → ∀ a84_8 : Int32, zB a84_8 0 23 → ∀ a84_s0 : Int32, zB a84_s0 0 1 → ∀ g : zM, zInv g → zFr [(25, some 4), (28, none)] f g → (2 + 9 * (24 - a84_8.toInt) : Int) < t → Z X 84 [some (zr 25 0), some (zi a1), some (zi a2), some (zi a3), some (zi a4), some (zi a5), some (zi a6), some (zi a84_7), some (zi a84_8)] [zi a84_s0] g) ∧ (∀ a92_7 : Int32, zB a92_7 0 1 → ∀ a92_8 : Int32, zB a92_8 0 24 → ∀ g : zM, zInv g → zFr [(25, some 4), (28, none)] f g → ((1 ≤ a92_7.toInt → 0 ≤ a1.toInt ∧ a1.toInt ≤ 5)) → ((1 ≤ a92_7.toInt → 0 ≤ a2.toInt ∧ a2.toInt ≤ 5)) → ((1 ≤ a92_7.toInt → 0 ≤ a4.toInt ∧ a4.toInt ≤ 31)) → ((1 ≤ a92_7.toInt → 0 ≤ a5.toInt ∧ a5.toInt ≤ 99)) → ((1 ≤ a92_7.toInt → 0 ≤ a6.toInt ∧ a6.toInt ≤ 7)) → (1 : Int) < t → Z X 92 [some (zr 25 0), some (zi a1), some (zi a2), some (zi a3), some (zi a4), some (zi a5), some (zi a6), some (zi a92_7), some (zi a92_8)] [] g) ∧ (∀ a116_7 : Int32, zB a116_7 0 1 → ∀ a116_8 : Int32, zB a116_8 0 24 → ∀ a116_s0 : Int32, zB a116_s0 (-3) 11 → ∀ g : zM, zInv g → zFr [(25, some 4), (28, none)] f g → (0 : Int) < t → Z X 116 [some (zr 25 0), some (zi a1), some (zi a2), some (zi a3), some (zi a4), some (zi a5), some (zi a6), some (zi a116_7), some (zi a116_8)] [zi a116_s0] g) := by
    intro t
    induction t with
    | zero =>
      refine ⟨?_, ?_, ?_, ?_, ?_, ?_, ?_⟩ <;> (intros; exfalso; omega)
    | succ t ih =>
      obtain ⟨ih0, ih1, ih2, ih3, ih4, ih5, ih6⟩ := ih
      refine ⟨?_, ?_, ?_, ?_, ?_, ?_, ?_⟩
      · skip
        intro g36_ hI36_ hF36_ hM36_
        refine z_iconst (pc := 36) (v := 0) C dX10_named_36 (by decide) ?_
        exact ih1 0 (zB.wk (a' := 0) (b' := 1) (zB.of (x := 0) 0 (by decide)) (by decide) (by decide)) g36_ hI36_ hF36_ (by have qc0 : (0 : Int32).toInt = 0 := (by decide); omega) (by have qc0 : (0 : Int32).toInt = 0 := (by decide); omega) (by have qc0 : (0 : Int32).toInt = 0 := (by decide); omega) (by have qc0 : (0 : Int32).toInt = 0 := (by decide); omega) (by have qc0 : (0 : Int32).toInt = 0 := (by decide); omega) (by have qc0 : (0 : Int32).toInt = 0 := (by decide); omega)
      · skip
        intro a37_s0 b37_s0 g37_ hI37_ hF37_ hR37_0 hR37_1 hR37_2 hR37_3 hR37_4 hM37_
        refine z_istore (pc := 37) C dX10_named_37 (by rw [hn]; decide) rfl ?_
        refine z_iconst (pc := 39) (v := 0) C dX10_named_39 (by decide) ?_
        refine z_istore (pc := 40) C dX10_named_40 (by rw [hn]; decide) rfl ?_
        exact ih2 a37_s0 b37_s0 0 (zB.wk (a' := 0) (b' := 24) (zB.of (x := 0) 0 (by decide)) (by decide) (by decide)) g37_ hI37_ hF37_ (by have qc0 : (0 : Int32).toInt = 0 := (by decide); omega) (by have qc0 : (0 : Int32).toInt = 0 := (by decide); omega) (by have qc0 : (0 : Int32).toInt = 0 := (by decide); omega) (by have qc0 : (0 : Int32).toInt = 0 := (by decide); omega) (by have qc0 : (0 : Int32).toInt = 0 := (by decide); omega) (by have qc0 : (0 : Int32).toInt = 0 := (by decide); omega)
      · skip
        intro a42_7 b42_7 a42_8 b42_8 g42_ hI42_ hF42_ hR42_0 hR42_1 hR42_2 hR42_3 hR42_4 hM42_
        refine z_iload (pc := 42) C dX10_named_42 rfl ?_
        refine z_aload_n (pc := 44) C dX10_named_44 rfl ?_
        refine z_getI (pc := 45) C zf_X10_80 rfl rfl (by decide) dX10_named_45 ?_
        refine w_gb 0 24 (hI42_ 25 _ 0) (fun v1 b1x => ?_)
        refine z_icmp_ge (pc := 48) 92 C dX10_named_48 (by decide) (fun h48_1 => ?_) (fun h48_1 => ?_)
        · skip
          exact ih5 a42_7 b42_7 a42_8 b42_8 g42_ hI42_ hF42_ (by omega) (by omega) (by omega) (by omega) (by omega) (by omega)
        · skip
          have b3x : zB a42_8 0 23 := by have q1 := b42_8; have q2 := b1x; simp only [z32lt, z32le, z32eq, Int32.reduceToInt, Int32.toInt_zero] at h48_1; constructor <;> omega
          have b4x : zB v1 1 24 := by have q1 := b42_8; have q2 := b1x; simp only [z32lt, z32le, z32eq, Int32.reduceToInt, Int32.toInt_zero] at h48_1; constructor <;> omega
          refine z_iload (pc := 51) C dX10_named_51 rfl ?_
          refine z_if_eq (pc := 53) 92 C dX10_named_53 (by decide) (fun h53_4 => ?_) (fun h53_4 => ?_)
          · skip
            have b6x : zB a42_7 0 0 := by have q1 := b42_7; have q2 := (zB.of (x := 0) 0 (by decide)); simp only [z32lt, z32le, z32eq, Int32.reduceToInt, Int32.toInt_zero] at h53_4; constructor <;> omega
            exact ih5 a42_7 (zB.wk (a' := 0) (b' := 1) b6x (by decide) (by decide)) a42_8 (zB.wk (a' := 0) (b' := 24) b3x (by decide) (by decide)) g42_ hI42_ hF42_ (by omega) (by omega) (by omega) (by omega) (by omega) (by omega)
          · skip
            have b7x : zB a42_7 1 1 := by have q1 := b42_7; have q2 := (zB.of (x := 0) 0 (by decide)); simp only [z32lt, z32le, z32eq, Int32.reduceToInt, Int32.toInt_zero] at h53_4; constructor <;> omega
            have b8x : zB a1 0 5 := by constructor <;> omega
            have b9x : zB a2 0 5 := by constructor <;> omega
            have b10x : zB a4 0 31 := by constructor <;> omega
            have b11x : zB a5 0 99 := by constructor <;> omega
            have b12x : zB a6 0 7 := by constructor <;> omega
            refine z_iload_n (pc := 56) C dX10_named_56 rfl ?_
            refine z_iload (pc := 57) C dX10_named_57 rfl ?_
            refine z_ishr (pc := 59) C dX10_named_59 ?_
            refine w_gb (-2147483648) 2147483647 (zB_any _) (fun v13 b13x => ?_)
            refine z_iconst (pc := 60) (v := 1) C dX10_named_60 (by decide) ?_
            refine z_iand (pc := 61) C dX10_named_61 ?_
            refine w_gb 0 1 (zand_b b13x (zB.of (x := 1) 1 (by decide)) (by decide)) (fun v14 b14x => ?_)
            refine z_if_eq (pc := 62) 79 C dX10_named_62 (by decide) (fun h62_14 => ?_) (fun h62_14 => ?_)
            · skip
              have b16x : zB v14 0 0 := by have q1 := b14x; have q2 := (zB.of (x := 0) 0 (by decide)); simp only [z32lt, z32le, z32eq, Int32.reduceToInt, Int32.toInt_zero] at h62_14; constructor <;> omega
              exact ih3 b8x b9x b10x b11x b12x a42_7 b7x a42_8 b3x g42_ hI42_ hF42_  (by omega)
            · skip
              have b17x : zB v14 1 1 := by have q1 := b14x; have q2 := (zB.of (x := 0) 0 (by decide)); simp only [z32lt, z32le, z32eq, Int32.reduceToInt, Int32.toInt_zero] at h62_14; constructor <;> omega
              refine z_aload_n (pc := 65) C dX10_named_65 rfl ?_
              refine z_getR (pc := 66) C zf_X10_7 rfl rfl (by decide) dX10_named_66 ?_
              refine z_bipush (pc := 69) (v := 6) C dX10_named_69 (by decide) ?_
              refine z_iload (pc := 71) C dX10_named_71 rfl ?_
              refine z_imul (pc := 73) C dX10_named_73 ?_
              refine w_gp (fun v => v.toInt = 6 * a42_8.toInt) (zmul_kb 6 (by decide) (by decide) b3x (by decide) (by decide)) (fun v18 e18 => ?_)
              have b18x : zB v18 0 138 := zmul_bb e18 (by decide) b3x
              refine z_iald (pc := 74) C rfl (by decide) (zIx b18x (by decide) (by decide)) dX10_named_74 ?_
              refine w_gb 0 5 (by have hq9 := hI42_ 26 0 v18.toNatClampNeg; rw [zrg26 (r := 0) (by have hq : v18.toNatClampNeg = v18.toInt.toNat := rfl; have hq2 := b18x; omega)] at hq9; exact hq9) (fun v19 b19x => ?_)
              refine z_iload_n (pc := 75) C dX10_named_75 rfl ?_
              refine z_icmp_ne (pc := 76) 83 C dX10_named_76 (by decide) (fun h76_19 => ?_) (fun h76_19 => ?_)
              · skip
                refine z_iconst (pc := 83) (v := 0) C dX10_named_83 (by decide) ?_
                exact ih4 b8x b9x b10x b11x b12x a42_7 b7x a42_8 b3x 0 (zB.wk (a' := 0) (b' := 1) (zB.of (x := 0) 0 (by decide)) (by decide) (by decide)) g42_ hI42_ hF42_  (by have qc0 : (0 : Int32).toInt = 0 := (by decide); omega)
              · skip
                exact ih3 b8x b9x b10x b11x b12x a42_7 b7x a42_8 b3x g42_ hI42_ hF42_  (by omega)
      · skip
        intro b79_1 b79_2 b79_4 b79_5 b79_6 a79_7 b79_7 a79_8 b79_8 g79_ hI79_ hF79_ hM79_
        refine z_iconst (pc := 79) (v := 1) C dX10_named_79 (by decide) ?_
        refine z_goto (pc := 80) 84 C dX10_named_80 (by decide) ?_
        exact ih4 b79_1 b79_2 b79_4 b79_5 b79_6 a79_7 b79_7 a79_8 b79_8 1 (zB.wk (a' := 0) (b' := 1) (zB.of (x := 1) 1 (by decide)) (by decide) (by decide)) g79_ hI79_ hF79_  (by have qc0 : (1 : Int32).toInt = 1 := (by decide); omega)
      · skip
        intro b84_1 b84_2 b84_4 b84_5 b84_6 a84_7 b84_7 a84_8 b84_8 a84_s0 b84_s0 g84_ hI84_ hF84_ hM84_
        refine z_istore (pc := 84) C dX10_named_84 (by rw [hn]; decide) rfl ?_
        refine z_iinc (pc := 86) (v := 1) C dX10_named_86 rfl (by decide) (by rw [hn]; decide) rfl ?_
        obtain ⟨v21, hv21, e21⟩ : ∃ v : Int32, v = a84_8 + 1 ∧ v.toInt = a84_8.toInt + 1 := ⟨_, rfl, zadd_eb b84_8 (zB.of (x := 1) 1 (by decide)) (by decide) (by decide)⟩
        rw [← hv21]
        have b21x : zB v21 1 24 := by have q9 := b84_8; constructor <;> omega
        refine z_goto (pc := 89) 42 C dX10_named_89 (by decide) ?_
        exact ih2 a84_s0 b84_s0 v21 (zB.wk (a' := 0) (b' := 24) b21x (by decide) (by decide)) g84_ hI84_ hF84_ (by omega) (by omega) (by omega) (by omega) (by omega) (by omega)
      · skip
        intro a92_7 b92_7 a92_8 b92_8 g92_ hI92_ hF92_ hR92_0 hR92_1 hR92_2 hR92_3 hR92_4 hM92_
        refine z_iload (pc := 92) C dX10_named_92 rfl ?_
        refine z_if_eq (pc := 94) 115 C dX10_named_94 (by decide) (fun h94_21 => ?_) (fun h94_21 => ?_)
        · skip
          have b23x : zB a92_7 0 0 := by have q1 := b92_7; have q2 := (zB.of (x := 0) 0 (by decide)); simp only [z32lt, z32le, z32eq, Int32.reduceToInt, Int32.toInt_zero] at h94_21; constructor <;> omega
          refine z_iconst (pc := 115) (v := -1) C dX10_named_115 (by decide) ?_
          exact ih6 a92_7 (zB.wk (a' := 0) (b' := 1) b23x (by decide) (by decide)) a92_8 b92_8 (-1) (zB.wk (a' := (-3)) (b' := 11) (zB.of (x := (-1)) (-1) (by decide)) (by decide) (by decide)) g92_ hI92_ hF92_  (by have qc0 : ((-1) : Int32).toInt = (-1) := (by decide); omega)
        · skip
          have b24x : zB a92_7 1 1 := by have q1 := b92_7; have q2 := (zB.of (x := 0) 0 (by decide)); simp only [z32lt, z32le, z32eq, Int32.reduceToInt, Int32.toInt_zero] at h94_21; constructor <;> omega
          have b25x : zB a1 0 5 := by constructor <;> omega
          have b26x : zB a2 0 5 := by constructor <;> omega
          have b27x : zB a4 0 31 := by constructor <;> omega
          have b28x : zB a5 0 99 := by constructor <;> omega
          have b29x : zB a6 0 7 := by constructor <;> omega
          refine z_aload_n (pc := 97) C dX10_named_97 rfl ?_
          refine z_iconst (pc := 98) (v := 1) C dX10_named_98 (by decide) ?_
          refine z_iload_n (pc := 99) C dX10_named_99 rfl ?_
          refine z_iload_n (pc := 100) C dX10_named_100 rfl ?_
          refine z_iconst (pc := 101) (v := 1) C dX10_named_101 (by decide) ?_
          refine z_iload_n (pc := 102) C dX10_named_102 rfl ?_
          refine z_iload (pc := 103) C dX10_named_103 rfl ?_
          refine z_iload (pc := 105) C dX10_named_105 rfl ?_
          refine z_iload (pc := 107) C dX10_named_107 rfl ?_
          refine z_callV (pc := 109) C zk_X10_105 (w_X10_addPaper _ _ 1 (zB.wk (a' := 0) (b' := 2) (zB.of (x := 1) 1 (by decide)) (by decide) (by decide)) a1 b25x a2 b26x 1 (zB.wk (a' := 0) (b' := 40) (zB.of (x := 1) 1 (by decide)) (by decide) (by decide)) a3 b3 a4 b27x a5 b28x a6 b29x hI92_) rfl rfl (by decide) rfl rfl (Nat.le_of_ble_eq_true rfl) dX10_named_109 (fun r30 g30 q30 => ?_)
          obtain ⟨⟨v30, rfl, b30x⟩, hI30, hF30q⟩ := q30
          have hF30 := zFr.tr hF92_ hF30q (by decide)
          simp only [Option.toList, List.cons_append, List.nil_append]
          refine z_goto (pc := 112) 116 C dX10_named_112 (by decide) ?_
          exact ih6 a92_7 (zB.wk (a' := 0) (b' := 1) b24x (by decide) (by decide)) a92_8 b92_8 v30 b30x g30 hI30 hF30  (by omega)
      · skip
        intro a116_7 b116_7 a116_8 b116_8 a116_s0 b116_s0 g116_ hI116_ hF116_ hM116_
        exact z_iret (pc := 116) C hr dX10_named_116 ⟨⟨_, rfl, b116_s0⟩, hI116_, hF116_⟩
  obtain ⟨J0, J1, J2, J3, J4, J5, J6⟩ := J 243
  show Z X 0 [some (zr 25 0), some (zi a1), some (zi a2), some (zi a3), some (zi a4), some (zi a5), some (zi a6), none, none] [] f
  refine z_iload_n (pc := 0) C dX10_named_0 rfl ?_
  refine z_iload_n (pc := 1) C dX10_named_1 rfl ?_
  refine z_iload (pc := 2) C dX10_named_2 rfl ?_
  refine z_iload (pc := 4) C dX10_named_4 rfl ?_
  refine z_iload (pc := 6) C dX10_named_6 rfl ?_
  refine z_callSb (pc := 8) C zk_X10_101 (m_X10_mayBe _ _ _ _ _ _ _) rfl rfl (Nat.le_of_ble_eq_true rfl) dX10_named_8 (fun h8_30 => ?_) (fun h8_30 => ?_)
  · skip
    have b32x : zB a1 0 5 := h8_30.1
    have b33x : zB a2 0 5 := h8_30.2.1
    have b34x : zB a4 0 31 := h8_30.2.2.2.1
    have b35x : zB a5 0 99 := h8_30.2.2.2.2.1
    have b36x : zB a6 0 7 := h8_30.2.2.2.2.2
    refine z_if_eq (pc := 11) 36 C dX10_named_11 (by decide) (fun h => absurd h (by decide)) (fun _ => ?_)
    refine z_iload_n (pc := 14) C dX10_named_14 rfl ?_
    refine z_i2l (pc := 15) C dX10_named_15 ?_
    refine z_lconst (pc := 16) (v := 1) C dX10_named_16 (by decide) ?_
    refine z_iconst (pc := 17) (v := 1) C dX10_named_17 (by decide) ?_
    refine z_aload_n (pc := 18) C dX10_named_18 rfl ?_
    refine z_getI (pc := 19) C zf_X10_80 rfl rfl (by decide) dX10_named_19 ?_
    refine w_gb 0 24 (hI 25 _ 0) (fun v37 b37x => ?_)
    refine z_ishl (pc := 22) C dX10_named_22 ?_
    refine w_gb 0 16777216 (zshl_b b37x 24 (by decide) (by decide)) (fun v38 b38x => ?_)
    refine z_iconst (pc := 23) (v := 1) C dX10_named_23 (by decide) ?_
    refine z_isub (pc := 24) C dX10_named_24 ?_
    refine w_gp (fun v => v.toInt = v38.toInt - 1) (zsub_eb b38x (zB.of (x := 1) 1 (by decide)) (by decide) (by decide)) (fun v39 e39 => ?_)
    have b39x : zB v39 (-1) 16777215 := by have q1 := b38x; have q2 := (zB.of (x := 1) 1 (by decide)); constructor <;> omega
    refine z_i2l (pc := 25) C dX10_named_25 ?_
    refine z_callSb (pc := 26) C zk_X10_69 (m_X10_in _ _ _ _ _) rfl rfl (Nat.le_of_ble_eq_true rfl) dX10_named_26 (fun h26_39 => ?_) (fun h26_39 => ?_)
    · skip
      have b41x : zB a3 1 16777215 := zin64v h26_39 rfl b39x
      have b41xr := zin64r h26_39
      refine z_if_eq (pc := 29) 36 C dX10_named_29 (by decide) (fun h => absurd h (by decide)) (fun _ => ?_)
      refine z_iconst (pc := 32) (v := 1) C dX10_named_32 (by decide) ?_
      refine z_goto (pc := 33) 37 C dX10_named_33 (by decide) ?_
      exact J1 1 (zB.wk (a' := 0) (b' := 1) (zB.of (x := 1) 1 (by decide)) (by decide) (by decide)) f hI hF (by have qc0 : (1 : Int32).toInt = 1 := (by decide); omega) (by have qc0 : (1 : Int32).toInt = 1 := (by decide); omega) (by have qc0 : (1 : Int32).toInt = 1 := (by decide); omega) (by have qc0 : (1 : Int32).toInt = 1 := (by decide); omega) (by have qc0 : (1 : Int32).toInt = 1 := (by decide); omega) (by have qc0 : (1 : Int32).toInt = 1 := (by decide); omega)
    · skip
      refine z_if_eq (pc := 29) 36 C dX10_named_29 (by decide) (fun _ => ?_) (fun h => absurd (by decide) h)
      exact J0  f hI hF  (by omega)
  · skip
    refine z_if_eq (pc := 11) 36 C dX10_named_11 (by decide) (fun _ => ?_) (fun h => absurd (by decide) h)
    exact J0  f hI hF  (by omega)

set_option maxRecDepth 100000 in
set_option maxHeartbeats 4000000 in
theorem w_X10_custom (d : Nat) (f : zM) (a1 : Int32) (b1 : zB a1 (-2147483648) 2147483647) (a2 : Int32) (b2 : zB a2 (-2147483648) 2147483647) (a3 : Int32) (b3 : zB a3 (-2147483648) 2147483647) (a4 : Int32) (b4 : zB a4 (-2147483648) 2147483647) (a5 : Int32) (b5 : zB a5 (-2147483648) 2147483647) (hI : zInv f) : ZM (d + 3) yX10_custom cX10_custom 6 (some .int) [zr 25 0, zi a1, zi a2, zi a3, zi a4, zi a5] f (fun r g => (∃ v, r = some (zi v) ∧ zB v (-3) 11) ∧ zInv g ∧ zFr [(25, some 4), (28, none)] f g) := by
  refine ZM.intro (by decide +kernel) (Nat.le_of_ble_eq_true rfl) ?_
  intro X C hr hn
  have hF : zFr [(25, some 4), (28, none)] f f := zFr.rf _ _
  have J : ∀ t : Nat, (∀ a31_s0 : Int32, zB a31_s0 (-3) 11 → ∀ g : zM, zInv g → zFr [(25, some 4), (28, none)] f g → (0 : Int) < t → Z X 31 [some (zr 25 0), some (zi a1), some (zi a2), some (zi a3), some (zi a4), some (zi a5)] [zi a31_s0] g) := by
    intro t
    induction t with
    | zero =>
      intros; exfalso; omega
    | succ t ih =>
      have ih0 := ih
      intro a31_s0 b31_s0 g31_ hI31_ hF31_ hM31_
      exact z_iret (pc := 31) C hr dX10_custom_31 ⟨⟨_, rfl, b31_s0⟩, hI31_, hF31_⟩
  have J0 := J 12
  show Z X 0 [some (zr 25 0), some (zi a1), some (zi a2), some (zi a3), some (zi a4), some (zi a5)] [] f
  refine z_iload_n (pc := 0) C dX10_custom_0 rfl ?_
  refine z_iload_n (pc := 1) C dX10_custom_1 rfl ?_
  refine z_iload_n (pc := 2) C dX10_custom_2 rfl ?_
  refine z_iload (pc := 3) C dX10_custom_3 rfl ?_
  refine z_iload (pc := 5) C dX10_custom_5 rfl ?_
  refine z_callSb (pc := 7) C zk_X10_101 (m_X10_mayBe _ _ _ _ _ _ _) rfl rfl (Nat.le_of_ble_eq_true rfl) dX10_custom_7 (fun h7_0 => ?_) (fun h7_0 => ?_)
  · skip
    have b2x : zB a1 0 5 := h7_0.1
    have b3x : zB a2 0 5 := h7_0.2.1
    have b4x : zB a3 0 31 := h7_0.2.2.2.1
    have b5x : zB a4 0 99 := h7_0.2.2.2.2.1
    have b6x : zB a5 0 7 := h7_0.2.2.2.2.2
    refine z_if_eq (pc := 10) 30 C dX10_custom_10 (by decide) (fun h => absurd h (by decide)) (fun _ => ?_)
    refine z_aload_n (pc := 13) C dX10_custom_13 rfl ?_
    refine z_iconst (pc := 14) (v := 2) C dX10_custom_14 (by decide) ?_
    refine z_iload_n (pc := 15) C dX10_custom_15 rfl ?_
    refine z_iload_n (pc := 16) C dX10_custom_16 rfl ?_
    refine z_iconst (pc := 17) (v := 1) C dX10_custom_17 (by decide) ?_
    refine z_iconst (pc := 18) (v := 0) C dX10_custom_18 (by decide) ?_
    refine z_iload_n (pc := 19) C dX10_custom_19 rfl ?_
    refine z_iload (pc := 20) C dX10_custom_20 rfl ?_
    refine z_iload (pc := 22) C dX10_custom_22 rfl ?_
    refine z_callV (pc := 24) C zk_X10_105 (w_X10_addPaper _ _ 2 (zB.wk (a' := 0) (b' := 2) (zB.of (x := 2) 2 (by decide)) (by decide) (by decide)) a1 b2x a2 b3x 1 (zB.wk (a' := 0) (b' := 40) (zB.of (x := 1) 1 (by decide)) (by decide) (by decide)) 0 (zB.wk (a' := (-2147483648)) (b' := 2147483647) (zB.of (x := 0) 0 (by decide)) (by decide) (by decide)) a3 b4x a4 b5x a5 b6x hI) rfl rfl (by decide) rfl rfl (Nat.le_of_ble_eq_true rfl) dX10_custom_24 (fun r7 g7 q7 => ?_)
    obtain ⟨⟨v7, rfl, b7x⟩, hI7, hF7q⟩ := q7
    have hF7 := zFr.tr hF hF7q (by decide)
    simp only [Option.toList, List.cons_append, List.nil_append]
    refine z_goto (pc := 27) 31 C dX10_custom_27 (by decide) ?_
    exact J0 v7 b7x g7 hI7 hF7  (by omega)
  · skip
    refine z_if_eq (pc := 10) 30 C dX10_custom_10 (by decide) (fun _ => ?_) (fun h => absurd (by decide) h)
    refine z_iconst (pc := 30) (v := -1) C dX10_custom_30 (by decide) ?_
    exact J0 (-1) (zB.wk (a' := (-3)) (b' := 11) (zB.of (x := (-1)) (-1) (by decide)) (by decide) (by decide)) f hI hF  (by have qc0 : ((-1) : Int32).toInt = (-1) := (by decide); omega)

set_option maxRecDepth 100000 in
set_option maxHeartbeats 4000000 in
theorem w_X10_crimeOf (d : Nat) (f : zM) (a1 : Int32) (b1 : zB a1 (-2147483648) 2147483647) (a2 : Int32) (b2 : zB a2 (-2147483648) 2147483647) (hI : zInv f) : ZM (d + 1) yX10_crimeOf cX10_crimeOf 3 (some .int) [zr 25 0, zi a1, zi a2] f (fun r g => (∃ v, r = some (zi v) ∧ zB v (-2147483648) 2147483647) ∧ zInv g ∧ zFr [] f g) := by
  refine ZM.intro (by decide +kernel) (Nat.le_of_ble_eq_true rfl) ?_
  intro X C hr hn
  have hF : zFr [] f f := zFr.rf _ _
  have J : ∀ t : Nat, (∀ g : zM, zInv g → zFr [] f g → (1 : Int) < t → Z X 42 [some (zr 25 0), some (zi a1), some (zi a2)] [] g) ∧ (∀ a43_s0 : Int32, zB a43_s0 (-2147483648) 2147483647 → ∀ g : zM, zInv g → zFr [] f g → (0 : Int) < t → Z X 43 [some (zr 25 0), some (zi a1), some (zi a2)] [zi a43_s0] g) := by
    intro t
    induction t with
    | zero =>
      refine ⟨?_, ?_⟩ <;> (intros; exfalso; omega)
    | succ t ih =>
      obtain ⟨ih0, ih1⟩ := ih
      refine ⟨?_, ?_⟩
      · skip
        intro g42_ hI42_ hF42_ hM42_
        refine z_iconst (pc := 42) (v := -1) C dX10_crimeOf_42 (by decide) ?_
        exact ih1 (-1) (zB.wk (a' := (-2147483648)) (b' := 2147483647) (zB.of (x := (-1)) (-1) (by decide)) (by decide) (by decide)) g42_ hI42_ hF42_  (by have qc0 : ((-1) : Int32).toInt = (-1) := (by decide); omega)
      · skip
        intro a43_s0 b43_s0 g43_ hI43_ hF43_ hM43_
        exact z_iret (pc := 43) C hr dX10_crimeOf_43 ⟨⟨_, rfl, b43_s0⟩, hI43_, hF43_⟩
  obtain ⟨J0, J1⟩ := J 13
  show Z X 0 [some (zr 25 0), some (zi a1), some (zi a2)] [] f
  refine z_iload_n (pc := 0) C dX10_crimeOf_0 rfl ?_
  refine z_i2l (pc := 1) C dX10_crimeOf_1 ?_
  refine z_lconst (pc := 2) (v := 0) C dX10_crimeOf_2 (by decide) ?_
  refine z_aload_n (pc := 3) C dX10_crimeOf_3 rfl ?_
  refine z_getI (pc := 4) C zf_X10_80 rfl rfl (by decide) dX10_crimeOf_4 ?_
  refine w_gb 0 24 (hI 25 _ 0) (fun v1 b1x => ?_)
  refine z_iconst (pc := 7) (v := 1) C dX10_crimeOf_7 (by decide) ?_
  refine z_isub (pc := 8) C dX10_crimeOf_8 ?_
  refine w_gp (fun v => v.toInt = v1.toInt - 1) (zsub_eb b1x (zB.of (x := 1) 1 (by decide)) (by decide) (by decide)) (fun v2 e2 => ?_)
  have b2x : zB v2 (-1) 23 := by have q1 := b1x; have q2 := (zB.of (x := 1) 1 (by decide)); constructor <;> omega
  refine z_i2l (pc := 9) C dX10_crimeOf_9 ?_
  refine z_callSb (pc := 10) C zk_X10_69 (m_X10_in _ _ _ _ _) rfl rfl (Nat.le_of_ble_eq_true rfl) dX10_crimeOf_10 (fun h10_2 => ?_) (fun h10_2 => ?_)
  · skip
    have b4x : zB a1 0 23 := zin64v h10_2 rfl b2x
    have b4xr := zin64r h10_2
    refine z_if_eq (pc := 13) 42 C dX10_crimeOf_13 (by decide) (fun h => absurd h (by decide)) (fun _ => ?_)
    refine z_iload_n (pc := 16) C dX10_crimeOf_16 rfl ?_
    refine z_i2l (pc := 17) C dX10_crimeOf_17 ?_
    refine z_lconst (pc := 18) (v := 0) C dX10_crimeOf_18 (by decide) ?_
    refine z_ldc2 (pc := 19) C zw_1123 dX10_crimeOf_19 ?_
    refine z_callSb (pc := 22) C zk_X10_69 (m_X10_in _ _ _ _ _) rfl rfl (Nat.le_of_ble_eq_true rfl) dX10_crimeOf_22 (fun h22_4 => ?_) (fun h22_4 => ?_)
    · skip
      have b6x : zB a2 0 5 := zin64 h22_4 rfl rfl
      refine z_if_eq (pc := 25) 42 C dX10_crimeOf_25 (by decide) (fun h => absurd h (by decide)) (fun _ => ?_)
      refine z_aload_n (pc := 28) C dX10_crimeOf_28 rfl ?_
      refine z_getR (pc := 29) C zf_X10_7 rfl rfl (by decide) dX10_crimeOf_29 ?_
      refine z_bipush (pc := 32) (v := 6) C dX10_crimeOf_32 (by decide) ?_
      refine z_iload_n (pc := 34) C dX10_crimeOf_34 rfl ?_
      refine z_imul (pc := 35) C dX10_crimeOf_35 ?_
      refine w_gp (fun v => v.toInt = 6 * a1.toInt) (zmul_kb 6 (by decide) (by decide) b4x (by decide) (by decide)) (fun v7 e7 => ?_)
      have b7x : zB v7 0 138 := zmul_bb e7 (by decide) b4x
      refine z_iload_n (pc := 36) C dX10_crimeOf_36 rfl ?_
      refine z_iadd (pc := 37) C dX10_crimeOf_37 ?_
      refine w_gp (fun v => v.toInt = v7.toInt + a2.toInt) (zadd_eb b7x b6x (by decide) (by decide)) (fun v8 e8 => ?_)
      have b8x : zB v8 0 143 := by have q1 := b7x; have q2 := b6x; constructor <;> omega
      refine z_iald (pc := 38) C rfl (by decide) (zIx b8x (by decide) (by decide)) dX10_crimeOf_38 ?_
      refine w_gb (-2147483648) 2147483647 (zB_any _) (fun v9 b9x => ?_)
      refine z_goto (pc := 39) 43 C dX10_crimeOf_39 (by decide) ?_
      exact J1 v9 b9x f hI hF  (by omega)
    · skip
      refine z_if_eq (pc := 25) 42 C dX10_crimeOf_25 (by decide) (fun _ => ?_) (fun h => absurd (by decide) h)
      exact J0  f hI hF  (by omega)
  · skip
    refine z_if_eq (pc := 13) 42 C dX10_crimeOf_13 (by decide) (fun _ => ?_) (fun h => absurd (by decide) h)
    exact J0  f hI hF  (by omega)

set_option maxRecDepth 100000 in
set_option maxHeartbeats 4000000 in
theorem w_X10_paper (d : Nat) (f : zM) (a1 : Int32) (b1 : zB a1 (-2147483648) 2147483647) (a2 : Int32) (b2 : zB a2 (-2147483648) 2147483647) (hI : zInv f) : ZM (d + 2) yX10_paper cX10_paper 5 (some .int) [zr 25 0, zi a1, zi a2] f (fun r g => (∃ v, r = some (zi v) ∧ zB v (-2147483648) 2147483647) ∧ zInv g ∧ zFr [] f g) := by
  refine ZM.intro (by decide +kernel) (Nat.le_of_ble_eq_true rfl) ?_
  intro X C hr hn
  have hF : zFr [] f f := zFr.rf _ _
  have J : ∀ t : Nat, (∀ g : zM, zInv g → zFr [] f g → (5 : Int) < t → Z X 20 [some (zr 25 0), some (zi a1), some (zi a2), none, none] [] g) ∧ (zB a1 0 11 → zB a2 0 7 → ∀ a41_3 : Int32, zB a41_3 0 2 → ∀ g : zM, zInv g → zFr [] f g → (4 : Int) < t → Z X 41 [some (zr 25 0), some (zi a1), some (zi a2), some (zi a41_3), none] [] g) ∧ (zB a1 0 11 → zB a2 3 4 → ∀ a51_3 : Int32, zB a51_3 0 2 → ∀ g : zM, zInv g → zFr [] f g → (3 : Int) < t → Z X 51 [some (zr 25 0), some (zi a1), some (zi a2), some (zi a51_3), none] [] g) ∧ (zB a1 0 11 → zB a2 0 7 → ∀ a55_3 : Int32, zB a55_3 0 2 → ∀ g : zM, zInv g → zFr [] f g → (2 : Int) < t → Z X 55 [some (zr 25 0), some (zi a1), some (zi a2), some (zi a55_3), none] [] g) ∧ (zB a1 0 11 → zB a2 0 7 → ∀ a56_3 : Int32, zB a56_3 0 2 → ∀ a56_s0 : Int32, zB a56_s0 0 1 → ∀ g : zM, zInv g → zFr [] f g → (1 : Int) < t → Z X 56 [some (zr 25 0), some (zi a1), some (zi a2), some (zi a56_3), none] [zi a56_s0] g) ∧ (zB a1 0 11 → zB a2 0 7 → ∀ a79_3 : Int32, zB a79_3 0 2 → ∀ a79_4 : Int32, zB a79_4 0 1 → ∀ a79_s0 : Int32, zB a79_s0 (-2147483648) 2147483647 → ∀ g : zM, zInv g → zFr [] f g → (0 : Int) < t → Z X 79 [some (zr 25 0), some (zi a1), some (zi a2), some (zi a79_3), some (zi a79_4)] [zi a79_s0] g) := by
    intro t
    induction t with
    | zero =>
      refine ⟨?_, ?_, ?_, ?_, ?_, ?_⟩ <;> (intros; exfalso; omega)
    | succ t ih =>
      obtain ⟨ih0, ih1, ih2, ih3, ih4, ih5⟩ := ih
      refine ⟨?_, ?_, ?_, ?_, ?_, ?_⟩
      · skip
        intro g20_ hI20_ hF20_ hM20_
        refine z_iconst (pc := 20) (v := -1) C dX10_paper_20 (by decide) ?_
        exact z_iret (pc := 21) C hr dX10_paper_21 ⟨⟨_, rfl, (zB.wk (a' := (-2147483648)) (b' := 2147483647) (zB.of (x := (-1)) (-1) (by decide)) (by decide) (by decide))⟩, hI20_, hF20_⟩
      · skip
        intro b41_1 b41_2 a41_3 b41_3 g41_ hI41_ hF41_ hM41_
        refine z_iload_n (pc := 41) C dX10_paper_41 rfl ?_
        refine z_iconst (pc := 42) (v := 4) C dX10_paper_42 (by decide) ?_
        refine z_icmp_ne (pc := 43) 55 C dX10_paper_43 (by decide) (fun h43_0 => ?_) (fun h43_0 => ?_)
        · skip
          exact ih3 b41_1 b41_2 a41_3 b41_3 g41_ hI41_ hF41_  (by omega)
        · skip
          have b2x : zB a2 4 4 := by have q1 := b41_2; have q2 := (zB.of (x := 4) 4 (by decide)); simp only [z32lt, z32le, z32eq, Int32.reduceToInt, Int32.toInt_zero] at h43_0; constructor <;> omega
          refine z_iload_n (pc := 46) C dX10_paper_46 rfl ?_
          refine z_iconst (pc := 47) (v := 1) C dX10_paper_47 (by decide) ?_
          refine z_icmp_eq (pc := 48) 55 C dX10_paper_48 (by decide) (fun h48_2 => ?_) (fun h48_2 => ?_)
          · skip
            have b4x : zB a41_3 1 1 := by have q1 := b41_3; have q2 := (zB.of (x := 1) 1 (by decide)); simp only [z32lt, z32le, z32eq, Int32.reduceToInt, Int32.toInt_zero] at h48_2; constructor <;> omega
            exact ih3 b41_1 (zB.wk (a' := 0) (b' := 7) b2x (by decide) (by decide)) a41_3 (zB.wk (a' := 0) (b' := 2) b4x (by decide) (by decide)) g41_ hI41_ hF41_  (by omega)
          · skip
            exact ih2 b41_1 (zB.wk (a' := 3) (b' := 4) b2x (by decide) (by decide)) a41_3 b41_3 g41_ hI41_ hF41_  (by omega)
      · skip
        intro b51_1 b51_2 a51_3 b51_3 g51_ hI51_ hF51_ hM51_
        refine z_iconst (pc := 51) (v := 1) C dX10_paper_51 (by decide) ?_
        refine z_goto (pc := 52) 56 C dX10_paper_52 (by decide) ?_
        exact ih4 b51_1 (zB.wk (a' := 0) (b' := 7) b51_2 (by decide) (by decide)) a51_3 b51_3 1 (zB.wk (a' := 0) (b' := 1) (zB.of (x := 1) 1 (by decide)) (by decide) (by decide)) g51_ hI51_ hF51_  (by have qc0 : (1 : Int32).toInt = 1 := (by decide); omega)
      · skip
        intro b55_1 b55_2 a55_3 b55_3 g55_ hI55_ hF55_ hM55_
        refine z_iconst (pc := 55) (v := 0) C dX10_paper_55 (by decide) ?_
        exact ih4 b55_1 b55_2 a55_3 b55_3 0 (zB.wk (a' := 0) (b' := 1) (zB.of (x := 0) 0 (by decide)) (by decide) (by decide)) g55_ hI55_ hF55_  (by have qc0 : (0 : Int32).toInt = 0 := (by decide); omega)
      · skip
        intro b56_1 b56_2 a56_3 b56_3 a56_s0 b56_s0 g56_ hI56_ hF56_ hM56_
        refine z_istore (pc := 56) C dX10_paper_56 (by rw [hn]; decide) rfl ?_
        refine z_iload (pc := 58) C dX10_paper_58 rfl ?_
        refine z_if_eq (pc := 60) 68 C dX10_paper_60 (by decide) (fun h60_4 => ?_) (fun h60_4 => ?_)
        · skip
          have b6x : zB a56_s0 0 0 := by have q1 := b56_s0; have q2 := (zB.of (x := 0) 0 (by decide)); simp only [z32lt, z32le, z32eq, Int32.reduceToInt, Int32.toInt_zero] at h60_4; constructor <;> omega
          refine z_aload_n (pc := 68) C dX10_paper_68 rfl ?_
          refine z_getR (pc := 69) C zf_X10_16 rfl rfl (by decide) dX10_paper_69 ?_
          refine z_bipush (pc := 72) (v := 8) C dX10_paper_72 (by decide) ?_
          refine z_iload_n (pc := 74) C dX10_paper_74 rfl ?_
          refine z_imul (pc := 75) C dX10_paper_75 ?_
          refine w_gp (fun v => v.toInt = 8 * a1.toInt) (zmul_kb 8 (by decide) (by decide) b56_1 (by decide) (by decide)) (fun v7 e7 => ?_)
          have b7x : zB v7 0 88 := zmul_bb e7 (by decide) b56_1
          refine z_iload_n (pc := 76) C dX10_paper_76 rfl ?_
          refine z_iadd (pc := 77) C dX10_paper_77 ?_
          refine w_gp (fun v => v.toInt = v7.toInt + a2.toInt) (zadd_eb b7x b56_2 (by decide) (by decide)) (fun v8 e8 => ?_)
          have b8x : zB v8 0 95 := by have q1 := b7x; have q2 := b56_2; constructor <;> omega
          refine z_iald (pc := 78) C rfl (by decide) (zIx b8x (by decide) (by decide)) dX10_paper_78 ?_
          refine w_gb (-2147483648) 2147483647 (zB_any _) (fun v9 b9x => ?_)
          exact ih5 b56_1 b56_2 a56_3 b56_3 a56_s0 (zB.wk (a' := 0) (b' := 1) b6x (by decide) (by decide)) v9 b9x g56_ hI56_ hF56_  (by omega)
        · skip
          have b10x : zB a56_s0 1 1 := by have q1 := b56_s0; have q2 := (zB.of (x := 0) 0 (by decide)); simp only [z32lt, z32le, z32eq, Int32.reduceToInt, Int32.toInt_zero] at h60_4; constructor <;> omega
          refine z_bipush (pc := 63) (v := -12) C dX10_paper_63 (by decide) ?_
          refine z_goto (pc := 65) 79 C dX10_paper_65 (by decide) ?_
          exact ih5 b56_1 b56_2 a56_3 b56_3 a56_s0 (zB.wk (a' := 0) (b' := 1) b10x (by decide) (by decide)) (-12) (zB.wk (a' := (-2147483648)) (b' := 2147483647) (zB.of (x := (-12)) (-12) (by decide)) (by decide) (by decide)) g56_ hI56_ hF56_  (by have qc0 : ((-12) : Int32).toInt = (-12) := (by decide); omega)
      · skip
        intro b79_1 b79_2 a79_3 b79_3 a79_4 b79_4 a79_s0 b79_s0 g79_ hI79_ hF79_ hM79_
        exact z_iret (pc := 79) C hr dX10_paper_79 ⟨⟨_, rfl, b79_s0⟩, hI79_, hF79_⟩
  obtain ⟨J0, J1, J2, J3, J4, J5⟩ := J 17
  show Z X 0 [some (zr 25 0), some (zi a1), some (zi a2), none, none] [] f
  refine z_aload_n (pc := 0) C dX10_paper_0 rfl ?_
  refine z_iload_n (pc := 1) C dX10_paper_1 rfl ?_
  refine z_callVb (pc := 2) C zk_X10_109 (m_X10_isPaper _ _ _ hI) rfl rfl (by decide) rfl rfl (Nat.le_of_ble_eq_true rfl) dX10_paper_2 (fun h2_10 => ?_) (fun h2_10 => ?_)
  · skip
    have b12x : zB a1 0 11 := (zltc h2_10 (hI 25 0 4).2)
    refine z_if_eq (pc := 5) 20 C dX10_paper_5 (by decide) (fun h => absurd h (by decide)) (fun _ => ?_)
    refine z_iload_n (pc := 8) C dX10_paper_8 rfl ?_
    refine z_i2l (pc := 9) C dX10_paper_9 ?_
    refine z_lconst (pc := 10) (v := 0) C dX10_paper_10 (by decide) ?_
    refine z_ldc2 (pc := 11) C zw_1146 dX10_paper_11 ?_
    refine z_callSb (pc := 14) C zk_X10_69 (m_X10_in _ _ _ _ _) rfl rfl (Nat.le_of_ble_eq_true rfl) dX10_paper_14 (fun h14_12 => ?_) (fun h14_12 => ?_)
    · skip
      have b14x : zB a2 0 7 := zin64 h14_12 rfl rfl
      refine z_if_ne (pc := 17) 22 C dX10_paper_17 (by decide) (fun _ => ?_) (fun h => absurd h (by decide))
      refine z_aload_n (pc := 22) C dX10_paper_22 rfl ?_
      refine z_getR (pc := 23) C zf_X10_16 rfl rfl (by decide) dX10_paper_23 ?_
      refine z_bipush (pc := 26) (v := 8) C dX10_paper_26 (by decide) ?_
      refine z_iload_n (pc := 28) C dX10_paper_28 rfl ?_
      refine z_imul (pc := 29) C dX10_paper_29 ?_
      refine w_gp (fun v => v.toInt = 8 * a1.toInt) (zmul_kb 8 (by decide) (by decide) b12x (by decide) (by decide)) (fun v15 e15 => ?_)
      have b15x : zB v15 0 88 := zmul_bb e15 (by decide) b12x
      refine z_iald (pc := 30) C rfl (by decide) (zIx b15x (by decide) (by decide)) dX10_paper_30 ?_
      refine w_gb 0 2 (by have hq9 := hI 28 0 v15.toNatClampNeg; rw [zrg28 (r := 0) (by have hq : v15.toNatClampNeg = v15.toInt.toNat := rfl; have hq2 := b15x; omega)] at hq9; exact hq9) (fun v16 b16x => ?_)
      refine z_istore_n (pc := 31) C dX10_paper_31 (by rw [hn]; decide) rfl ?_
      refine z_iload_n (pc := 32) C dX10_paper_32 rfl ?_
      refine z_iconst (pc := 33) (v := 3) C dX10_paper_33 (by decide) ?_
      refine z_icmp_ne (pc := 34) 41 C dX10_paper_34 (by decide) (fun h34_16 => ?_) (fun h34_16 => ?_)
      · skip
        exact J1 b12x b14x v16 b16x f hI hF  (by omega)
      · skip
        have b18x : zB a2 3 3 := by have q1 := b14x; have q2 := (zB.of (x := 3) 3 (by decide)); simp only [z32lt, z32le, z32eq, Int32.reduceToInt, Int32.toInt_zero] at h34_16; constructor <;> omega
        refine z_iload_n (pc := 37) C dX10_paper_37 rfl ?_
        refine z_if_ne (pc := 38) 51 C dX10_paper_38 (by decide) (fun h38_18 => ?_) (fun h38_18 => ?_)
        · skip
          have b20x : zB v16 1 2 := by have q1 := b16x; have q2 := (zB.of (x := 0) 0 (by decide)); simp only [z32lt, z32le, z32eq, Int32.reduceToInt, Int32.toInt_zero] at h38_18; constructor <;> omega
          exact J2 b12x (zB.wk (a' := 3) (b' := 4) b18x (by decide) (by decide)) v16 (zB.wk (a' := 0) (b' := 2) b20x (by decide) (by decide)) f hI hF  (by omega)
        · skip
          have b21x : zB v16 0 0 := by have q1 := b16x; have q2 := (zB.of (x := 0) 0 (by decide)); simp only [z32lt, z32le, z32eq, Int32.reduceToInt, Int32.toInt_zero] at h38_18; constructor <;> omega
          exact J1 b12x (zB.wk (a' := 0) (b' := 7) b18x (by decide) (by decide)) v16 (zB.wk (a' := 0) (b' := 2) b21x (by decide) (by decide)) f hI hF  (by omega)
    · skip
      refine z_if_ne (pc := 17) 22 C dX10_paper_17 (by decide) (fun h => absurd (by decide) h) (fun _ => ?_)
      exact J0  f hI hF  (by omega)
  · skip
    refine z_if_eq (pc := 5) 20 C dX10_paper_5 (by decide) (fun _ => ?_) (fun h => absurd (by decide) h)
    exact J0  f hI hF  (by omega)

set_option maxRecDepth 100000 in
set_option maxHeartbeats 4000000 in
theorem w_X10_bars (d : Nat) (f : zM) (a1 : Int32) (b1 : zB a1 (-2147483648) 2147483647) (a2 : Int32) (b2 : zB a2 (-2147483648) 2147483647) (hI : zInv f) : ZM (d + 2) yX10_bars cX10_bars 4 (some .int) [zr 25 0, zi a1, zi a2] f (fun r g => (∃ v, r = some (zi v) ∧ zB v (-1) 31) ∧ zInv g ∧ zFr [(28, none)] f g) := by
  refine ZM.intro (by decide +kernel) (Nat.le_of_ble_eq_true rfl) ?_
  intro X C hr hn
  have hF : zFr [(28, none)] f f := zFr.rf _ _
  have J : ∀ t : Nat, (∀ g : zM, zInv g → zFr [(28, none)] f g → (0 : Int) < t → Z X 20 [some (zr 25 0), some (zi a1), some (zi a2), none] [] g) := by
    intro t
    induction t with
    | zero =>
      intros; exfalso; omega
    | succ t ih =>
      have ih0 := ih
      intro g20_ hI20_ hF20_ hM20_
      refine z_iconst (pc := 20) (v := -1) C dX10_bars_20 (by decide) ?_
      exact z_iret (pc := 21) C hr dX10_bars_21 ⟨⟨_, rfl, (zB.wk (a' := (-1)) (b' := 31) (zB.of (x := (-1)) (-1) (by decide)) (by decide) (by decide))⟩, hI20_, hF20_⟩
  have J0 := J 12
  show Z X 0 [some (zr 25 0), some (zi a1), some (zi a2), none] [] f
  refine z_aload_n (pc := 0) C dX10_bars_0 rfl ?_
  refine z_iload_n (pc := 1) C dX10_bars_1 rfl ?_
  refine z_callVb (pc := 2) C zk_X10_109 (m_X10_isPaper _ _ _ hI) rfl rfl (by decide) rfl rfl (Nat.le_of_ble_eq_true rfl) dX10_bars_2 (fun h2_0 => ?_) (fun h2_0 => ?_)
  · skip
    have b2x : zB a1 0 11 := (zltc h2_0 (hI 25 0 4).2)
    refine z_if_eq (pc := 5) 20 C dX10_bars_5 (by decide) (fun h => absurd h (by decide)) (fun _ => ?_)
    refine z_iload_n (pc := 8) C dX10_bars_8 rfl ?_
    refine z_i2l (pc := 9) C dX10_bars_9 ?_
    refine z_lconst (pc := 10) (v := 0) C dX10_bars_10 (by decide) ?_
    refine z_ldc2 (pc := 11) C zw_1145 dX10_bars_11 ?_
    refine z_callSb (pc := 14) C zk_X10_69 (m_X10_in _ _ _ _ _) rfl rfl (Nat.le_of_ble_eq_true rfl) dX10_bars_14 (fun h14_2 => ?_) (fun h14_2 => ?_)
    · skip
      have b4x : zB a2 0 31 := zin64 h14_2 rfl rfl
      refine z_if_ne (pc := 17) 22 C dX10_bars_17 (by decide) (fun _ => ?_) (fun h => absurd h (by decide))
      refine z_aload_n (pc := 22) C dX10_bars_22 rfl ?_
      refine z_getR (pc := 23) C zf_X10_16 rfl rfl (by decide) dX10_bars_23 ?_
      refine z_bipush (pc := 26) (v := 8) C dX10_bars_26 (by decide) ?_
      refine z_iload_n (pc := 28) C dX10_bars_28 rfl ?_
      refine z_imul (pc := 29) C dX10_bars_29 ?_
      refine w_gp (fun v => v.toInt = 8 * a1.toInt) (zmul_kb 8 (by decide) (by decide) b2x (by decide) (by decide)) (fun v5 e5 => ?_)
      have b5x : zB v5 0 88 := zmul_bb e5 (by decide) b2x
      refine z_iconst (pc := 30) (v := 5) C dX10_bars_30 (by decide) ?_
      refine z_iadd (pc := 31) C dX10_bars_31 ?_
      refine w_gp (fun v => v.toInt = v5.toInt + 5) (zadd_eb b5x (zB.of (x := 5) 5 (by decide)) (by decide) (by decide)) (fun v6 e6 => ?_)
      have b6x : zB v6 5 93 := by have q1 := b5x; have q2 := (zB.of (x := 5) 5 (by decide)); constructor <;> omega
      refine z_iald (pc := 32) C rfl (by decide) (zIx b6x (by decide) (by decide)) dX10_bars_32 ?_
      refine w_gb 0 31 (by have hq9 := hI 28 0 v6.toNatClampNeg; rw [zrg28 (r := 5) (by have hq : v6.toNatClampNeg = v6.toInt.toNat := rfl; have hq2 := b6x; omega)] at hq9; exact hq9) (fun v7 b7x => ?_)
      refine z_istore_n (pc := 33) C dX10_bars_33 (by rw [hn]; decide) rfl ?_
      refine z_aload_n (pc := 34) C dX10_bars_34 rfl ?_
      refine z_getR (pc := 35) C zf_X10_16 rfl rfl (by decide) dX10_bars_35 ?_
      refine z_bipush (pc := 38) (v := 8) C dX10_bars_38 (by decide) ?_
      refine z_iload_n (pc := 40) C dX10_bars_40 rfl ?_
      refine z_imul (pc := 41) C dX10_bars_41 ?_
      refine w_gp (fun v => v.toInt = 8 * a1.toInt) (zmul_kb 8 (by decide) (by decide) b2x (by decide) (by decide)) (fun v8 e8 => ?_)
      have b8x : zB v8 0 88 := zmul_bb e8 (by decide) b2x
      refine z_iconst (pc := 42) (v := 5) C dX10_bars_42 (by decide) ?_
      refine z_iadd (pc := 43) C dX10_bars_43 ?_
      refine w_gp (fun v => v.toInt = v8.toInt + 5) (zadd_eb b8x (zB.of (x := 5) 5 (by decide)) (by decide) (by decide)) (fun v9 e9 => ?_)
      have b9x : zB v9 5 93 := by have q1 := b8x; have q2 := (zB.of (x := 5) 5 (by decide)); constructor <;> omega
      refine z_iload_n (pc := 44) C dX10_bars_44 rfl ?_
      refine z_iast (pc := 45) C rfl (by decide) (zIx b9x (by decide) (by decide)) dX10_bars_45 ?_
      refine w_mem hI hF (by rw [zrg28 (r := 5) (by have hq : v9.toNatClampNeg = v9.toInt.toNat := rfl; have hq2 := b9x; omega)]; exact b4x) rfl (fun g10 hI10 hF10 => ?_)
      refine z_iload_n (pc := 46) C dX10_bars_46 rfl ?_
      exact z_iret (pc := 47) C hr dX10_bars_47 ⟨⟨_, rfl, (zB.wk (a' := (-1)) (b' := 31) b7x (by decide) (by decide))⟩, hI10, hF10⟩
    · skip
      refine z_if_ne (pc := 17) 22 C dX10_bars_17 (by decide) (fun h => absurd (by decide) h) (fun _ => ?_)
      exact J0  f hI hF  (by omega)
  · skip
    refine z_if_eq (pc := 5) 20 C dX10_bars_5 (by decide) (fun _ => ?_) (fun h => absurd (by decide) h)
    exact J0  f hI hF  (by omega)

set_option maxRecDepth 100000 in
set_option maxHeartbeats 4000000 in
theorem w_X10_matches (d : Nat) (f : zM) (a1 : Int32) (b1 : zB a1 (-2147483648) 2147483647) (a2 : Int32) (b2 : zB a2 (-2147483648) 2147483647) (a3 : Int32) (b3 : zB a3 (-2147483648) 2147483647) (hI : zInv f) : ZM (d + 2) yX10_matches cX10_matches 4 (some .int) [zr 25 0, zi a1, zi a2, zi a3] f (fun r g => (∃ v, r = some (zi v) ∧ zB v (-1) 16777215) ∧ zInv g ∧ zFr [] f g) := by
  refine ZM.intro (by decide +kernel) (Nat.le_of_ble_eq_true rfl) ?_
  intro X C hr hn
  have hF : zFr [] f f := zFr.rf _ _
  have J : ∀ t : Nat, (∀ g : zM, zInv g → zFr [] f g → (1 : Int) < t → Z X 43 [some (zr 25 0), some (zi a1), some (zi a2), some (zi a3)] [] g) ∧ (∀ a44_s0 : Int32, zB a44_s0 (-1) 16777215 → ∀ g : zM, zInv g → zFr [] f g → (0 : Int) < t → Z X 44 [some (zr 25 0), some (zi a1), some (zi a2), some (zi a3)] [zi a44_s0] g) := by
    intro t
    induction t with
    | zero =>
      refine ⟨?_, ?_⟩ <;> (intros; exfalso; omega)
    | succ t ih =>
      obtain ⟨ih0, ih1⟩ := ih
      refine ⟨?_, ?_⟩
      · skip
        intro g43_ hI43_ hF43_ hM43_
        refine z_iconst (pc := 43) (v := -1) C dX10_matches_43 (by decide) ?_
        exact ih1 (-1) (zB.wk (a' := (-1)) (b' := 16777215) (zB.of (x := (-1)) (-1) (by decide)) (by decide) (by decide)) g43_ hI43_ hF43_  (by have qc0 : ((-1) : Int32).toInt = (-1) := (by decide); omega)
      · skip
        intro a44_s0 b44_s0 g44_ hI44_ hF44_ hM44_
        exact z_iret (pc := 44) C hr dX10_matches_44 ⟨⟨_, rfl, b44_s0⟩, hI44_, hF44_⟩
  obtain ⟨J0, J1⟩ := J 13
  show Z X 0 [some (zr 25 0), some (zi a1), some (zi a2), some (zi a3)] [] f
  refine z_aload_n (pc := 0) C dX10_matches_0 rfl ?_
  refine z_iload_n (pc := 1) C dX10_matches_1 rfl ?_
  refine z_callVb (pc := 2) C zk_X10_120 (m_X10_isDeed _ _ _ hI) rfl rfl (by decide) rfl rfl (Nat.le_of_ble_eq_true rfl) dX10_matches_2 (fun h2_0 => ?_) (fun h2_0 => ?_)
  · skip
    have b2x : zB a1 0 7 := (zltc h2_0 (hI 25 0 2).2)
    refine z_if_eq (pc := 5) 43 C dX10_matches_5 (by decide) (fun h => absurd h (by decide)) (fun _ => ?_)
    refine z_iload_n (pc := 8) C dX10_matches_8 rfl ?_
    refine z_callSb (pc := 9) C zk_X10_83 (m_X10_isLand _ _ _) rfl rfl (Nat.le_of_ble_eq_true rfl) dX10_matches_9 (fun h9_2 => ?_) (fun h9_2 => ?_)
    · skip
      have b4x : zB a2 0 5 := h9_2
      refine z_if_eq (pc := 12) 43 C dX10_matches_12 (by decide) (fun h => absurd h (by decide)) (fun _ => ?_)
      refine z_iload_n (pc := 15) C dX10_matches_15 rfl ?_
      refine z_i2l (pc := 16) C dX10_matches_16 ?_
      refine z_lconst (pc := 17) (v := 0) C dX10_matches_17 (by decide) ?_
      refine z_lconst (pc := 18) (v := 1) C dX10_matches_18 (by decide) ?_
      refine z_callSb (pc := 19) C zk_X10_69 (m_X10_in _ _ _ _ _) rfl rfl (Nat.le_of_ble_eq_true rfl) dX10_matches_19 (fun h19_4 => ?_) (fun h19_4 => ?_)
      · skip
        have b6x : zB a3 0 1 := zin64 h19_4 rfl rfl
        refine z_if_eq (pc := 22) 43 C dX10_matches_22 (by decide) (fun h => absurd h (by decide)) (fun _ => ?_)
        refine z_aload_n (pc := 25) C dX10_matches_25 rfl ?_
        refine z_aload_n (pc := 26) C dX10_matches_26 rfl ?_
        refine z_getR (pc := 27) C zf_X10_13 rfl rfl (by decide) dX10_matches_27 ?_
        refine z_iconst (pc := 30) (v := 5) C dX10_matches_30 (by decide) ?_
        refine z_iload_n (pc := 31) C dX10_matches_31 rfl ?_
        refine z_imul (pc := 32) C dX10_matches_32 ?_
        refine w_gp (fun v => v.toInt = 5 * a1.toInt) (zmul_kb 5 (by decide) (by decide) b2x (by decide) (by decide)) (fun v7 e7 => ?_)
        have b7x : zB v7 0 35 := zmul_bb e7 (by decide) b2x
        refine z_iload_n (pc := 33) C dX10_matches_33 rfl ?_
        refine z_iadd (pc := 34) C dX10_matches_34 ?_
        refine w_gp (fun v => v.toInt = v7.toInt + a3.toInt) (zadd_eb b7x b6x (by decide) (by decide)) (fun v8 e8 => ?_)
        have b8x : zB v8 0 36 := by have q1 := b7x; have q2 := b6x; constructor <;> omega
        refine z_iald (pc := 35) C rfl (by decide) (zIx b8x (by decide) (by decide)) dX10_matches_35 ?_
        refine w_gb 0 63 (zI27_01 hI (by have hq : v8.toNatClampNeg = v8.toInt.toNat := rfl; omega)) (fun v9 b9x => ?_)
        refine z_iload_n (pc := 36) C dX10_matches_36 rfl ?_
        refine z_callV (pc := 37) C zk_X10_116 (w_X10_crimesOf _ _ v9 b9x a2 b4x hI) rfl rfl (by decide) rfl rfl (Nat.le_of_ble_eq_true rfl) dX10_matches_37 (fun r10 g10 q10 => ?_)
        obtain ⟨⟨v10, rfl, b10x⟩, hI10, hF10q⟩ := q10
        obtain rfl := zFr_nil hF10q
        simp only [Option.toList, List.cons_append, List.nil_append]
        refine z_goto (pc := 40) 44 C dX10_matches_40 (by decide) ?_
        exact J1 v10 (zB.wk (a' := (-1)) (b' := 16777215) b10x (by decide) (by decide)) f hI hF  (by omega)
      · skip
        refine z_if_eq (pc := 22) 43 C dX10_matches_22 (by decide) (fun _ => ?_) (fun h => absurd (by decide) h)
        exact J0  f hI hF  (by omega)
    · skip
      refine z_if_eq (pc := 12) 43 C dX10_matches_12 (by decide) (fun _ => ?_) (fun h => absurd (by decide) h)
      exact J0  f hI hF  (by omega)
  · skip
    refine z_if_eq (pc := 5) 43 C dX10_matches_5 (by decide) (fun _ => ?_) (fun h => absurd (by decide) h)
    exact J0  f hI hF  (by omega)

set_option maxRecDepth 100000 in
set_option maxHeartbeats 4000000 in
theorem w_X10_yearsOf (d : Nat) (f : zM) (a1 : Int32) (b1 : zB a1 (-2147483648) 2147483647) (a2 : Int32) (b2 : zB a2 (-2147483648) 2147483647) (a3 : Int32) (b3 : zB a3 (-2147483648) 2147483647) (hI : zInv f) : ZM (d + 3) yX10_yearsOf cX10_yearsOf 4 (some .int) [zr 25 0, zi a1, zi a2, zi a3] f (fun r g => (∃ v, r = some (zi v) ∧ zB v (-1) 40) ∧ zInv g ∧ zFr [] f g) := by
  refine ZM.intro (by decide +kernel) (Nat.le_of_ble_eq_true rfl) ?_
  intro X C hr hn
  have hF : zFr [] f f := zFr.rf _ _
  have J : ∀ t : Nat, (∀ g : zM, zInv g → zFr [] f g → (1 : Int) < t → Z X 43 [some (zr 25 0), some (zi a1), some (zi a2), some (zi a3)] [] g) ∧ (∀ a44_s0 : Int32, zB a44_s0 (-1) 40 → ∀ g : zM, zInv g → zFr [] f g → (0 : Int) < t → Z X 44 [some (zr 25 0), some (zi a1), some (zi a2), some (zi a3)] [zi a44_s0] g) := by
    intro t
    induction t with
    | zero =>
      refine ⟨?_, ?_⟩ <;> (intros; exfalso; omega)
    | succ t ih =>
      obtain ⟨ih0, ih1⟩ := ih
      refine ⟨?_, ?_⟩
      · skip
        intro g43_ hI43_ hF43_ hM43_
        refine z_iconst (pc := 43) (v := -1) C dX10_yearsOf_43 (by decide) ?_
        exact ih1 (-1) (zB.wk (a' := (-1)) (b' := 40) (zB.of (x := (-1)) (-1) (by decide)) (by decide) (by decide)) g43_ hI43_ hF43_  (by have qc0 : ((-1) : Int32).toInt = (-1) := (by decide); omega)
      · skip
        intro a44_s0 b44_s0 g44_ hI44_ hF44_ hM44_
        exact z_iret (pc := 44) C hr dX10_yearsOf_44 ⟨⟨_, rfl, b44_s0⟩, hI44_, hF44_⟩
  obtain ⟨J0, J1⟩ := J 13
  show Z X 0 [some (zr 25 0), some (zi a1), some (zi a2), some (zi a3)] [] f
  refine z_aload_n (pc := 0) C dX10_yearsOf_0 rfl ?_
  refine z_iload_n (pc := 1) C dX10_yearsOf_1 rfl ?_
  refine z_callVb (pc := 2) C zk_X10_120 (m_X10_isDeed _ _ _ hI) rfl rfl (by decide) rfl rfl (Nat.le_of_ble_eq_true rfl) dX10_yearsOf_2 (fun h2_0 => ?_) (fun h2_0 => ?_)
  · skip
    have b2x : zB a1 0 7 := (zltc h2_0 (hI 25 0 2).2)
    refine z_if_eq (pc := 5) 43 C dX10_yearsOf_5 (by decide) (fun h => absurd h (by decide)) (fun _ => ?_)
    refine z_iload_n (pc := 8) C dX10_yearsOf_8 rfl ?_
    refine z_callSb (pc := 9) C zk_X10_83 (m_X10_isLand _ _ _) rfl rfl (Nat.le_of_ble_eq_true rfl) dX10_yearsOf_9 (fun h9_2 => ?_) (fun h9_2 => ?_)
    · skip
      have b4x : zB a2 0 5 := h9_2
      refine z_if_eq (pc := 12) 43 C dX10_yearsOf_12 (by decide) (fun h => absurd h (by decide)) (fun _ => ?_)
      refine z_iload_n (pc := 15) C dX10_yearsOf_15 rfl ?_
      refine z_i2l (pc := 16) C dX10_yearsOf_16 ?_
      refine z_lconst (pc := 17) (v := 0) C dX10_yearsOf_17 (by decide) ?_
      refine z_lconst (pc := 18) (v := 1) C dX10_yearsOf_18 (by decide) ?_
      refine z_callSb (pc := 19) C zk_X10_69 (m_X10_in _ _ _ _ _) rfl rfl (Nat.le_of_ble_eq_true rfl) dX10_yearsOf_19 (fun h19_4 => ?_) (fun h19_4 => ?_)
      · skip
        have b6x : zB a3 0 1 := zin64 h19_4 rfl rfl
        refine z_if_eq (pc := 22) 43 C dX10_yearsOf_22 (by decide) (fun h => absurd h (by decide)) (fun _ => ?_)
        refine z_aload_n (pc := 25) C dX10_yearsOf_25 rfl ?_
        refine z_aload_n (pc := 26) C dX10_yearsOf_26 rfl ?_
        refine z_getR (pc := 27) C zf_X10_13 rfl rfl (by decide) dX10_yearsOf_27 ?_
        refine z_iconst (pc := 30) (v := 5) C dX10_yearsOf_30 (by decide) ?_
        refine z_iload_n (pc := 31) C dX10_yearsOf_31 rfl ?_
        refine z_imul (pc := 32) C dX10_yearsOf_32 ?_
        refine w_gp (fun v => v.toInt = 5 * a1.toInt) (zmul_kb 5 (by decide) (by decide) b2x (by decide) (by decide)) (fun v7 e7 => ?_)
        have b7x : zB v7 0 35 := zmul_bb e7 (by decide) b2x
        refine z_iload_n (pc := 33) C dX10_yearsOf_33 rfl ?_
        refine z_iadd (pc := 34) C dX10_yearsOf_34 ?_
        refine w_gp (fun v => v.toInt = v7.toInt + a3.toInt) (zadd_eb b7x b6x (by decide) (by decide)) (fun v8 e8 => ?_)
        have b8x : zB v8 0 36 := by have q1 := b7x; have q2 := b6x; constructor <;> omega
        refine z_iald (pc := 35) C rfl (by decide) (zIx b8x (by decide) (by decide)) dX10_yearsOf_35 ?_
        refine w_gb 0 63 (zI27_01 hI (by have hq : v8.toNatClampNeg = v8.toInt.toNat := rfl; omega)) (fun v9 b9x => ?_)
        refine z_iload_n (pc := 36) C dX10_yearsOf_36 rfl ?_
        refine z_callV (pc := 37) C zk_X10_123 (w_X10_yearsFor _ _ v9 b9x a2 b4x hI) rfl rfl (by decide) rfl rfl (Nat.le_of_ble_eq_true rfl) dX10_yearsOf_37 (fun r10 g10 q10 => ?_)
        obtain ⟨⟨v10, rfl, b10x⟩, hI10, hF10q⟩ := q10
        obtain rfl := zFr_nil hF10q
        simp only [Option.toList, List.cons_append, List.nil_append]
        refine z_goto (pc := 40) 44 C dX10_yearsOf_40 (by decide) ?_
        exact J1 v10 (zB.wk (a' := (-1)) (b' := 40) b10x (by decide) (by decide)) f hI hF  (by omega)
      · skip
        refine z_if_eq (pc := 22) 43 C dX10_yearsOf_22 (by decide) (fun _ => ?_) (fun h => absurd (by decide) h)
        exact J0  f hI hF  (by omega)
    · skip
      refine z_if_eq (pc := 12) 43 C dX10_yearsOf_12 (by decide) (fun _ => ?_) (fun h => absurd (by decide) h)
      exact J0  f hI hF  (by omega)
  · skip
    refine z_if_eq (pc := 5) 43 C dX10_yearsOf_5 (by decide) (fun _ => ?_) (fun h => absurd (by decide) h)
    exact J0  f hI hF  (by omega)

set_option maxRecDepth 100000 in
set_option maxHeartbeats 4000000 in
theorem w_X10_shows (d : Nat) (f : zM) (a1 : Int32) (b1 : zB a1 (-2147483648) 2147483647) (a2 : Int32) (b2 : zB a2 (-2147483648) 2147483647) (a3 : Int32) (b3 : zB a3 (-2147483648) 2147483647) (a4 : Int32) (b4 : zB a4 (-2147483648) 2147483647) (hI : zInv f) : ZM (d + 2) yX10_shows cX10_shows 9 (some .int) [zr 25 0, zi a1, zi a2, zi a3, zi a4] f (fun r g => (∃ v, r = some (zi v) ∧ zB v (-13) 63) ∧ zInv g ∧ zFr [(27, none)] f g) := by
  refine ZM.intro (by decide +kernel) (Nat.le_of_ble_eq_true rfl) ?_
  intro X C hr hn
  have hF : zFr [(27, none)] f f := zFr.rf _ _
  have J : ∀ t : Nat, (∀ g : zM, zInv g → zFr [(27, none)] f g → (37 : Int) < t → Z X 16 [some (zr 25 0), some (zi a1), some (zi a2), some (zi a3), some (zi a4), none, none, none, none] [] g) ∧ (zB a1 0 7 → zB a2 0 3 → zB a3 0 2 → zB a4 0 10 → ∀ a56_5 : Int32, zB a56_5 0 0 → ∀ a56_6 : Int32, zB a56_6 0 63 → ∀ a56_7 : Int32, zB a56_7 0 63 → ∀ a56_8 : Int32, zB a56_8 0 6 → ∀ g : zM, zInv g → zFr [(27, none)] f g → (1 + 5 * (6 - a56_8.toInt) : Int) < t → Z X 56 [some (zr 25 0), some (zi a1), some (zi a2), some (zi a3), some (zi a4), some (zi a56_5), some (zi a56_6), some (zi a56_7), some (zi a56_8)] [] g) ∧ (zB a1 0 7 → zB a2 0 3 → zB a3 0 2 → zB a4 0 10 → ∀ a91_5 : Int32, zB a91_5 0 0 → ∀ a91_6 : Int32, zB a91_6 0 63 → ∀ a91_7 : Int32, zB a91_7 0 63 → ∀ a91_8 : Int32, zB a91_8 0 5 → ∀ a91_s0 : Int32, zB a91_s0 0 63 → ∀ a91_s1 : Int32, zB a91_s1 0 32 → ∀ g : zM, zInv g → zFr [(27, none)] f g → (0 + 5 * (6 - a91_8.toInt) : Int) < t → Z X 91 [some (zr 25 0), some (zi a1), some (zi a2), some (zi a3), some (zi a4), some (zi a91_5), some (zi a91_6), some (zi a91_7), some (zi a91_8)] [zi a91_s1, zi a91_s0] g) := by
    intro t
    induction t with
    | zero =>
      refine ⟨?_, ?_, ?_⟩ <;> (intros; exfalso; omega)
    | succ t ih =>
      obtain ⟨ih0, ih1, ih2⟩ := ih
      refine ⟨?_, ?_, ?_⟩
      · skip
        intro g16_ hI16_ hF16_ hM16_
        refine z_iconst (pc := 16) (v := -1) C dX10_shows_16 (by decide) ?_
        exact z_iret (pc := 17) C hr dX10_shows_17 ⟨⟨_, rfl, (zB.wk (a' := (-13)) (b' := 63) (zB.of (x := (-1)) (-1) (by decide)) (by decide) (by decide))⟩, hI16_, hF16_⟩
      · skip
        intro b56_1 b56_2 b56_3 b56_4 a56_5 b56_5 a56_6 b56_6 a56_7 b56_7 a56_8 b56_8 g56_ hI56_ hF56_ hM56_
        refine z_iload (pc := 56) C dX10_shows_56 rfl ?_
        refine z_bipush (pc := 58) (v := 6) C dX10_shows_58 (by decide) ?_
        refine z_icmp_ge (pc := 60) 100 C dX10_shows_60 (by decide) (fun h60_0 => ?_) (fun h60_0 => ?_)
        · skip
          have b2x : zB a56_8 6 6 := by have q1 := b56_8; have q2 := (zB.of (x := 6) 6 (by decide)); simp only [z32lt, z32le, z32eq, Int32.reduceToInt, Int32.toInt_zero] at h60_0; constructor <;> omega
          refine z_aload_n (pc := 100) C dX10_shows_100 rfl ?_
          refine z_getR (pc := 101) C zf_X10_13 rfl rfl (by decide) dX10_shows_101 ?_
          refine z_iconst (pc := 104) (v := 5) C dX10_shows_104 (by decide) ?_
          refine z_iload_n (pc := 105) C dX10_shows_105 rfl ?_
          refine z_imul (pc := 106) C dX10_shows_106 ?_
          refine w_gp (fun v => v.toInt = 5 * a1.toInt) (zmul_kb 5 (by decide) (by decide) b56_1 (by decide) (by decide)) (fun v3 e3 => ?_)
          have b3x : zB v3 0 35 := zmul_bb e3 (by decide) b56_1
          refine z_iconst (pc := 107) (v := 1) C dX10_shows_107 (by decide) ?_
          refine z_iadd (pc := 108) C dX10_shows_108 ?_
          refine w_gp (fun v => v.toInt = v3.toInt + 1) (zadd_eb b3x (zB.of (x := 1) 1 (by decide)) (by decide) (by decide)) (fun v4 e4 => ?_)
          have b4x : zB v4 1 36 := by have q1 := b3x; have q2 := (zB.of (x := 1) 1 (by decide)); constructor <;> omega
          refine z_iload (pc := 109) C dX10_shows_109 rfl ?_
          refine z_iast (pc := 111) C rfl (by decide) (zIx b4x (by decide) (by decide)) dX10_shows_111 ?_
          refine w_mem hI56_ hF56_ (by rw [zrg27 (r := 1) (by have hq : v4.toNatClampNeg = v4.toInt.toNat := rfl; have hq2 := b4x; omega)]; exact b56_7) rfl (fun g5 hI5 hF5 => ?_)
          refine z_iload (pc := 112) C dX10_shows_112 rfl ?_
          exact z_iret (pc := 114) C hr dX10_shows_114 ⟨⟨_, rfl, (zB.wk (a' := (-13)) (b' := 63) b56_6 (by decide) (by decide))⟩, hI5, hF5⟩
        · skip
          have b6x : zB a56_8 0 5 := by have q1 := b56_8; have q2 := (zB.of (x := 6) 6 (by decide)); simp only [z32lt, z32le, z32eq, Int32.reduceToInt, Int32.toInt_zero] at h60_0; constructor <;> omega
          refine z_iload (pc := 63) C dX10_shows_63 rfl ?_
          refine z_aload_n (pc := 65) C dX10_shows_65 rfl ?_
          refine z_getR (pc := 66) C zf_X10_61 rfl rfl (by decide) dX10_shows_66 ?_
          refine z_bipush (pc := 69) (v := 16) C dX10_shows_69 (by decide) ?_
          refine z_iload_n (pc := 71) C dX10_shows_71 rfl ?_
          refine z_imul (pc := 72) C dX10_shows_72 ?_
          refine w_gp (fun v => v.toInt = 16 * a2.toInt) (zmul_kb 16 (by decide) (by decide) b56_2 (by decide) (by decide)) (fun v7 e7 => ?_)
          have b7x : zB v7 0 48 := zmul_bb e7 (by decide) b56_2
          refine z_iload (pc := 73) C dX10_shows_73 rfl ?_
          refine z_iadd (pc := 75) C dX10_shows_75 ?_
          refine w_gp (fun v => v.toInt = v7.toInt + a4.toInt) (zadd_eb b7x b56_4 (by decide) (by decide)) (fun v8 e8 => ?_)
          have b8x : zB v8 0 58 := by have q1 := b7x; have q2 := b56_4; constructor <;> omega
          refine z_iload (pc := 76) C dX10_shows_76 rfl ?_
          refine z_iadd (pc := 78) C dX10_shows_78 ?_
          refine w_gp (fun v => v.toInt = v8.toInt + a56_8.toInt) (zadd_eb b8x b6x (by decide) (by decide)) (fun v9 e9 => ?_)
          have b9x : zB v9 0 63 := by have q1 := b8x; have q2 := b6x; constructor <;> omega
          refine z_iald (pc := 79) C rfl (by decide) (zIx b9x (by decide) (by decide)) dX10_shows_79 ?_
          refine w_gb (-2147483648) 2147483647 (hI56_ 43 _ _) (fun v10 b10x => ?_)
          refine z_if_eq (pc := 80) 90 C dX10_shows_80 (by decide) (fun h80_10 => ?_) (fun h80_10 => ?_)
          · skip
            have b12x : zB v10 0 0 := by have q1 := b10x; have q2 := (zB.of (x := 0) 0 (by decide)); simp only [z32lt, z32le, z32eq, Int32.reduceToInt, Int32.toInt_zero] at h80_10; constructor <;> omega
            refine z_iconst (pc := 90) (v := 0) C dX10_shows_90 (by decide) ?_
            exact ih2 b56_1 b56_2 b56_3 b56_4 a56_5 b56_5 a56_6 b56_6 a56_7 b56_7 a56_8 b6x a56_7 b56_7 0 (zB.wk (a' := 0) (b' := 32) (zB.of (x := 0) 0 (by decide)) (by decide) (by decide)) g56_ hI56_ hF56_  (by have qc0 : (0 : Int32).toInt = 0 := (by decide); omega)
          · skip
            refine z_iconst (pc := 83) (v := 1) C dX10_shows_83 (by decide) ?_
            refine z_iload (pc := 84) C dX10_shows_84 rfl ?_
            refine z_ishl (pc := 86) C dX10_shows_86 ?_
            refine w_gb 0 32 (zshl_b b6x 5 (by decide) (by decide)) (fun v13 b13x => ?_)
            refine z_goto (pc := 87) 91 C dX10_shows_87 (by decide) ?_
            exact ih2 b56_1 b56_2 b56_3 b56_4 a56_5 b56_5 a56_6 b56_6 a56_7 b56_7 a56_8 b6x a56_7 b56_7 v13 b13x g56_ hI56_ hF56_  (by omega)
      · skip
        intro b91_1 b91_2 b91_3 b91_4 a91_5 b91_5 a91_6 b91_6 a91_7 b91_7 a91_8 b91_8 a91_s0 b91_s0 a91_s1 b91_s1 g91_ hI91_ hF91_ hM91_
        refine z_ior (pc := 91) C dX10_shows_91 ?_
        refine w_gb 0 63 (zor_b 6 b91_s0 b91_s1 (by decide) (by decide) (by decide) (by decide) (by decide)) (fun v14 b14x => ?_)
        refine z_istore (pc := 92) C dX10_shows_92 (by rw [hn]; decide) rfl ?_
        refine z_iinc (pc := 94) (v := 1) C dX10_shows_94 rfl (by decide) (by rw [hn]; decide) rfl ?_
        obtain ⟨v15, hv15, e15⟩ : ∃ v : Int32, v = a91_8 + 1 ∧ v.toInt = a91_8.toInt + 1 := ⟨_, rfl, zadd_eb b91_8 (zB.of (x := 1) 1 (by decide)) (by decide) (by decide)⟩
        rw [← hv15]
        have b15x : zB v15 1 6 := by have q9 := b91_8; constructor <;> omega
        refine z_goto (pc := 97) 56 C dX10_shows_97 (by decide) ?_
        exact ih1 b91_1 b91_2 b91_3 b91_4 a91_5 b91_5 a91_6 b91_6 v14 b14x v15 (zB.wk (a' := 0) (b' := 6) b15x (by decide) (by decide)) g91_ hI91_ hF91_  (by omega)
  obtain ⟨J0, J1, J2⟩ := J 49
  show Z X 0 [some (zr 25 0), some (zi a1), some (zi a2), some (zi a3), some (zi a4), none, none, none, none] [] f
  refine z_aload_n (pc := 0) C dX10_shows_0 rfl ?_
  refine z_iload_n (pc := 1) C dX10_shows_1 rfl ?_
  refine z_callVb (pc := 2) C zk_X10_120 (m_X10_isDeed _ _ _ hI) rfl rfl (by decide) rfl rfl (Nat.le_of_ble_eq_true rfl) dX10_shows_2 (fun h2_15 => ?_) (fun h2_15 => ?_)
  · skip
    have b17x : zB a1 0 7 := (zltc h2_15 (hI 25 0 2).2)
    refine z_if_eq (pc := 5) 16 C dX10_shows_5 (by decide) (fun h => absurd h (by decide)) (fun _ => ?_)
    refine z_iload_n (pc := 8) C dX10_shows_8 rfl ?_
    refine z_iload_n (pc := 9) C dX10_shows_9 rfl ?_
    refine z_callSb (pc := 10) C zk_X10_268 (m_X10_isSheet _ _ _ _) rfl rfl (Nat.le_of_ble_eq_true rfl) dX10_shows_10 (fun h10_17 => ?_) (fun h10_17 => ?_)
    · skip
      have b19x : zB a2 0 3 := h10_17.1
      have b20x : zB a3 0 2 := h10_17.2
      refine z_if_ne (pc := 13) 18 C dX10_shows_13 (by decide) (fun _ => ?_) (fun h => absurd h (by decide))
      refine z_aload_n (pc := 18) C dX10_shows_18 rfl ?_
      refine z_iload_n (pc := 19) C dX10_shows_19 rfl ?_
      refine z_iload_n (pc := 20) C dX10_shows_20 rfl ?_
      refine z_iload (pc := 21) C dX10_shows_21 rfl ?_
      refine z_bipush (pc := 23) (v := 6) C dX10_shows_23 (by decide) ?_
      refine z_callV (pc := 25) C zk_X10_271 (w_X10_lacksRow _ _ a2 b19x a3 b20x a4 b4 6 (zB.wk (a' := 1) (b' := 6) (zB.of (x := 6) 6 (by decide)) (by decide) (by decide)) hI) rfl rfl (by decide) rfl rfl (Nat.le_of_ble_eq_true rfl) dX10_shows_25 (fun r21 g21 q21 => ?_)
      have qa21_6 : (6 : Int32).toInt = 6 := by decide
      obtain ⟨⟨v21, rfl, b21x⟩, hI21, hF21q, hp21_0⟩ := q21
      have hp21_0 := hp21_0 _ rfl
      obtain rfl := zFr_nil hF21q
      simp only [Option.toList, List.cons_append, List.nil_append]
      refine z_istore (pc := 28) C dX10_shows_28 (by rw [hn]; decide) rfl ?_
      refine z_iload (pc := 30) C dX10_shows_30 rfl ?_
      refine z_if_ge (pc := 32) 38 C dX10_shows_32 (by decide) (fun h32_21 => ?_) (fun h32_21 => ?_)
      · skip
        have b23x : zB v21 0 0 := by have q1 := b21x; have q2 := (zB.of (x := 0) 0 (by decide)); simp only [z32lt, z32le, z32eq, Int32.reduceToInt, Int32.toInt_zero] at h32_21; constructor <;> omega
        have b24x : zB a4 0 10 := by have qc0 : (6 : Int32).toInt = 6 := (by decide); constructor <;> omega
        refine z_aload_n (pc := 38) C dX10_shows_38 rfl ?_
        refine z_getR (pc := 39) C zf_X10_13 rfl rfl (by decide) dX10_shows_39 ?_
        refine z_iconst (pc := 42) (v := 5) C dX10_shows_42 (by decide) ?_
        refine z_iload_n (pc := 43) C dX10_shows_43 rfl ?_
        refine z_imul (pc := 44) C dX10_shows_44 ?_
        refine w_gp (fun v => v.toInt = 5 * a1.toInt) (zmul_kb 5 (by decide) (by decide) b17x (by decide) (by decide)) (fun v25 e25 => ?_)
        have b25x : zB v25 0 35 := zmul_bb e25 (by decide) b17x
        refine z_iconst (pc := 45) (v := 1) C dX10_shows_45 (by decide) ?_
        refine z_iadd (pc := 46) C dX10_shows_46 ?_
        refine w_gp (fun v => v.toInt = v25.toInt + 1) (zadd_eb b25x (zB.of (x := 1) 1 (by decide)) (by decide) (by decide)) (fun v26 e26 => ?_)
        have b26x : zB v26 1 36 := by have q1 := b25x; have q2 := (zB.of (x := 1) 1 (by decide)); constructor <;> omega
        refine z_iald (pc := 47) C rfl (by decide) (zIx b26x (by decide) (by decide)) dX10_shows_47 ?_
        refine w_gb 0 63 (by have hq9 := hI 27 0 v26.toNatClampNeg; rw [zrg27 (r := 1) (by have hq : v26.toNatClampNeg = v26.toInt.toNat := rfl; have hq2 := b26x; omega)] at hq9; exact hq9) (fun v27 b27x => ?_)
        refine z_istore (pc := 48) C dX10_shows_48 (by rw [hn]; decide) rfl ?_
        refine z_iconst (pc := 50) (v := 0) C dX10_shows_50 (by decide) ?_
        refine z_istore (pc := 51) C dX10_shows_51 (by rw [hn]; decide) rfl ?_
        refine z_iconst (pc := 53) (v := 0) C dX10_shows_53 (by decide) ?_
        refine z_istore (pc := 54) C dX10_shows_54 (by rw [hn]; decide) rfl ?_
        exact J1 b17x b19x b20x b24x v21 b23x v27 b27x 0 (zB.wk (a' := 0) (b' := 63) (zB.of (x := 0) 0 (by decide)) (by decide) (by decide)) 0 (zB.wk (a' := 0) (b' := 6) (zB.of (x := 0) 0 (by decide)) (by decide) (by decide)) f hI hF  (by have qc0 : (0 : Int32).toInt = 0 := (by decide); omega)
      · skip
        have b28x : zB v21 (-13) (-1) := by have q1 := b21x; have q2 := (zB.of (x := 0) 0 (by decide)); simp only [z32lt, z32le, z32eq, Int32.reduceToInt, Int32.toInt_zero] at h32_21; constructor <;> omega
        refine z_iload (pc := 35) C dX10_shows_35 rfl ?_
        exact z_iret (pc := 37) C hr dX10_shows_37 ⟨⟨_, rfl, (zB.wk (a' := (-13)) (b' := 63) b28x (by decide) (by decide))⟩, hI, hF⟩
    · skip
      refine z_if_ne (pc := 13) 18 C dX10_shows_13 (by decide) (fun h => absurd (by decide) h) (fun _ => ?_)
      exact J0  f hI hF  (by omega)
  · skip
    refine z_if_eq (pc := 5) 16 C dX10_shows_5 (by decide) (fun _ => ?_) (fun h => absurd (by decide) h)
    exact J0  f hI hF  (by omega)

set_option maxRecDepth 100000 in
set_option maxHeartbeats 4000000 in
theorem w_X10_count (d : Nat) (f : zM) (a1 : Int32) (b1 : zB a1 (-2147483648) 2147483647) (hI : zInv f) : ZM d yX10_count cX10_count 2 (some .int) [zr 25 0, zi a1] f (fun r g => (∃ v, r = some (zi v) ∧ zB v (-2147483648) 2147483647) ∧ zInv g ∧ zFr [] f g) := by
  refine ZM.intro (by decide +kernel) (Nat.le_of_ble_eq_true rfl) ?_
  intro X C hr hn
  have hF : zFr [] f f := zFr.rf _ _
  show Z X 0 [some (zr 25 0), some (zi a1)] [] f
  refine z_iload_n (pc := 0) C dX10_count_0 rfl ?_
  by_cases hsw0 : a1 = 0
  · skip
    refine z_tabE (pc := 1) hsw0 36 C dX10_count_1 (by decide) (by decide) rfl (by decide) ?_
    refine z_aload_n (pc := 36) C dX10_count_36 rfl ?_
    refine z_getI (pc := 37) C zf_X10_80 rfl rfl (by decide) dX10_count_37 ?_
    refine w_gb 0 24 (hI 25 _ 0) (fun v1 b1x => ?_)
    exact z_iret (pc := 40) C hr dX10_count_40 ⟨⟨_, rfl, (zB.wk (a' := (-2147483648)) (b' := 2147483647) b1x (by decide) (by decide))⟩, hI, hF⟩
  · skip
    by_cases hsw1 : a1 = 1
    · skip
      refine z_tabE (pc := 1) hsw1 41 C dX10_count_1 (by decide) (by decide) rfl (by decide) ?_
      refine z_aload_n (pc := 41) C dX10_count_41 rfl ?_
      refine z_getI (pc := 42) C zf_X10_73 rfl rfl (by decide) dX10_count_42 ?_
      refine w_gb 0 8 (hI 25 _ 2) (fun v2 b2x => ?_)
      exact z_iret (pc := 45) C hr dX10_count_45 ⟨⟨_, rfl, (zB.wk (a' := (-2147483648)) (b' := 2147483647) b2x (by decide) (by decide))⟩, hI, hF⟩
    · skip
      by_cases hsw2 : a1 = 2
      · skip
        refine z_tabE (pc := 1) hsw2 46 C dX10_count_1 (by decide) (by decide) rfl (by decide) ?_
        refine z_aload_n (pc := 46) C dX10_count_46 rfl ?_
        refine z_getI (pc := 47) C zf_X10_77 rfl rfl (by decide) dX10_count_47 ?_
        refine w_gb 0 12 (hI 25 _ 4) (fun v3 b3x => ?_)
        exact z_iret (pc := 50) C hr dX10_count_50 ⟨⟨_, rfl, (zB.wk (a' := (-2147483648)) (b' := 2147483647) b3x (by decide) (by decide))⟩, hI, hF⟩
      · skip
        by_cases hsw3 : a1 = 3
        · skip
          refine z_tabE (pc := 1) hsw3 51 C dX10_count_1 (by decide) (by decide) rfl (by decide) ?_
          refine z_aload_n (pc := 51) C dX10_count_51 rfl ?_
          refine z_getI (pc := 52) C zf_X10_126 rfl rfl (by decide) dX10_count_52 ?_
          refine w_gb 0 8 (hI 25 _ 6) (fun v4 b4x => ?_)
          exact z_iret (pc := 55) C hr dX10_count_55 ⟨⟨_, rfl, (zB.wk (a' := (-2147483648)) (b' := 2147483647) b4x (by decide) (by decide))⟩, hI, hF⟩
        · skip
          by_cases hsw4 : a1 = 4
          · skip
            refine z_tabE (pc := 1) hsw4 56 C dX10_count_1 (by decide) (by decide) rfl (by decide) ?_
            refine z_aload_n (pc := 56) C dX10_count_56 rfl ?_
            refine z_getR (pc := 57) C zf_X10_22 rfl rfl (by decide) dX10_count_57 ?_
            refine z_bipush (pc := 60) (v := 6) C dX10_count_60 (by decide) ?_
            refine z_iald (pc := 62) C rfl (by decide) (zIx (zB.of (x := 6) 6 (by decide)) (by decide) (by decide)) dX10_count_62 ?_
            refine w_gb (-2147483648) 2147483647 (hI 30 _ 6) (fun v5 b5x => ?_)
            exact z_iret (pc := 63) C hr dX10_count_63 ⟨⟨_, rfl, b5x⟩, hI, hF⟩
          · skip
            refine z_tabOut (pc := 1) 64 C dX10_count_1 (by simp only [z32eq, Int32.reduceToInt, Int32.toInt_zero, Int32.toInt_one] at *; omega) (by decide) ?_
            refine z_iconst (pc := 64) (v := -1) C dX10_count_64 (by decide) ?_
            exact z_iret (pc := 65) C hr dX10_count_65 ⟨⟨_, rfl, (zB.wk (a' := (-2147483648)) (b' := 2147483647) (zB.of (x := (-1)) (-1) (by decide)) (by decide) (by decide))⟩, hI, hF⟩

set_option maxRecDepth 100000 in
set_option maxHeartbeats 4000000 in
theorem w_X10_man (d : Nat) (f : zM) (a1 : Int32) (b1 : zB a1 (-2147483648) 2147483647) (a2 : Int32) (b2 : zB a2 (-2147483648) 2147483647) (hI : zInv f) : ZM (d + 2) yX10_man cX10_man 4 (some .int) [zr 25 0, zi a1, zi a2] f (fun r g => (∃ v, r = some (zi v) ∧ zB v (-2147483648) 2147483647) ∧ zInv g ∧ zFr [(30, none)] f g) := by
  refine ZM.intro (by decide +kernel) (Nat.le_of_ble_eq_true rfl) ?_
  intro X C hr hn
  have hF : zFr [(30, none)] f f := zFr.rf _ _
  have J : ∀ t : Nat, (∀ g : zM, zInv g → zFr [(30, none)] f g → (2 : Int) < t → Z X 39 [some (zr 25 0), some (zi a1), some (zi a2), none] [] g) ∧ (zB a1 0 2 → zB a2 0 99 → ∀ g : zM, zInv g → zFr [(30, none)] f g → ((a1.toInt = 2 ∨ a2.toInt ≤ 5)) → (1 : Int) < t → Z X 41 [some (zr 25 0), some (zi a1), some (zi a2), none] [] g) ∧ (zB a1 0 2 → zB a2 0 99 → ∀ a64_3 : Int32, zB a64_3 (-2147483648) 2147483647 → ∀ g : zM, zInv g → zFr [(30, none)] f g → (0 : Int) < t → Z X 64 [some (zr 25 0), some (zi a1), some (zi a2), some (zi a64_3)] [] g) := by
    intro t
    induction t with
    | zero =>
      refine ⟨?_, ?_, ?_⟩ <;> (intros; exfalso; omega)
    | succ t ih =>
      obtain ⟨ih0, ih1, ih2⟩ := ih
      refine ⟨?_, ?_, ?_⟩
      · skip
        intro g39_ hI39_ hF39_ hM39_
        refine z_iconst (pc := 39) (v := -1) C dX10_man_39 (by decide) ?_
        exact z_iret (pc := 40) C hr dX10_man_40 ⟨⟨_, rfl, (zB.wk (a' := (-2147483648)) (b' := 2147483647) (zB.of (x := (-1)) (-1) (by decide)) (by decide) (by decide))⟩, hI39_, hF39_⟩
      · skip
        intro b41_1 b41_2 g41_ hI41_ hF41_ hR41_0 hM41_
        refine z_aload_n (pc := 41) C dX10_man_41 rfl ?_
        refine z_getR (pc := 42) C zf_X10_22 rfl rfl (by decide) dX10_man_42 ?_
        refine z_iload_n (pc := 45) C dX10_man_45 rfl ?_
        refine z_iald (pc := 46) C rfl (by decide) (zIx b41_1 (by decide) (by decide)) dX10_man_46 ?_
        refine w_gb (-2147483648) 2147483647 (zB_any _) (fun v1 b1x => ?_)
        refine z_istore_n (pc := 47) C dX10_man_47 (by rw [hn]; decide) rfl ?_
        refine z_aload_n (pc := 48) C dX10_man_48 rfl ?_
        refine z_getR (pc := 49) C zf_X10_22 rfl rfl (by decide) dX10_man_49 ?_
        refine z_iload_n (pc := 52) C dX10_man_52 rfl ?_
        refine z_iload_n (pc := 53) C dX10_man_53 rfl ?_
        refine z_iast (pc := 54) C rfl (by decide) (zIx b41_1 (by decide) (by decide)) dX10_man_54 ?_
        refine w_mem hI41_ hF41_ (zM30 b41_1 b41_2 (by omega)) rfl (fun g2 hI2 hF2 => ?_)
        refine z_iload_n (pc := 55) C dX10_man_55 rfl ?_
        refine z_iconst (pc := 56) (v := 1) C dX10_man_56 (by decide) ?_
        refine z_icmp_ne (pc := 57) 64 C dX10_man_57 (by decide) (fun h57_2 => ?_) (fun h57_2 => ?_)
        · skip
          exact ih2 b41_1 b41_2 v1 b1x g2 hI2 hF2  (by omega)
        · skip
          have b4x : zB a1 1 1 := by have q1 := b41_1; have q2 := (zB.of (x := 1) 1 (by decide)); simp only [z32lt, z32le, z32eq, Int32.reduceToInt, Int32.toInt_zero] at h57_2; constructor <;> omega
          refine z_aload_n (pc := 60) C dX10_man_60 rfl ?_
          refine z_callV (pc := 61) C zk_X10_64 (w_X10_free _ _  hI2) rfl rfl (by decide) rfl rfl (Nat.le_of_ble_eq_true rfl) dX10_man_61 (fun r5 g5 q5 => ?_)
          obtain ⟨rfl, hI5, hF5q⟩ := q5
          have hF5 := zFr.tr hF2 hF5q (by decide)
          simp only [Option.toList, List.cons_append, List.nil_append]
          exact ih2 (zB.wk (a' := 0) (b' := 2) b4x (by decide) (by decide)) b41_2 v1 b1x g5 hI5 hF5  (by omega)
      · skip
        intro b64_1 b64_2 a64_3 b64_3 g64_ hI64_ hF64_ hM64_
        refine z_iload_n (pc := 64) C dX10_man_64 rfl ?_
        exact z_iret (pc := 65) C hr dX10_man_65 ⟨⟨_, rfl, b64_3⟩, hI64_, hF64_⟩
  obtain ⟨J0, J1, J2⟩ := J 14
  show Z X 0 [some (zr 25 0), some (zi a1), some (zi a2), none] [] f
  refine z_iload_n (pc := 0) C dX10_man_0 rfl ?_
  refine z_i2l (pc := 1) C dX10_man_1 ?_
  refine z_lconst (pc := 2) (v := 0) C dX10_man_2 (by decide) ?_
  refine z_ldc2 (pc := 3) C zw_1207 dX10_man_3 ?_
  refine z_callSb (pc := 6) C zk_X10_69 (m_X10_in _ _ _ _ _) rfl rfl (Nat.le_of_ble_eq_true rfl) dX10_man_6 (fun h6_5 => ?_) (fun h6_5 => ?_)
  · skip
    have b7x : zB a1 0 2 := zin64 h6_5 rfl rfl
    refine z_if_eq (pc := 9) 39 C dX10_man_9 (by decide) (fun h => absurd h (by decide)) (fun _ => ?_)
    refine z_iload_n (pc := 12) C dX10_man_12 rfl ?_
    refine z_iconst (pc := 13) (v := 2) C dX10_man_13 (by decide) ?_
    refine z_icmp_ne (pc := 14) 32 C dX10_man_14 (by decide) (fun h14_7 => ?_) (fun h14_7 => ?_)
    · skip
      have b9x : zB a1 0 1 := by have q1 := b7x; have q2 := (zB.of (x := 2) 2 (by decide)); simp only [z32lt, z32le, z32eq, Int32.reduceToInt, Int32.toInt_zero] at h14_7; constructor <;> omega
      refine z_iload_n (pc := 32) C dX10_man_32 rfl ?_
      refine z_callSb (pc := 33) C zk_X10_83 (m_X10_isLand _ _ _) rfl rfl (Nat.le_of_ble_eq_true rfl) dX10_man_33 (fun h33_9 => ?_) (fun h33_9 => ?_)
      · skip
        have b11x : zB a2 0 5 := h33_9
        refine z_if_ne (pc := 36) 41 C dX10_man_36 (by decide) (fun _ => ?_) (fun h => absurd h (by decide))
        exact J1 (zB.wk (a' := 0) (b' := 2) b9x (by decide) (by decide)) (zB.wk (a' := 0) (b' := 99) b11x (by decide) (by decide)) f hI hF (by omega) (by omega)
      · skip
        refine z_if_ne (pc := 36) 41 C dX10_man_36 (by decide) (fun h => absurd (by decide) h) (fun _ => ?_)
        exact J0  f hI hF  (by omega)
    · skip
      have b12x : zB a1 2 2 := by have q1 := b7x; have q2 := (zB.of (x := 2) 2 (by decide)); simp only [z32lt, z32le, z32eq, Int32.reduceToInt, Int32.toInt_zero] at h14_7; constructor <;> omega
      refine z_iload_n (pc := 17) C dX10_man_17 rfl ?_
      refine z_i2l (pc := 18) C dX10_man_18 ?_
      refine z_lconst (pc := 19) (v := 0) C dX10_man_19 (by decide) ?_
      refine z_ldc2 (pc := 20) C zw_1137 dX10_man_20 ?_
      refine z_callSb (pc := 23) C zk_X10_69 (m_X10_in _ _ _ _ _) rfl rfl (Nat.le_of_ble_eq_true rfl) dX10_man_23 (fun h23_12 => ?_) (fun h23_12 => ?_)
      · skip
        have b14x : zB a2 0 99 := zin64 h23_12 rfl rfl
        refine z_if_eq (pc := 26) 39 C dX10_man_26 (by decide) (fun h => absurd h (by decide)) (fun _ => ?_)
        refine z_goto (pc := 29) 41 C dX10_man_29 (by decide) ?_
        exact J1 (zB.wk (a' := 0) (b' := 2) b12x (by decide) (by decide)) b14x f hI hF (by omega) (by omega)
      · skip
        refine z_if_eq (pc := 26) 39 C dX10_man_26 (by decide) (fun _ => ?_) (fun h => absurd (by decide) h)
        exact J0  f hI hF  (by omega)
  · skip
    refine z_if_eq (pc := 9) 39 C dX10_man_9 (by decide) (fun _ => ?_) (fun h => absurd (by decide) h)
    exact J0  f hI hF  (by omega)

set_option maxRecDepth 100000 in
set_option maxHeartbeats 4000000 in
theorem w_X10_judged (d : Nat) (f : zM) (a1 : Int32) (b1 : zB a1 (-2147483648) 2147483647) (a2 : Int32) (b2 : zB a2 0 1) (hI : zInv f) : ZM (d + 2) yX10_judged cX10_judged 4 (some .int) [zr 25 0, zi a1, zi a2] f (fun r g => (∃ v, r = some (zi v) ∧ zB v (-1) 1) ∧ zInv g ∧ zFr [(27, none)] f g) := by
  refine ZM.intro (by decide +kernel) (Nat.le_of_ble_eq_true rfl) ?_
  intro X C hr hn
  have hF : zFr [(27, none)] f f := zFr.rf _ _
  have J : ∀ t : Nat, (zB a1 0 7 → ∀ a39_3 : Int32, zB a39_3 0 1 → ∀ a39_s1 : Int32, zB a39_s1 4 39 → a39_s1.toInt % 5 = 4 → ∀ a39_s2 : Int32, zB a39_s2 0 1 → ∀ g : zM, zInv g → zFr [(27, none)] f g → (0 : Int) < t → Z X 39 [some (zr 25 0), some (zi a1), some (zi a2), some (zi a39_3)] [zi a39_s2, zi a39_s1, zr 27 0] g) := by
    intro t
    induction t with
    | zero =>
      intros; exfalso; omega
    | succ t ih =>
      have ih0 := ih
      intro b39_1 a39_3 b39_3 a39_s1 b39_s1 n39_s1 a39_s2 b39_s2 g39_ hI39_ hF39_ hM39_
      refine z_iast (pc := 39) C rfl (by decide) (zIx b39_s1 (by decide) (by decide)) dX10_judged_39 ?_
      refine w_mem hI39_ hF39_ (by rw [zrg27 (r := 4) (by have hq : a39_s1.toNatClampNeg = a39_s1.toInt.toNat := rfl; have hq2 := b39_s1; omega)]; exact b39_s2) rfl (fun g1 hI1 hF1 => ?_)
      refine z_iload_n (pc := 40) C dX10_judged_40 rfl ?_
      exact z_iret (pc := 41) C hr dX10_judged_41 ⟨⟨_, rfl, (zB.wk (a' := (-1)) (b' := 1) b39_3 (by decide) (by decide))⟩, hI1, hF1⟩
  have J0 := J 12
  show Z X 0 [some (zr 25 0), some (zi a1), some (zi a2), none] [] f
  refine z_aload_n (pc := 0) C dX10_judged_0 rfl ?_
  refine z_iload_n (pc := 1) C dX10_judged_1 rfl ?_
  refine z_callVb (pc := 2) C zk_X10_120 (m_X10_isDeed _ _ _ hI) rfl rfl (by decide) rfl rfl (Nat.le_of_ble_eq_true rfl) dX10_judged_2 (fun h2_1 => ?_) (fun h2_1 => ?_)
  · skip
    have b3x : zB a1 0 7 := (zltc h2_1 (hI 25 0 2).2)
    refine z_if_ne (pc := 5) 10 C dX10_judged_5 (by decide) (fun _ => ?_) (fun h => absurd h (by decide))
    refine z_aload_n (pc := 10) C dX10_judged_10 rfl ?_
    refine z_getR (pc := 11) C zf_X10_13 rfl rfl (by decide) dX10_judged_11 ?_
    refine z_iconst (pc := 14) (v := 5) C dX10_judged_14 (by decide) ?_
    refine z_iload_n (pc := 15) C dX10_judged_15 rfl ?_
    refine z_imul (pc := 16) C dX10_judged_16 ?_
    refine w_gp (fun v => v.toInt = 5 * a1.toInt) (zmul_kb 5 (by decide) (by decide) b3x (by decide) (by decide)) (fun v4 e4 => ?_)
    have b4x : zB v4 0 35 := zmul_bb e4 (by decide) b3x
    refine z_iconst (pc := 17) (v := 4) C dX10_judged_17 (by decide) ?_
    refine z_iadd (pc := 18) C dX10_judged_18 ?_
    refine w_gp (fun v => v.toInt = v4.toInt + 4) (zadd_eb b4x (zB.of (x := 4) 4 (by decide)) (by decide) (by decide)) (fun v5 e5 => ?_)
    have b5x : zB v5 4 39 := by have q1 := b4x; have q2 := (zB.of (x := 4) 4 (by decide)); constructor <;> omega
    refine z_iald (pc := 19) C rfl (by decide) (zIx b5x (by decide) (by decide)) dX10_judged_19 ?_
    refine w_gb 0 1 (by have hq9 := hI 27 0 v5.toNatClampNeg; rw [zrg27 (r := 4) (by have hq : v5.toNatClampNeg = v5.toInt.toNat := rfl; have hq2 := b5x; omega)] at hq9; exact hq9) (fun v6 b6x => ?_)
    refine z_istore_n (pc := 20) C dX10_judged_20 (by rw [hn]; decide) rfl ?_
    refine z_aload_n (pc := 21) C dX10_judged_21 rfl ?_
    refine z_getR (pc := 22) C zf_X10_13 rfl rfl (by decide) dX10_judged_22 ?_
    refine z_iconst (pc := 25) (v := 5) C dX10_judged_25 (by decide) ?_
    refine z_iload_n (pc := 26) C dX10_judged_26 rfl ?_
    refine z_imul (pc := 27) C dX10_judged_27 ?_
    refine w_gp (fun v => v.toInt = 5 * a1.toInt) (zmul_kb 5 (by decide) (by decide) b3x (by decide) (by decide)) (fun v7 e7 => ?_)
    have b7x : zB v7 0 35 := zmul_bb e7 (by decide) b3x
    refine z_iconst (pc := 28) (v := 4) C dX10_judged_28 (by decide) ?_
    refine z_iadd (pc := 29) C dX10_judged_29 ?_
    refine w_gp (fun v => v.toInt = v7.toInt + 4) (zadd_eb b7x (zB.of (x := 4) 4 (by decide)) (by decide) (by decide)) (fun v8 e8 => ?_)
    have b8x : zB v8 4 39 := by have q1 := b7x; have q2 := (zB.of (x := 4) 4 (by decide)); constructor <;> omega
    refine z_iload_n (pc := 30) C dX10_judged_30 rfl ?_
    refine z_if_eq (pc := 31) 38 C dX10_judged_31 (by decide) (fun h31_8 => ?_) (fun h31_8 => ?_)
    · skip
      have b10x : zB a2 0 0 := by have q1 := b2; have q2 := (zB.of (x := 0) 0 (by decide)); simp only [z32lt, z32le, z32eq, Int32.reduceToInt, Int32.toInt_zero] at h31_8; constructor <;> omega
      refine z_iconst (pc := 38) (v := 0) C dX10_judged_38 (by decide) ?_
      exact J0 b3x v6 b6x v8 b8x (by have qc0 : (0 : Int32).toInt = 0 := (by decide); omega) 0 (zB.wk (a' := 0) (b' := 1) (zB.of (x := 0) 0 (by decide)) (by decide) (by decide)) f hI hF  (by have qc0 : (0 : Int32).toInt = 0 := (by decide); omega)
    · skip
      have b11x : zB a2 1 1 := by have q1 := b2; have q2 := (zB.of (x := 0) 0 (by decide)); simp only [z32lt, z32le, z32eq, Int32.reduceToInt, Int32.toInt_zero] at h31_8; constructor <;> omega
      refine z_iconst (pc := 34) (v := 1) C dX10_judged_34 (by decide) ?_
      refine z_goto (pc := 35) 39 C dX10_judged_35 (by decide) ?_
      exact J0 b3x v6 b6x v8 b8x (by have qc0 : (1 : Int32).toInt = 1 := (by decide); omega) 1 (zB.wk (a' := 0) (b' := 1) (zB.of (x := 1) 1 (by decide)) (by decide) (by decide)) f hI hF  (by have qc0 : (1 : Int32).toInt = 1 := (by decide); omega)
  · skip
    refine z_if_ne (pc := 5) 10 C dX10_judged_5 (by decide) (fun h => absurd (by decide) h) (fun _ => ?_)
    refine z_iconst (pc := 8) (v := -1) C dX10_judged_8 (by decide) ?_
    exact z_iret (pc := 9) C hr dX10_judged_9 ⟨⟨_, rfl, (zB.wk (a' := (-1)) (b' := 1) (zB.of (x := (-1)) (-1) (by decide)) (by decide) (by decide))⟩, hI, hF⟩

set_option maxRecDepth 100000 in
set_option maxHeartbeats 4000000 in
theorem w_X10_bound (d : Nat) (f : zM) (a1 : Int32) (b1 : zB a1 (-2147483648) 2147483647) (hI : zInv f) : ZM (d + 1) yX10_bound cX10_bound 2 (some .int) [zr 25 0, zi a1] f (fun r g => (∃ v, r = some (zi v) ∧ zB v (-4) 255) ∧ zInv g ∧ zFr [] f g) := by
  refine ZM.intro (by decide +kernel) (Nat.le_of_ble_eq_true rfl) ?_
  intro X C hr hn
  have hF : zFr [] f f := zFr.rf _ _
  have J : ∀ t : Nat, (∀ a61_s0 : Int32, zB a61_s0 (-4) 255 → ∀ g : zM, zInv g → zFr [] f g → (0 : Int) < t → Z X 61 [some (zr 25 0), some (zi a1)] [zi a61_s0] g) := by
    intro t
    induction t with
    | zero =>
      intros; exfalso; omega
    | succ t ih =>
      have ih0 := ih
      intro a61_s0 b61_s0 g61_ hI61_ hF61_ hM61_
      exact z_iret (pc := 61) C hr dX10_bound_61 ⟨⟨_, rfl, b61_s0⟩, hI61_, hF61_⟩
  have J0 := J 12
  show Z X 0 [some (zr 25 0), some (zi a1)] [] f
  refine z_iload_n (pc := 0) C dX10_bound_0 rfl ?_
  refine z_if_ne (pc := 1) 13 C dX10_bound_1 (by decide) (fun h1_0 => ?_) (fun h1_0 => ?_)
  · skip
    refine z_iload_n (pc := 13) C dX10_bound_13 rfl ?_
    refine z_iconst (pc := 14) (v := 1) C dX10_bound_14 (by decide) ?_
    refine z_icmp_ne (pc := 15) 27 C dX10_bound_15 (by decide) (fun h15_1 => ?_) (fun h15_1 => ?_)
    · skip
      refine z_iload_n (pc := 27) C dX10_bound_27 rfl ?_
      refine z_iconst (pc := 28) (v := 2) C dX10_bound_28 (by decide) ?_
      refine z_icmp_ne (pc := 29) 46 C dX10_bound_29 (by decide) (fun h29_2 => ?_) (fun h29_2 => ?_)
      · skip
        refine z_iload_n (pc := 46) C dX10_bound_46 rfl ?_
        refine z_iconst (pc := 47) (v := 3) C dX10_bound_47 (by decide) ?_
        refine z_icmp_ne (pc := 48) 60 C dX10_bound_48 (by decide) (fun h48_3 => ?_) (fun h48_3 => ?_)
        · skip
          refine z_iconst (pc := 60) (v := -1) C dX10_bound_60 (by decide) ?_
          exact J0 (-1) (zB.wk (a' := (-4)) (b' := 255) (zB.of (x := (-1)) (-1) (by decide)) (by decide) (by decide)) f hI hF  (by have qc0 : ((-1) : Int32).toInt = (-1) := (by decide); omega)
        · skip
          have b5x : zB a1 3 3 := by have q1 := b1; have q2 := (zB.of (x := 3) 3 (by decide)); simp only [z32lt, z32le, z32eq, Int32.reduceToInt, Int32.toInt_zero] at h48_3; constructor <;> omega
          refine z_aload_n (pc := 51) C dX10_bound_51 rfl ?_
          refine z_getR (pc := 52) C zf_X10_22 rfl rfl (by decide) dX10_bound_52 ?_
          refine z_iconst (pc := 55) (v := 1) C dX10_bound_55 (by decide) ?_
          refine z_iald (pc := 56) C rfl (by decide) (zIx (zB.of (x := 1) 1 (by decide)) (by decide) (by decide)) dX10_bound_56 ?_
          refine w_gb 0 5 (hI 30 _ 1) (fun v6 b6x => ?_)
          refine z_goto (pc := 57) 61 C dX10_bound_57 (by decide) ?_
          exact J0 v6 (zB.wk (a' := (-4)) (b' := 255) b6x (by decide) (by decide)) f hI hF  (by omega)
      · skip
        have b7x : zB a1 2 2 := by have q1 := b1; have q2 := (zB.of (x := 2) 2 (by decide)); simp only [z32lt, z32le, z32eq, Int32.reduceToInt, Int32.toInt_zero] at h29_2; constructor <;> omega
        refine z_aload_n (pc := 32) C dX10_bound_32 rfl ?_
        refine z_getR (pc := 33) C zf_X10_22 rfl rfl (by decide) dX10_bound_33 ?_
        refine z_iconst (pc := 36) (v := 5) C dX10_bound_36 (by decide) ?_
        refine z_iald (pc := 37) C rfl (by decide) (zIx (zB.of (x := 5) 5 (by decide)) (by decide) (by decide)) dX10_bound_37 ?_
        refine w_gb 0 255 (hI 30 _ 5) (fun v8 b8x => ?_)
        refine z_aload_n (pc := 38) C dX10_bound_38 rfl ?_
        refine z_callV (pc := 39) C zk_X10_131 (w_X10_allDeeds _ _  hI) rfl rfl (by decide) rfl rfl (Nat.le_of_ble_eq_true rfl) dX10_bound_39 (fun r9 g9 q9 => ?_)
        obtain ⟨⟨v9, rfl, b9x⟩, hI9, hF9q⟩ := q9
        obtain rfl := zFr_nil hF9q
        simp only [Option.toList, List.cons_append, List.nil_append]
        refine z_iand (pc := 42) C dX10_bound_42 ?_
        refine w_gb 0 255 (zand_bl b8x b9x (by decide)) (fun v10 b10x => ?_)
        refine z_goto (pc := 43) 61 C dX10_bound_43 (by decide) ?_
        exact J0 v10 (zB.wk (a' := (-4)) (b' := 255) b10x (by decide) (by decide)) f hI hF  (by omega)
    · skip
      have b11x : zB a1 1 1 := by have q1 := b1; have q2 := (zB.of (x := 1) 1 (by decide)); simp only [z32lt, z32le, z32eq, Int32.reduceToInt, Int32.toInt_zero] at h15_1; constructor <;> omega
      refine z_aload_n (pc := 18) C dX10_bound_18 rfl ?_
      refine z_getR (pc := 19) C zf_X10_22 rfl rfl (by decide) dX10_bound_19 ?_
      refine z_iconst (pc := 22) (v := 4) C dX10_bound_22 (by decide) ?_
      refine z_iald (pc := 23) C rfl (by decide) (zIx (zB.of (x := 4) 4 (by decide)) (by decide) (by decide)) dX10_bound_23 ?_
      refine w_gb (-4) 5 (hI 30 _ 4) (fun v12 b12x => ?_)
      refine z_goto (pc := 24) 61 C dX10_bound_24 (by decide) ?_
      exact J0 v12 (zB.wk (a' := (-4)) (b' := 255) b12x (by decide) (by decide)) f hI hF  (by omega)
  · skip
    have b13x : zB a1 0 0 := by have q1 := b1; have q2 := (zB.of (x := 0) 0 (by decide)); simp only [z32lt, z32le, z32eq, Int32.reduceToInt, Int32.toInt_zero] at h1_0; constructor <;> omega
    refine z_aload_n (pc := 4) C dX10_bound_4 rfl ?_
    refine z_getR (pc := 5) C zf_X10_22 rfl rfl (by decide) dX10_bound_5 ?_
    refine z_iconst (pc := 8) (v := 3) C dX10_bound_8 (by decide) ?_
    refine z_iald (pc := 9) C rfl (by decide) (zIx (zB.of (x := 3) 3 (by decide)) (by decide) (by decide)) dX10_bound_9 ?_
    refine w_gb 0 1 (hI 30 _ 3) (fun v14 b14x => ?_)
    refine z_goto (pc := 10) 61 C dX10_bound_10 (by decide) ?_
    exact J0 v14 (zB.wk (a' := (-4)) (b' := 255) b14x (by decide) (by decide)) f hI hF  (by omega)

set_option maxRecDepth 100000 in
set_option maxHeartbeats 4000000 in
theorem w_X10_covers (d : Nat) (f : zM) (a1 : Int32) (b1 : zB a1 (-2147483648) 2147483647) (hI : zInv f) : ZM (d + 4) yX10_covers cX10_covers 4 (some .int) [zr 25 0, zi a1] f (fun r g => (∃ v, r = some (zi v) ∧ zB v (-1) 255) ∧ zInv g ∧ zFr [] f g) := by
  refine ZM.intro (by decide +kernel) (Nat.le_of_ble_eq_true rfl) ?_
  intro X C hr hn
  have hF : zFr [] f f := zFr.rf _ _
  have J : ∀ t : Nat, (zB a1 0 11 → ∀ a14_2 : Int32, zB a14_2 0 255 → ∀ a14_3 : Int32, zB a14_3 0 8 → ∀ g : zM, zInv g → zFr [] f g → (1 + 4 * (8 - a14_3.toInt) : Int) < t → Z X 14 [some (zr 25 0), some (zi a1), some (zi a14_2), some (zi a14_3)] [] g) ∧ (zB a1 0 11 → ∀ a39_2 : Int32, zB a39_2 0 255 → ∀ a39_3 : Int32, zB a39_3 0 7 → ∀ a39_s0 : Int32, zB a39_s0 0 255 → ∀ a39_s1 : Int32, zB a39_s1 0 128 → ∀ g : zM, zInv g → zFr [] f g → (0 + 4 * (8 - a39_3.toInt) : Int) < t → Z X 39 [some (zr 25 0), some (zi a1), some (zi a39_2), some (zi a39_3)] [zi a39_s1, zi a39_s0] g) := by
    intro t
    induction t with
    | zero =>
      refine ⟨?_, ?_⟩ <;> (intros; exfalso; omega)
    | succ t ih =>
      obtain ⟨ih0, ih1⟩ := ih
      refine ⟨?_, ?_⟩
      · skip
        intro b14_1 a14_2 b14_2 a14_3 b14_3 g14_ hI14_ hF14_ hM14_
        refine z_iload_n (pc := 14) C dX10_covers_14 rfl ?_
        refine z_aload_n (pc := 15) C dX10_covers_15 rfl ?_
        refine z_getI (pc := 16) C zf_X10_73 rfl rfl (by decide) dX10_covers_16 ?_
        refine w_gb 0 8 (hI14_ 25 _ 2) (fun v1 b1x => ?_)
        refine z_icmp_ge (pc := 19) 47 C dX10_covers_19 (by decide) (fun h19_1 => ?_) (fun h19_1 => ?_)
        · skip
          refine z_iload_n (pc := 47) C dX10_covers_47 rfl ?_
          exact z_iret (pc := 48) C hr dX10_covers_48 ⟨⟨_, rfl, (zB.wk (a' := (-1)) (b' := 255) b14_2 (by decide) (by decide))⟩, hI14_, hF14_⟩
        · skip
          have b3x : zB a14_3 0 7 := by have q1 := b14_3; have q2 := b1x; simp only [z32lt, z32le, z32eq, Int32.reduceToInt, Int32.toInt_zero] at h19_1; constructor <;> omega
          have b4x : zB v1 1 8 := by have q1 := b14_3; have q2 := b1x; simp only [z32lt, z32le, z32eq, Int32.reduceToInt, Int32.toInt_zero] at h19_1; constructor <;> omega
          refine z_iload_n (pc := 22) C dX10_covers_22 rfl ?_
          refine z_aload_n (pc := 23) C dX10_covers_23 rfl ?_
          refine z_iload_n (pc := 24) C dX10_covers_24 rfl ?_
          refine z_iload_n (pc := 25) C dX10_covers_25 rfl ?_
          refine z_callV (pc := 26) C zk_X10_138 (w_X10_isCovered _ _ a1 b14_1 a14_3 b3x hI14_) rfl rfl (by decide) rfl rfl (Nat.le_of_ble_eq_true rfl) dX10_covers_26 (fun r5 g5 q5 => ?_)
          obtain ⟨⟨v5, rfl, b5x⟩, hI5, hF5q⟩ := q5
          obtain rfl := zFr_nil hF5q
          simp only [Option.toList, List.cons_append, List.nil_append]
          refine z_if_eq (pc := 29) 38 C dX10_covers_29 (by decide) (fun h29_5 => ?_) (fun h29_5 => ?_)
          · skip
            have b7x : zB v5 0 0 := by have q1 := b5x; have q2 := (zB.of (x := 0) 0 (by decide)); simp only [z32lt, z32le, z32eq, Int32.reduceToInt, Int32.toInt_zero] at h29_5; constructor <;> omega
            refine z_iconst (pc := 38) (v := 0) C dX10_covers_38 (by decide) ?_
            exact ih1 b14_1 a14_2 b14_2 a14_3 b3x a14_2 b14_2 0 (zB.wk (a' := 0) (b' := 128) (zB.of (x := 0) 0 (by decide)) (by decide) (by decide)) g14_ hI14_ hF14_  (by have qc0 : (0 : Int32).toInt = 0 := (by decide); omega)
          · skip
            have b8x : zB v5 1 1 := by have q1 := b5x; have q2 := (zB.of (x := 0) 0 (by decide)); simp only [z32lt, z32le, z32eq, Int32.reduceToInt, Int32.toInt_zero] at h29_5; constructor <;> omega
            refine z_iconst (pc := 32) (v := 1) C dX10_covers_32 (by decide) ?_
            refine z_iload_n (pc := 33) C dX10_covers_33 rfl ?_
            refine z_ishl (pc := 34) C dX10_covers_34 ?_
            refine w_gb 0 128 (zshl_b b3x 7 (by decide) (by decide)) (fun v9 b9x => ?_)
            refine z_goto (pc := 35) 39 C dX10_covers_35 (by decide) ?_
            exact ih1 b14_1 a14_2 b14_2 a14_3 b3x a14_2 b14_2 v9 b9x g14_ hI14_ hF14_  (by omega)
      · skip
        intro b39_1 a39_2 b39_2 a39_3 b39_3 a39_s0 b39_s0 a39_s1 b39_s1 g39_ hI39_ hF39_ hM39_
        refine z_ior (pc := 39) C dX10_covers_39 ?_
        refine w_gb 0 255 (zor_b 8 b39_s0 b39_s1 (by decide) (by decide) (by decide) (by decide) (by decide)) (fun v10 b10x => ?_)
        refine z_istore_n (pc := 40) C dX10_covers_40 (by rw [hn]; decide) rfl ?_
        refine z_iinc (pc := 41) (v := 1) C dX10_covers_41 rfl (by decide) (by rw [hn]; decide) rfl ?_
        obtain ⟨v11, hv11, e11⟩ : ∃ v : Int32, v = a39_3 + 1 ∧ v.toInt = a39_3.toInt + 1 := ⟨_, rfl, zadd_eb b39_3 (zB.of (x := 1) 1 (by decide)) (by decide) (by decide)⟩
        rw [← hv11]
        have b11x : zB v11 1 8 := by have q9 := b39_3; constructor <;> omega
        refine z_goto (pc := 44) 14 C dX10_covers_44 (by decide) ?_
        exact ih0 b39_1 v10 b10x v11 (zB.wk (a' := 0) (b' := 8) b11x (by decide) (by decide)) g39_ hI39_ hF39_  (by omega)
  obtain ⟨J0, J1⟩ := J 49
  show Z X 0 [some (zr 25 0), some (zi a1), none, none] [] f
  refine z_aload_n (pc := 0) C dX10_covers_0 rfl ?_
  refine z_iload_n (pc := 1) C dX10_covers_1 rfl ?_
  refine z_callVb (pc := 2) C zk_X10_109 (m_X10_isPaper _ _ _ hI) rfl rfl (by decide) rfl rfl (Nat.le_of_ble_eq_true rfl) dX10_covers_2 (fun h2_11 => ?_) (fun h2_11 => ?_)
  · skip
    have b13x : zB a1 0 11 := (zltc h2_11 (hI 25 0 4).2)
    refine z_if_ne (pc := 5) 10 C dX10_covers_5 (by decide) (fun _ => ?_) (fun h => absurd h (by decide))
    refine z_iconst (pc := 10) (v := 0) C dX10_covers_10 (by decide) ?_
    refine z_istore_n (pc := 11) C dX10_covers_11 (by rw [hn]; decide) rfl ?_
    refine z_iconst (pc := 12) (v := 0) C dX10_covers_12 (by decide) ?_
    refine z_istore_n (pc := 13) C dX10_covers_13 (by rw [hn]; decide) rfl ?_
    exact J0 b13x 0 (zB.wk (a' := 0) (b' := 255) (zB.of (x := 0) 0 (by decide)) (by decide) (by decide)) 0 (zB.wk (a' := 0) (b' := 8) (zB.of (x := 0) 0 (by decide)) (by decide) (by decide)) f hI hF  (by have qc0 : (0 : Int32).toInt = 0 := (by decide); omega)
  · skip
    refine z_if_ne (pc := 5) 10 C dX10_covers_5 (by decide) (fun h => absurd (by decide) h) (fun _ => ?_)
    refine z_iconst (pc := 8) (v := -1) C dX10_covers_8 (by decide) ?_
    exact z_iret (pc := 9) C hr dX10_covers_9 ⟨⟨_, rfl, (zB.wk (a' := (-1)) (b' := 255) (zB.of (x := (-1)) (-1) (by decide)) (by decide) (by decide))⟩, hI, hF⟩

set_option maxRecDepth 100000 in
set_option maxHeartbeats 4000000 in
theorem w_X10_lets (d : Nat) (f : zM) (a1 : Int32) (b1 : zB a1 (-2147483648) 2147483647) (hI : zInv f) : ZM (d + 6) yX10_lets cX10_lets 2 (some .int) [zr 25 0, zi a1] f (fun r g => (∃ v, r = some (zi v) ∧ zB v (-2) 255) ∧ zInv g ∧ zFr [(31, none)] f g ∧ (∀ v : Int32, r = some (zi v) → (0 ≤ v.toInt → 0 ≤ a1.toInt ∧ a1.toInt ≤ 11))) := by
  refine ZM.intro (by decide +kernel) (Nat.le_of_ble_eq_true rfl) ?_
  intro X C hr hn
  have hF : zFr [(31, none)] f f := zFr.rf _ _
  show Z X 0 [some (zr 25 0), some (zi a1)] [] f
  refine z_aload_n (pc := 0) C dX10_lets_0 rfl ?_
  refine z_iload_n (pc := 1) C dX10_lets_1 rfl ?_
  refine z_callVb (pc := 2) C zk_X10_109 (m_X10_isPaper _ _ _ hI) rfl rfl (by decide) rfl rfl (Nat.le_of_ble_eq_true rfl) dX10_lets_2 (fun h2_0 => ?_) (fun h2_0 => ?_)
  · skip
    have b2x : zB a1 0 11 := (zltc h2_0 (hI 25 0 4).2)
    refine z_if_ne (pc := 5) 10 C dX10_lets_5 (by decide) (fun _ => ?_) (fun h => absurd h (by decide))
    refine z_aload_n (pc := 10) C dX10_lets_10 rfl ?_
    refine z_getR (pc := 11) C zf_X10_16 rfl rfl (by decide) dX10_lets_11 ?_
    refine z_bipush (pc := 14) (v := 8) C dX10_lets_14 (by decide) ?_
    refine z_iload_n (pc := 16) C dX10_lets_16 rfl ?_
    refine z_imul (pc := 17) C dX10_lets_17 ?_
    refine w_gp (fun v => v.toInt = 8 * a1.toInt) (zmul_kb 8 (by decide) (by decide) b2x (by decide) (by decide)) (fun v3 e3 => ?_)
    have b3x : zB v3 0 88 := zmul_bb e3 (by decide) b2x
    refine z_iconst (pc := 18) (v := 1) C dX10_lets_18 (by decide) ?_
    refine z_iadd (pc := 19) C dX10_lets_19 ?_
    refine w_gp (fun v => v.toInt = v3.toInt + 1) (zadd_eb b3x (zB.of (x := 1) 1 (by decide)) (by decide) (by decide)) (fun v4 e4 => ?_)
    have b4x : zB v4 1 89 := by have q1 := b3x; have q2 := (zB.of (x := 1) 1 (by decide)); constructor <;> omega
    refine z_iald (pc := 20) C rfl (by decide) (zIx b4x (by decide) (by decide)) dX10_lets_20 ?_
    refine w_gb 0 5 (by have hq9 := hI 28 0 v4.toNatClampNeg; rw [zrg28 (r := 1) (by have hq : v4.toNatClampNeg = v4.toInt.toNat := rfl; have hq2 := b4x; omega)] at hq9; exact hq9) (fun v5 b5x => ?_)
    refine z_aload_n (pc := 21) C dX10_lets_21 rfl ?_
    refine z_getR (pc := 22) C zf_X10_22 rfl rfl (by decide) dX10_lets_22 ?_
    refine z_iconst (pc := 25) (v := 1) C dX10_lets_25 (by decide) ?_
    refine z_iald (pc := 26) C rfl (by decide) (zIx (zB.of (x := 1) 1 (by decide)) (by decide) (by decide)) dX10_lets_26 ?_
    refine w_gb 0 5 (hI 30 _ 1) (fun v6 b6x => ?_)
    refine z_icmp_eq (pc := 27) 33 C dX10_lets_27 (by decide) (fun h27_6 => ?_) (fun h27_6 => ?_)
    · skip
      refine z_aload_n (pc := 33) C dX10_lets_33 rfl ?_
      refine z_callV (pc := 34) C zk_X10_151 (w_X10_findOpen _ _  hI) rfl rfl (by decide) rfl rfl (Nat.le_of_ble_eq_true rfl) dX10_lets_34 (fun r8 g8 q8 => ?_)
      obtain ⟨rfl, hI8, hF8q⟩ := q8
      have hF8 := zFr.tr hF hF8q (by decide)
      simp only [Option.toList, List.cons_append, List.nil_append]
      refine z_aload_n (pc := 37) C dX10_lets_37 rfl ?_
      refine z_iload_n (pc := 38) C dX10_lets_38 rfl ?_
      refine z_callV (pc := 39) C zk_X10_154 (w_X10_goesNow _ _ a1 b2x hI8) rfl rfl (by decide) rfl rfl (Nat.le_of_ble_eq_true rfl) dX10_lets_39 (fun r9 g9 q9 => ?_)
      obtain ⟨⟨v9, rfl, b9x⟩, hI9, hF9q⟩ := q9
      obtain rfl := zFr_nil hF9q
      simp only [Option.toList, List.cons_append, List.nil_append]
      exact z_iret (pc := 42) C hr dX10_lets_42 ⟨⟨_, rfl, (zB.wk (a' := (-2)) (b' := 255) b9x (by decide) (by decide))⟩, hI8, hF8, (by intro v hv; cases hv; omega)⟩
    · skip
      refine z_bipush (pc := 30) (v := -2) C dX10_lets_30 (by decide) ?_
      exact z_iret (pc := 32) C hr dX10_lets_32 ⟨⟨_, rfl, (zB.wk (a' := (-2)) (b' := 255) (zB.of (x := (-2)) (-2) (by decide)) (by decide) (by decide))⟩, hI, hF, (by intro v hv; cases hv; have qc0 : ((-2) : Int32).toInt = (-2) := (by decide); omega)⟩
  · skip
    refine z_if_ne (pc := 5) 10 C dX10_lets_5 (by decide) (fun h => absurd (by decide) h) (fun _ => ?_)
    refine z_iconst (pc := 8) (v := -1) C dX10_lets_8 (by decide) ?_
    exact z_iret (pc := 9) C hr dX10_lets_9 ⟨⟨_, rfl, (zB.wk (a' := (-2)) (b' := 255) (zB.of (x := (-1)) (-1) (by decide)) (by decide) (by decide))⟩, hI, hF, (by intro v hv; cases hv; have qc0 : ((-1) : Int32).toInt = (-1) := (by decide); omega)⟩

set_option maxRecDepth 100000 in
set_option maxHeartbeats 4000000 in
theorem w_X10_barred (d : Nat) (f : zM) (a1 : Int32) (b1 : zB a1 (-2147483648) 2147483647) (a2 : Int32) (b2 : zB a2 (-2147483648) 2147483647) (hI : zInv f) : ZM (d + 4) yX10_barred cX10_barred 3 (some .int) [zr 25 0, zi a1, zi a2] f (fun r g => (∃ v, r = some (zi v) ∧ zB v (-1) 63) ∧ zInv g ∧ zFr [] f g) := by
  refine ZM.intro (by decide +kernel) (Nat.le_of_ble_eq_true rfl) ?_
  intro X C hr hn
  have hF : zFr [] f f := zFr.rf _ _
  have J : ∀ t : Nat, (∀ g : zM, zInv g → zFr [] f g → (1 : Int) < t → Z X 25 [some (zr 25 0), some (zi a1), some (zi a2)] [] g) ∧ (∀ a26_s0 : Int32, zB a26_s0 (-1) 63 → ∀ g : zM, zInv g → zFr [] f g → (0 : Int) < t → Z X 26 [some (zr 25 0), some (zi a1), some (zi a2)] [zi a26_s0] g) := by
    intro t
    induction t with
    | zero =>
      refine ⟨?_, ?_⟩ <;> (intros; exfalso; omega)
    | succ t ih =>
      obtain ⟨ih0, ih1⟩ := ih
      refine ⟨?_, ?_⟩
      · skip
        intro g25_ hI25_ hF25_ hM25_
        refine z_iconst (pc := 25) (v := -1) C dX10_barred_25 (by decide) ?_
        exact ih1 (-1) (zB.wk (a' := (-1)) (b' := 63) (zB.of (x := (-1)) (-1) (by decide)) (by decide) (by decide)) g25_ hI25_ hF25_  (by have qc0 : ((-1) : Int32).toInt = (-1) := (by decide); omega)
      · skip
        intro a26_s0 b26_s0 g26_ hI26_ hF26_ hM26_
        exact z_iret (pc := 26) C hr dX10_barred_26 ⟨⟨_, rfl, b26_s0⟩, hI26_, hF26_⟩
  obtain ⟨J0, J1⟩ := J 13
  show Z X 0 [some (zr 25 0), some (zi a1), some (zi a2)] [] f
  refine z_aload_n (pc := 0) C dX10_barred_0 rfl ?_
  refine z_iload_n (pc := 1) C dX10_barred_1 rfl ?_
  refine z_callVb (pc := 2) C zk_X10_109 (m_X10_isPaper _ _ _ hI) rfl rfl (by decide) rfl rfl (Nat.le_of_ble_eq_true rfl) dX10_barred_2 (fun h2_0 => ?_) (fun h2_0 => ?_)
  · skip
    have b2x : zB a1 0 11 := (zltc h2_0 (hI 25 0 4).2)
    refine z_if_eq (pc := 5) 25 C dX10_barred_5 (by decide) (fun h => absurd h (by decide)) (fun _ => ?_)
    refine z_aload_n (pc := 8) C dX10_barred_8 rfl ?_
    refine z_iload_n (pc := 9) C dX10_barred_9 rfl ?_
    refine z_callVb (pc := 10) C zk_X10_120 (m_X10_isDeed _ _ _ hI) rfl rfl (by decide) rfl rfl (Nat.le_of_ble_eq_true rfl) dX10_barred_10 (fun h10_2 => ?_) (fun h10_2 => ?_)
    · skip
      have b4x : zB a2 0 7 := (zltc h10_2 (hI 25 0 2).2)
      refine z_if_eq (pc := 13) 25 C dX10_barred_13 (by decide) (fun h => absurd h (by decide)) (fun _ => ?_)
      refine z_aload_n (pc := 16) C dX10_barred_16 rfl ?_
      refine z_iload_n (pc := 17) C dX10_barred_17 rfl ?_
      refine z_iload_n (pc := 18) C dX10_barred_18 rfl ?_
      refine z_callV (pc := 19) C zk_X10_141 (w_X10_standing _ _ a1 b2x a2 b4x hI) rfl rfl (by decide) rfl rfl (Nat.le_of_ble_eq_true rfl) dX10_barred_19 (fun r5 g5 q5 => ?_)
      obtain ⟨⟨v5, rfl, b5x⟩, hI5, hF5q⟩ := q5
      obtain rfl := zFr_nil hF5q
      simp only [Option.toList, List.cons_append, List.nil_append]
      refine z_goto (pc := 22) 26 C dX10_barred_22 (by decide) ?_
      exact J1 v5 (zB.wk (a' := (-1)) (b' := 63) b5x (by decide) (by decide)) f hI hF  (by omega)
    · skip
      refine z_if_eq (pc := 13) 25 C dX10_barred_13 (by decide) (fun _ => ?_) (fun h => absurd (by decide) h)
      exact J0  f hI hF  (by omega)
  · skip
    refine z_if_eq (pc := 5) 25 C dX10_barred_5 (by decide) (fun _ => ?_) (fun h => absurd (by decide) h)
    exact J0  f hI hF  (by omega)

set_option maxRecDepth 100000 in
set_option maxHeartbeats 4000000 in
theorem w_X10_send (d : Nat) (f : zM) (a1 : Int32) (b1 : zB a1 (-2147483648) 2147483647) (hI : zInv f) : ZM (d + 7) yX10_send cX10_send 4 (some .int) [zr 25 0, zi a1] f (fun r g => (∃ v, r = some (zi v) ∧ zB v (-4) 255) ∧ zInv g ∧ zFr [(30, none), (31, none)] f g) := by
  refine ZM.intro (by decide +kernel) (Nat.le_of_ble_eq_true rfl) ?_
  intro X C hr hn
  have hF : zFr [(30, none), (31, none)] f f := zFr.rf _ _
  have J : ∀ t : Nat, (zB a1 0 11 → ∀ a85_2 : Int32, zB a85_2 1 255 → ∀ a85_3 : Int32, zB a85_3 0 7 → ∀ a85_s2 : Int32, zB a85_s2 (-4) 5 → ∀ g : zM, zInv g → zFr [(30, none), (31, none)] f g → (1 : Int) < t → Z X 85 [some (zr 25 0), some (zi a1), some (zi a85_2), some (zi a85_3)] [zi a85_s2, zi 4, zr 30 0] g) ∧ (zB a1 0 11 → ∀ a104_2 : Int32, zB a104_2 1 255 → ∀ a104_3 : Int32, zB a104_3 0 7 → ∀ a104_s2 : Int32, zB a104_s2 1 255 → ∀ g : zM, zInv g → zFr [(30, none), (31, none)] f g → (0 : Int) < t → Z X 104 [some (zr 25 0), some (zi a1), some (zi a104_2), some (zi a104_3)] [zi a104_s2, zi 5, zr 30 0] g) := by
    intro t
    induction t with
    | zero =>
      refine ⟨?_, ?_⟩ <;> (intros; exfalso; omega)
    | succ t ih =>
      obtain ⟨ih0, ih1⟩ := ih
      refine ⟨?_, ?_⟩
      · skip
        intro b85_1 a85_2 b85_2 a85_3 b85_3 a85_s2 b85_s2 g85_ hI85_ hF85_ hM85_
        refine z_iast (pc := 85) C rfl (by decide) (zIx (zB.of (x := 4) 4 (by decide)) (by decide) (by decide)) dX10_send_85 ?_
        refine w_mem hI85_ hF85_ b85_s2 rfl (fun g1 hI1 hF1 => ?_)
        refine z_aload_n (pc := 86) C dX10_send_86 rfl ?_
        refine z_getR (pc := 87) C zf_X10_22 rfl rfl (by decide) dX10_send_87 ?_
        refine z_iconst (pc := 90) (v := 5) C dX10_send_90 (by decide) ?_
        refine z_iload_n (pc := 91) C dX10_send_91 rfl ?_
        refine z_iconst (pc := 92) (v := 2) C dX10_send_92 (by decide) ?_
        refine z_iand (pc := 93) C dX10_send_93 ?_
        refine w_gb 0 2 (zand_b b85_3 (zB.of (x := 2) 2 (by decide)) (by decide)) (fun v2 b2x => ?_)
        refine z_if_eq (pc := 94) 101 C dX10_send_94 (by decide) (fun h94_2 => ?_) (fun h94_2 => ?_)
        · skip
          have b4x : zB v2 0 0 := by have q1 := b2x; have q2 := (zB.of (x := 0) 0 (by decide)); simp only [z32lt, z32le, z32eq, Int32.reduceToInt, Int32.toInt_zero] at h94_2; constructor <;> omega
          refine z_sipush (pc := 101) (v := 255) C dX10_send_101 (by decide) ?_
          exact ih1 b85_1 a85_2 b85_2 a85_3 b85_3 255 (zB.wk (a' := 1) (b' := 255) (zB.of (x := 255) 255 (by decide)) (by decide) (by decide)) g1 hI1 hF1  (by have qc0 : (5 : Int32).toInt = 5 := (by decide); have qc1 : (255 : Int32).toInt = 255 := (by decide); omega)
        · skip
          have b5x : zB v2 1 2 := by have q1 := b2x; have q2 := (zB.of (x := 0) 0 (by decide)); simp only [z32lt, z32le, z32eq, Int32.reduceToInt, Int32.toInt_zero] at h94_2; constructor <;> omega
          refine z_iload_n (pc := 97) C dX10_send_97 rfl ?_
          refine z_goto (pc := 98) 104 C dX10_send_98 (by decide) ?_
          exact ih1 b85_1 a85_2 b85_2 a85_3 b85_3 a85_2 b85_2 g1 hI1 hF1  (by have qc0 : (5 : Int32).toInt = 5 := (by decide); omega)
      · skip
        intro b104_1 a104_2 b104_2 a104_3 b104_3 a104_s2 b104_s2 g104_ hI104_ hF104_ hM104_
        refine z_iast (pc := 104) C rfl (by decide) (zIx (zB.of (x := 5) 5 (by decide)) (by decide) (by decide)) dX10_send_104 ?_
        refine w_mem hI104_ hF104_ (zB.wk (a' := 0) (b' := 255) b104_s2 (by decide) (by decide)) rfl (fun g6 hI6 hF6 => ?_)
        refine z_aload_n (pc := 105) C dX10_send_105 rfl ?_
        refine z_getR (pc := 106) C zf_X10_22 rfl rfl (by decide) dX10_send_106 ?_
        refine z_bipush (pc := 109) (v := 6) C dX10_send_109 (by decide) ?_
        refine z_dup2 (pc := 111) C dX10_send_111 ?_
        refine z_iald (pc := 112) C rfl (by decide) (zIx (zB.of (x := 6) 6 (by decide)) (by decide) (by decide)) dX10_send_112 ?_
        refine w_gb (-2147483648) 2147483647 (hI6 30 _ 6) (fun v7 b7x => ?_)
        refine z_iconst (pc := 113) (v := 1) C dX10_send_113 (by decide) ?_
        refine z_iadd (pc := 114) C dX10_send_114 ?_
        refine w_gb (-2147483648) 2147483647 (zB_any _) (fun v8 b8x => ?_)
        refine z_iast (pc := 115) C rfl (by decide) (zIx (zB.of (x := 6) 6 (by decide)) (by decide) (by decide)) dX10_send_115 ?_
        refine w_mem hI6 hF6 b8x rfl (fun g9 hI9 hF9 => ?_)
        refine z_iload_n (pc := 116) C dX10_send_116 rfl ?_
        exact z_iret (pc := 117) C hr dX10_send_117 ⟨⟨_, rfl, (zB.wk (a' := (-4)) (b' := 255) b104_2 (by decide) (by decide))⟩, hI9, hF9⟩
  obtain ⟨J0, J1⟩ := J 13
  show Z X 0 [some (zr 25 0), some (zi a1), none, none] [] f
  refine z_aload_n (pc := 0) C dX10_send_0 rfl ?_
  refine z_iload_n (pc := 1) C dX10_send_1 rfl ?_
  refine z_callV (pc := 2) C zk_X10_158 (w_X10_lets _ _ a1 b1 hI) rfl rfl (by decide) rfl rfl (Nat.le_of_ble_eq_true rfl) dX10_send_2 (fun r10 g10 q10 => ?_)
  obtain ⟨⟨v10, rfl, b10x⟩, hI10, hF10q, hp10_0⟩ := q10
  have hp10_0 := hp10_0 _ rfl
  have hF10 := zFr.tr hF hF10q (by decide)
  simp only [Option.toList, List.cons_append, List.nil_append]
  refine z_istore_n (pc := 5) C dX10_send_5 (by rw [hn]; decide) rfl ?_
  refine z_iload_n (pc := 6) C dX10_send_6 rfl ?_
  refine z_if_ge (pc := 7) 12 C dX10_send_7 (by decide) (fun h7_10 => ?_) (fun h7_10 => ?_)
  · skip
    have b12x : zB v10 0 255 := by have q1 := b10x; have q2 := (zB.of (x := 0) 0 (by decide)); simp only [z32lt, z32le, z32eq, Int32.reduceToInt, Int32.toInt_zero] at h7_10; constructor <;> omega
    have b13x : zB a1 0 11 := by constructor <;> omega
    refine z_iload_n (pc := 12) C dX10_send_12 rfl ?_
    refine z_if_ne (pc := 13) 19 C dX10_send_13 (by decide) (fun h13_13 => ?_) (fun h13_13 => ?_)
    · skip
      have b15x : zB v10 1 255 := by have q1 := b12x; have q2 := (zB.of (x := 0) 0 (by decide)); simp only [z32lt, z32le, z32eq, Int32.reduceToInt, Int32.toInt_zero] at h13_13; constructor <;> omega
      have b16x : zB a1 0 11 := by constructor <;> omega
      refine z_aload_n (pc := 19) C dX10_send_19 rfl ?_
      refine z_getR (pc := 20) C zf_X10_16 rfl rfl (by decide) dX10_send_20 ?_
      refine z_bipush (pc := 23) (v := 8) C dX10_send_23 (by decide) ?_
      refine z_iload_n (pc := 25) C dX10_send_25 rfl ?_
      refine z_imul (pc := 26) C dX10_send_26 ?_
      refine w_gp (fun v => v.toInt = 8 * a1.toInt) (zmul_kb 8 (by decide) (by decide) b16x (by decide) (by decide)) (fun v17 e17 => ?_)
      have b17x : zB v17 0 88 := zmul_bb e17 (by decide) b16x
      refine z_bipush (pc := 27) (v := 7) C dX10_send_27 (by decide) ?_
      refine z_iadd (pc := 29) C dX10_send_29 ?_
      refine w_gp (fun v => v.toInt = v17.toInt + 7) (zadd_eb b17x (zB.of (x := 7) 7 (by decide)) (by decide) (by decide)) (fun v18 e18 => ?_)
      have b18x : zB v18 7 95 := by have q1 := b17x; have q2 := (zB.of (x := 7) 7 (by decide)); constructor <;> omega
      refine z_iald (pc := 30) C rfl (by decide) (zIx b18x (by decide) (by decide)) dX10_send_30 ?_
      refine w_gb 0 7 (by have hq9 := hI10 28 0 v18.toNatClampNeg; rw [zrg28 (r := 7) (by have hq : v18.toNatClampNeg = v18.toInt.toNat := rfl; have hq2 := b18x; omega)] at hq9; exact hq9) (fun v19 b19x => ?_)
      refine z_istore_n (pc := 31) C dX10_send_31 (by rw [hn]; decide) rfl ?_
      refine z_aload_n (pc := 32) C dX10_send_32 rfl ?_
      refine z_getR (pc := 33) C zf_X10_22 rfl rfl (by decide) dX10_send_33 ?_
      refine z_iconst (pc := 36) (v := 1) C dX10_send_36 (by decide) ?_
      refine z_aload_n (pc := 37) C dX10_send_37 rfl ?_
      refine z_getR (pc := 38) C zf_X10_16 rfl rfl (by decide) dX10_send_38 ?_
      refine z_bipush (pc := 41) (v := 8) C dX10_send_41 (by decide) ?_
      refine z_iload_n (pc := 43) C dX10_send_43 rfl ?_
      refine z_imul (pc := 44) C dX10_send_44 ?_
      refine w_gp (fun v => v.toInt = 8 * a1.toInt) (zmul_kb 8 (by decide) (by decide) b16x (by decide) (by decide)) (fun v20 e20 => ?_)
      have b20x : zB v20 0 88 := zmul_bb e20 (by decide) b16x
      refine z_iconst (pc := 45) (v := 2) C dX10_send_45 (by decide) ?_
      refine z_iadd (pc := 46) C dX10_send_46 ?_
      refine w_gp (fun v => v.toInt = v20.toInt + 2) (zadd_eb b20x (zB.of (x := 2) 2 (by decide)) (by decide) (by decide)) (fun v21 e21 => ?_)
      have b21x : zB v21 2 90 := by have q1 := b20x; have q2 := (zB.of (x := 2) 2 (by decide)); constructor <;> omega
      refine z_iald (pc := 47) C rfl (by decide) (zIx b21x (by decide) (by decide)) dX10_send_47 ?_
      refine w_gb 0 5 (by have hq9 := hI10 28 0 v21.toNatClampNeg; rw [zrg28 (r := 2) (by have hq : v21.toNatClampNeg = v21.toInt.toNat := rfl; have hq2 := b21x; omega)] at hq9; exact hq9) (fun v22 b22x => ?_)
      refine z_iast (pc := 48) C rfl (by decide) (zIx (zB.of (x := 1) 1 (by decide)) (by decide) (by decide)) dX10_send_48 ?_
      refine w_mem hI10 hF10 b22x rfl (fun g23 hI23 hF23 => ?_)
      refine z_aload_n (pc := 49) C dX10_send_49 rfl ?_
      refine z_getR (pc := 50) C zf_X10_22 rfl rfl (by decide) dX10_send_50 ?_
      refine z_iconst (pc := 53) (v := 3) C dX10_send_53 (by decide) ?_
      refine z_iload_n (pc := 54) C dX10_send_54 rfl ?_
      refine z_iconst (pc := 55) (v := 1) C dX10_send_55 (by decide) ?_
      refine z_iand (pc := 56) C dX10_send_56 ?_
      refine w_gb 0 1 (zand_b b19x (zB.of (x := 1) 1 (by decide)) (by decide)) (fun v24 b24x => ?_)
      refine z_iast (pc := 57) C rfl (by decide) (zIx (zB.of (x := 3) 3 (by decide)) (by decide) (by decide)) dX10_send_57 ?_
      refine w_mem hI23 hF23 b24x rfl (fun g25 hI25 hF25 => ?_)
      refine z_aload_n (pc := 58) C dX10_send_58 rfl ?_
      refine z_getR (pc := 59) C zf_X10_22 rfl rfl (by decide) dX10_send_59 ?_
      refine z_iconst (pc := 62) (v := 4) C dX10_send_62 (by decide) ?_
      refine z_iload_n (pc := 63) C dX10_send_63 rfl ?_
      refine z_iconst (pc := 64) (v := 4) C dX10_send_64 (by decide) ?_
      refine z_iand (pc := 65) C dX10_send_65 ?_
      refine w_gb 0 4 (zand_b b19x (zB.of (x := 4) 4 (by decide)) (by decide)) (fun v26 b26x => ?_)
      refine z_if_eq (pc := 66) 83 C dX10_send_66 (by decide) (fun h66_26 => ?_) (fun h66_26 => ?_)
      · skip
        have b28x : zB v26 0 0 := by have q1 := b26x; have q2 := (zB.of (x := 0) 0 (by decide)); simp only [z32lt, z32le, z32eq, Int32.reduceToInt, Int32.toInt_zero] at h66_26; constructor <;> omega
        refine z_bipush (pc := 83) (v := -4) C dX10_send_83 (by decide) ?_
        exact J0 b16x v10 b15x v19 b19x (-4) (zB.wk (a' := (-4)) (b' := 5) (zB.of (x := (-4)) (-4) (by decide)) (by decide) (by decide)) g25 hI25 hF25  (by have qc0 : ((-4) : Int32).toInt = (-4) := (by decide); have qc1 : (4 : Int32).toInt = 4 := (by decide); omega)
      · skip
        have b29x : zB v26 1 4 := by have q1 := b26x; have q2 := (zB.of (x := 0) 0 (by decide)); simp only [z32lt, z32le, z32eq, Int32.reduceToInt, Int32.toInt_zero] at h66_26; constructor <;> omega
        refine z_aload_n (pc := 69) C dX10_send_69 rfl ?_
        refine z_getR (pc := 70) C zf_X10_16 rfl rfl (by decide) dX10_send_70 ?_
        refine z_bipush (pc := 73) (v := 8) C dX10_send_73 (by decide) ?_
        refine z_iload_n (pc := 75) C dX10_send_75 rfl ?_
        refine z_imul (pc := 76) C dX10_send_76 ?_
        refine w_gp (fun v => v.toInt = 8 * a1.toInt) (zmul_kb 8 (by decide) (by decide) b16x (by decide) (by decide)) (fun v30 e30 => ?_)
        have b30x : zB v30 0 88 := zmul_bb e30 (by decide) b16x
        refine z_iconst (pc := 77) (v := 1) C dX10_send_77 (by decide) ?_
        refine z_iadd (pc := 78) C dX10_send_78 ?_
        refine w_gp (fun v => v.toInt = v30.toInt + 1) (zadd_eb b30x (zB.of (x := 1) 1 (by decide)) (by decide) (by decide)) (fun v31 e31 => ?_)
        have b31x : zB v31 1 89 := by have q1 := b30x; have q2 := (zB.of (x := 1) 1 (by decide)); constructor <;> omega
        refine z_iald (pc := 79) C rfl (by decide) (zIx b31x (by decide) (by decide)) dX10_send_79 ?_
        refine w_gb 0 5 (by have hq9 := hI25 28 0 v31.toNatClampNeg; rw [zrg28 (r := 1) (by have hq : v31.toNatClampNeg = v31.toInt.toNat := rfl; have hq2 := b31x; omega)] at hq9; exact hq9) (fun v32 b32x => ?_)
        refine z_goto (pc := 80) 85 C dX10_send_80 (by decide) ?_
        exact J0 b16x v10 b15x v19 b19x v32 (zB.wk (a' := (-4)) (b' := 5) b32x (by decide) (by decide)) g25 hI25 hF25  (by have qc0 : (4 : Int32).toInt = 4 := (by decide); omega)
    · skip
      have b33x : zB v10 0 0 := by have q1 := b12x; have q2 := (zB.of (x := 0) 0 (by decide)); simp only [z32lt, z32le, z32eq, Int32.reduceToInt, Int32.toInt_zero] at h13_13; constructor <;> omega
      have b34x : zB a1 0 11 := by constructor <;> omega
      refine z_bipush (pc := 16) (v := -4) C dX10_send_16 (by decide) ?_
      exact z_iret (pc := 18) C hr dX10_send_18 ⟨⟨_, rfl, (zB.wk (a' := (-4)) (b' := 255) (zB.of (x := (-4)) (-4) (by decide)) (by decide) (by decide))⟩, hI10, hF10⟩
  · skip
    have b35x : zB v10 (-2) (-1) := by have q1 := b10x; have q2 := (zB.of (x := 0) 0 (by decide)); simp only [z32lt, z32le, z32eq, Int32.reduceToInt, Int32.toInt_zero] at h7_10; constructor <;> omega
    refine z_iload_n (pc := 10) C dX10_send_10 rfl ?_
    exact z_iret (pc := 11) C hr dX10_send_11 ⟨⟨_, rfl, (zB.wk (a' := (-4)) (b' := 255) b35x (by decide) (by decide))⟩, hI10, hF10⟩

set_option maxRecDepth 100000 in
set_option maxHeartbeats 4000000 in
theorem w_X10_tried (d : Nat) (f : zM)  (hI : zInv f) : ZM (d + 4) yX10_tried cX10_tried 1 (some .int) [zr 25 0] f (fun r g => (∃ v, r = some (zi v) ∧ zB v 0 255) ∧ zInv g ∧ zFr [] f g) := by
  refine ZM.intro (by decide +kernel) (Nat.le_of_ble_eq_true rfl) ?_
  intro X C hr hn
  have hF : zFr [] f f := zFr.rf _ _
  show Z X 0 [some (zr 25 0)] [] f
  refine z_aload_n (pc := 0) C dX10_tried_0 rfl ?_
  refine z_aload_n (pc := 1) C dX10_tried_1 rfl ?_
  refine z_getR (pc := 2) C zf_X10_22 rfl rfl (by decide) dX10_tried_2 ?_
  refine z_iconst (pc := 5) (v := 1) C dX10_tried_5 (by decide) ?_
  refine z_iald (pc := 6) C rfl (by decide) (zIx (zB.of (x := 1) 1 (by decide)) (by decide) (by decide)) dX10_tried_6 ?_
  refine w_gb 0 5 (hI 30 _ 1) (fun v1 b1x => ?_)
  refine z_aload_n (pc := 7) C dX10_tried_7 rfl ?_
  refine z_getR (pc := 8) C zf_X10_22 rfl rfl (by decide) dX10_tried_8 ?_
  refine z_iconst (pc := 11) (v := 5) C dX10_tried_11 (by decide) ?_
  refine z_iald (pc := 12) C rfl (by decide) (zIx (zB.of (x := 5) 5 (by decide)) (by decide) (by decide)) dX10_tried_12 ?_
  refine w_gb 0 255 (hI 30 _ 5) (fun v2 b2x => ?_)
  refine z_callV (pc := 13) C zk_X10_165 (w_X10_triedAt _ _ v1 b1x v2 b2x hI) rfl rfl (by decide) rfl rfl (Nat.le_of_ble_eq_true rfl) dX10_tried_13 (fun r3 g3 q3 => ?_)
  obtain ⟨⟨v3, rfl, b3x⟩, hI3, hF3q⟩ := q3
  obtain rfl := zFr_nil hF3q
  simp only [Option.toList, List.cons_append, List.nil_append]
  exact z_iret (pc := 16) C hr dX10_tried_16 ⟨⟨_, rfl, b3x⟩, hI, hF⟩

set_option maxRecDepth 100000 in
set_option maxHeartbeats 4000000 in
theorem w_X10_safe (d : Nat) (f : zM) (a1 : Int32) (b1 : zB a1 (-2147483648) 2147483647) (hI : zInv f) : ZM (d + 5) yX10_safe cX10_safe 6 (some .int) [zr 25 0, zi a1] f (fun r g => (∃ v, r = some (zi v) ∧ zB v (-1) 63) ∧ zInv g ∧ zFr [(31, none)] f g) := by
  refine ZM.intro (by decide +kernel) (Nat.le_of_ble_eq_true rfl) ?_
  intro X C hr hn
  have hF : zFr [(31, none)] f f := zFr.rf _ _
  have J : ∀ t : Nat, (zB a1 0 1 → ∀ a20_2 : Int32, zB a20_2 0 63 → ∀ a20_3 : Int32, zB a20_3 0 6 → ∀ g : zM, zInv g → zFr [(31, none)] f g → (123 + 126 * (6 - a20_3.toInt) : Int) < t → Z X 20 [some (zr 25 0), some (zi a1), some (zi a20_2), some (zi a20_3), none, none] [] g) ∧ (zB a1 0 1 → ∀ a41_2 : Int32, zB a41_2 0 63 → ∀ a41_3 : Int32, zB a41_3 0 5 → ∀ g : zM, zInv g → zFr [(31, none)] f g → (122 + 126 * (6 - a41_3.toInt) : Int) < t → Z X 41 [some (zr 25 0), some (zi a1), some (zi a41_2), some (zi a41_3), none, none] [] g) ∧ (zB a1 0 1 → ∀ a46_2 : Int32, zB a46_2 0 63 → ∀ a46_3 : Int32, zB a46_3 0 5 → ∀ a46_s0 : Int32, zB a46_s0 0 1 → ∀ g : zM, zInv g → zFr [(31, none)] f g → (121 + 126 * (6 - a46_3.toInt) : Int) < t → Z X 46 [some (zr 25 0), some (zi a1), some (zi a46_2), some (zi a46_3), none, none] [zi a46_s0] g) ∧ (zB a1 0 1 → ∀ a51_2 : Int32, zB a51_2 0 63 → ∀ a51_3 : Int32, zB a51_3 0 5 → ∀ a51_4 : Int32, zB a51_4 0 1 → ∀ a51_5 : Int32, zB a51_5 0 12 → ∀ g : zM, zInv g → zFr [(31, none)] f g → (3 + 9 * (12 - a51_5.toInt) + 126 * (6 - a51_3.toInt) : Int) < t → Z X 51 [some (zr 25 0), some (zi a1), some (zi a51_2), some (zi a51_3), some (zi a51_4), some (zi a51_5)] [] g) ∧ (zB a1 0 1 → ∀ a86_2 : Int32, zB a86_2 0 63 → ∀ a86_3 : Int32, zB a86_3 0 5 → ∀ a86_4 : Int32, zB a86_4 1 1 → ∀ a86_5 : Int32, zB a86_5 0 11 → ∀ a86_s0 : Int32, zB a86_s0 0 1 → ∀ g : zM, zInv g → zFr [(31, none)] f g → (2 + 9 * (12 - a86_5.toInt) + 126 * (6 - a86_3.toInt) : Int) < t → Z X 86 [some (zr 25 0), some (zi a1), some (zi a86_2), some (zi a86_3), some (zi a86_4), some (zi a86_5)] [zi a86_s0] g) ∧ (zB a1 0 1 → ∀ a94_2 : Int32, zB a94_2 0 63 → ∀ a94_3 : Int32, zB a94_3 0 5 → ∀ a94_4 : Int32, zB a94_4 0 1 → ∀ a94_5 : Int32, zB a94_5 0 12 → ∀ g : zM, zInv g → zFr [(31, none)] f g → (1 + 126 * (6 - a94_3.toInt) : Int) < t → Z X 94 [some (zr 25 0), some (zi a1), some (zi a94_2), some (zi a94_3), some (zi a94_4), some (zi a94_5)] [] g) ∧ (zB a1 0 1 → ∀ a107_2 : Int32, zB a107_2 0 63 → ∀ a107_3 : Int32, zB a107_3 0 5 → ∀ a107_4 : Int32, zB a107_4 0 1 → ∀ a107_5 : Int32, zB a107_5 0 12 → ∀ a107_s0 : Int32, zB a107_s0 0 63 → ∀ a107_s1 : Int32, zB a107_s1 0 32 → ∀ g : zM, zInv g → zFr [(31, none)] f g → (0 + 126 * (6 - a107_3.toInt) : Int) < t → Z X 107 [some (zr 25 0), some (zi a1), some (zi a107_2), some (zi a107_3), some (zi a107_4), some (zi a107_5)] [zi a107_s1, zi a107_s0] g) := by
    intro t
    induction t with
    | zero =>
      refine ⟨?_, ?_, ?_, ?_, ?_, ?_, ?_⟩ <;> (intros; exfalso; omega)
    | succ t ih =>
      obtain ⟨ih0, ih1, ih2, ih3, ih4, ih5, ih6⟩ := ih
      refine ⟨?_, ?_, ?_, ?_, ?_, ?_, ?_⟩
      · skip
        intro b20_1 a20_2 b20_2 a20_3 b20_3 g20_ hI20_ hF20_ hM20_
        refine z_iload_n (pc := 20) C dX10_safe_20 rfl ?_
        refine z_bipush (pc := 21) (v := 6) C dX10_safe_21 (by decide) ?_
        refine z_icmp_ge (pc := 23) 115 C dX10_safe_23 (by decide) (fun h23_0 => ?_) (fun h23_0 => ?_)
        · skip
          have b2x : zB a20_3 6 6 := by have q1 := b20_3; have q2 := (zB.of (x := 6) 6 (by decide)); simp only [z32lt, z32le, z32eq, Int32.reduceToInt, Int32.toInt_zero] at h23_0; constructor <;> omega
          refine z_iload_n (pc := 115) C dX10_safe_115 rfl ?_
          exact z_iret (pc := 116) C hr dX10_safe_116 ⟨⟨_, rfl, (zB.wk (a' := (-1)) (b' := 63) b20_2 (by decide) (by decide))⟩, hI20_, hF20_⟩
        · skip
          have b3x : zB a20_3 0 5 := by have q1 := b20_3; have q2 := (zB.of (x := 6) 6 (by decide)); simp only [z32lt, z32le, z32eq, Int32.reduceToInt, Int32.toInt_zero] at h23_0; constructor <;> omega
          refine z_iload_n (pc := 26) C dX10_safe_26 rfl ?_
          refine z_if_eq (pc := 27) 41 C dX10_safe_27 (by decide) (fun h27_3 => ?_) (fun h27_3 => ?_)
          · skip
            have b5x : zB a1 0 0 := by have q1 := b20_1; have q2 := (zB.of (x := 0) 0 (by decide)); simp only [z32lt, z32le, z32eq, Int32.reduceToInt, Int32.toInt_zero] at h27_3; constructor <;> omega
            exact ih1 (zB.wk (a' := 0) (b' := 1) b5x (by decide) (by decide)) a20_2 b20_2 a20_3 b3x g20_ hI20_ hF20_  (by omega)
          · skip
            have b6x : zB a1 1 1 := by have q1 := b20_1; have q2 := (zB.of (x := 0) 0 (by decide)); simp only [z32lt, z32le, z32eq, Int32.reduceToInt, Int32.toInt_zero] at h27_3; constructor <;> omega
            refine z_aload_n (pc := 30) C dX10_safe_30 rfl ?_
            refine z_iload_n (pc := 31) C dX10_safe_31 rfl ?_
            refine z_sipush (pc := 32) (v := 255) C dX10_safe_32 (by decide) ?_
            refine z_callV (pc := 35) C zk_X10_165 (w_X10_triedAt _ _ a20_3 b3x 255 (zB.wk (a' := 0) (b' := 255) (zB.of (x := 255) 255 (by decide)) (by decide) (by decide)) hI20_) rfl rfl (by decide) rfl rfl (Nat.le_of_ble_eq_true rfl) dX10_safe_35 (fun r7 g7 q7 => ?_)
            obtain ⟨⟨v7, rfl, b7x⟩, hI7, hF7q⟩ := q7
            obtain rfl := zFr_nil hF7q
            simp only [Option.toList, List.cons_append, List.nil_append]
            refine z_if_ne (pc := 38) 45 C dX10_safe_38 (by decide) (fun h38_7 => ?_) (fun h38_7 => ?_)
            · skip
              have b9x : zB v7 1 255 := by have q1 := b7x; have q2 := (zB.of (x := 0) 0 (by decide)); simp only [z32lt, z32le, z32eq, Int32.reduceToInt, Int32.toInt_zero] at h38_7; constructor <;> omega
              refine z_iconst (pc := 45) (v := 0) C dX10_safe_45 (by decide) ?_
              exact ih2 (zB.wk (a' := 0) (b' := 1) b6x (by decide) (by decide)) a20_2 b20_2 a20_3 b3x 0 (zB.wk (a' := 0) (b' := 1) (zB.of (x := 0) 0 (by decide)) (by decide) (by decide)) g20_ hI20_ hF20_  (by have qc0 : (0 : Int32).toInt = 0 := (by decide); omega)
            · skip
              have b10x : zB v7 0 0 := by have q1 := b7x; have q2 := (zB.of (x := 0) 0 (by decide)); simp only [z32lt, z32le, z32eq, Int32.reduceToInt, Int32.toInt_zero] at h38_7; constructor <;> omega
              exact ih1 (zB.wk (a' := 0) (b' := 1) b6x (by decide) (by decide)) a20_2 b20_2 a20_3 b3x g20_ hI20_ hF20_  (by omega)
      · skip
        intro b41_1 a41_2 b41_2 a41_3 b41_3 g41_ hI41_ hF41_ hM41_
        refine z_iconst (pc := 41) (v := 1) C dX10_safe_41 (by decide) ?_
        refine z_goto (pc := 42) 46 C dX10_safe_42 (by decide) ?_
        exact ih2 b41_1 a41_2 b41_2 a41_3 b41_3 1 (zB.wk (a' := 0) (b' := 1) (zB.of (x := 1) 1 (by decide)) (by decide) (by decide)) g41_ hI41_ hF41_  (by have qc0 : (1 : Int32).toInt = 1 := (by decide); omega)
      · skip
        intro b46_1 a46_2 b46_2 a46_3 b46_3 a46_s0 b46_s0 g46_ hI46_ hF46_ hM46_
        refine z_istore (pc := 46) C dX10_safe_46 (by rw [hn]; decide) rfl ?_
        refine z_iconst (pc := 48) (v := 0) C dX10_safe_48 (by decide) ?_
        refine z_istore (pc := 49) C dX10_safe_49 (by rw [hn]; decide) rfl ?_
        exact ih3 b46_1 a46_2 b46_2 a46_3 b46_3 a46_s0 b46_s0 0 (zB.wk (a' := 0) (b' := 12) (zB.of (x := 0) 0 (by decide)) (by decide) (by decide)) g46_ hI46_ hF46_  (by have qc0 : (0 : Int32).toInt = 0 := (by decide); omega)
      · skip
        intro b51_1 a51_2 b51_2 a51_3 b51_3 a51_4 b51_4 a51_5 b51_5 g51_ hI51_ hF51_ hM51_
        refine z_iload (pc := 51) C dX10_safe_51 rfl ?_
        refine z_aload_n (pc := 53) C dX10_safe_53 rfl ?_
        refine z_getI (pc := 54) C zf_X10_77 rfl rfl (by decide) dX10_safe_54 ?_
        refine w_gb 0 12 (hI51_ 25 _ 4) (fun v11 b11x => ?_)
        refine z_icmp_ge (pc := 57) 94 C dX10_safe_57 (by decide) (fun h57_11 => ?_) (fun h57_11 => ?_)
        · skip
          exact ih5 b51_1 a51_2 b51_2 a51_3 b51_3 a51_4 b51_4 a51_5 b51_5 g51_ hI51_ hF51_  (by omega)
        · skip
          have b13x : zB a51_5 0 11 := by have q1 := b51_5; have q2 := b11x; simp only [z32lt, z32le, z32eq, Int32.reduceToInt, Int32.toInt_zero] at h57_11; constructor <;> omega
          have b14x : zB v11 1 12 := by have q1 := b51_5; have q2 := b11x; simp only [z32lt, z32le, z32eq, Int32.reduceToInt, Int32.toInt_zero] at h57_11; constructor <;> omega
          refine z_iload (pc := 60) C dX10_safe_60 rfl ?_
          refine z_if_eq (pc := 62) 94 C dX10_safe_62 (by decide) (fun h62_14 => ?_) (fun h62_14 => ?_)
          · skip
            have b16x : zB a51_4 0 0 := by have q1 := b51_4; have q2 := (zB.of (x := 0) 0 (by decide)); simp only [z32lt, z32le, z32eq, Int32.reduceToInt, Int32.toInt_zero] at h62_14; constructor <;> omega
            exact ih5 b51_1 a51_2 b51_2 a51_3 b51_3 a51_4 (zB.wk (a' := 0) (b' := 1) b16x (by decide) (by decide)) a51_5 (zB.wk (a' := 0) (b' := 12) b13x (by decide) (by decide)) g51_ hI51_ hF51_  (by omega)
          · skip
            have b17x : zB a51_4 1 1 := by have q1 := b51_4; have q2 := (zB.of (x := 0) 0 (by decide)); simp only [z32lt, z32le, z32eq, Int32.reduceToInt, Int32.toInt_zero] at h62_14; constructor <;> omega
            refine z_aload_n (pc := 65) C dX10_safe_65 rfl ?_
            refine z_iload (pc := 66) C dX10_safe_66 rfl ?_
            refine z_iload_n (pc := 68) C dX10_safe_68 rfl ?_
            refine z_iconst (pc := 69) (v := 0) C dX10_safe_69 (by decide) ?_
            refine z_bipush (pc := 70) (v := -4) C dX10_safe_70 (by decide) ?_
            refine z_sipush (pc := 72) (v := 255) C dX10_safe_72 (by decide) ?_
            refine z_callV (pc := 75) C zk_X10_147 (w_X10_goes _ _ a51_5 b13x a51_3 b51_3 0 (zB.wk (a' := 0) (b' := 1) (zB.of (x := 0) 0 (by decide)) (by decide) (by decide)) (-4) (zB.wk (a' := (-4)) (b' := 5) (zB.of (x := (-4)) (-4) (by decide)) (by decide) (by decide)) 255 (zB.wk (a' := 0) (b' := 255) (zB.of (x := 255) 255 (by decide)) (by decide) (by decide)) hI51_) rfl rfl (by decide) rfl rfl (Nat.le_of_ble_eq_true rfl) dX10_safe_75 (fun r18 g18 q18 => ?_)
            obtain ⟨⟨v18, rfl, b18x⟩, hI18, hF18q⟩ := q18
            obtain rfl := zFr_nil hF18q
            simp only [Option.toList, List.cons_append, List.nil_append]
            refine z_if_ne (pc := 78) 85 C dX10_safe_78 (by decide) (fun h78_18 => ?_) (fun h78_18 => ?_)
            · skip
              have b20x : zB v18 1 255 := by have q1 := b18x; have q2 := (zB.of (x := 0) 0 (by decide)); simp only [z32lt, z32le, z32eq, Int32.reduceToInt, Int32.toInt_zero] at h78_18; constructor <;> omega
              refine z_iconst (pc := 85) (v := 0) C dX10_safe_85 (by decide) ?_
              exact ih4 b51_1 a51_2 b51_2 a51_3 b51_3 a51_4 b17x a51_5 b13x 0 (zB.wk (a' := 0) (b' := 1) (zB.of (x := 0) 0 (by decide)) (by decide) (by decide)) g51_ hI51_ hF51_  (by have qc0 : (0 : Int32).toInt = 0 := (by decide); omega)
            · skip
              have b21x : zB v18 0 0 := by have q1 := b18x; have q2 := (zB.of (x := 0) 0 (by decide)); simp only [z32lt, z32le, z32eq, Int32.reduceToInt, Int32.toInt_zero] at h78_18; constructor <;> omega
              refine z_iconst (pc := 81) (v := 1) C dX10_safe_81 (by decide) ?_
              refine z_goto (pc := 82) 86 C dX10_safe_82 (by decide) ?_
              exact ih4 b51_1 a51_2 b51_2 a51_3 b51_3 a51_4 b17x a51_5 b13x 1 (zB.wk (a' := 0) (b' := 1) (zB.of (x := 1) 1 (by decide)) (by decide) (by decide)) g51_ hI51_ hF51_  (by have qc0 : (1 : Int32).toInt = 1 := (by decide); omega)
      · skip
        intro b86_1 a86_2 b86_2 a86_3 b86_3 a86_4 b86_4 a86_5 b86_5 a86_s0 b86_s0 g86_ hI86_ hF86_ hM86_
        refine z_istore (pc := 86) C dX10_safe_86 (by rw [hn]; decide) rfl ?_
        refine z_iinc (pc := 88) (v := 1) C dX10_safe_88 rfl (by decide) (by rw [hn]; decide) rfl ?_
        obtain ⟨v22, hv22, e22⟩ : ∃ v : Int32, v = a86_5 + 1 ∧ v.toInt = a86_5.toInt + 1 := ⟨_, rfl, zadd_eb b86_5 (zB.of (x := 1) 1 (by decide)) (by decide) (by decide)⟩
        rw [← hv22]
        have b22x : zB v22 1 12 := by have q9 := b86_5; constructor <;> omega
        refine z_goto (pc := 91) 51 C dX10_safe_91 (by decide) ?_
        exact ih3 b86_1 a86_2 b86_2 a86_3 b86_3 a86_s0 b86_s0 v22 (zB.wk (a' := 0) (b' := 12) b22x (by decide) (by decide)) g86_ hI86_ hF86_  (by omega)
      · skip
        intro b94_1 a94_2 b94_2 a94_3 b94_3 a94_4 b94_4 a94_5 b94_5 g94_ hI94_ hF94_ hM94_
        refine z_iload_n (pc := 94) C dX10_safe_94 rfl ?_
        refine z_iload (pc := 95) C dX10_safe_95 rfl ?_
        refine z_if_eq (pc := 97) 106 C dX10_safe_97 (by decide) (fun h97_22 => ?_) (fun h97_22 => ?_)
        · skip
          have b24x : zB a94_4 0 0 := by have q1 := b94_4; have q2 := (zB.of (x := 0) 0 (by decide)); simp only [z32lt, z32le, z32eq, Int32.reduceToInt, Int32.toInt_zero] at h97_22; constructor <;> omega
          refine z_iconst (pc := 106) (v := 0) C dX10_safe_106 (by decide) ?_
          exact ih6 b94_1 a94_2 b94_2 a94_3 b94_3 a94_4 (zB.wk (a' := 0) (b' := 1) b24x (by decide) (by decide)) a94_5 b94_5 a94_2 b94_2 0 (zB.wk (a' := 0) (b' := 32) (zB.of (x := 0) 0 (by decide)) (by decide) (by decide)) g94_ hI94_ hF94_  (by have qc0 : (0 : Int32).toInt = 0 := (by decide); omega)
        · skip
          have b25x : zB a94_4 1 1 := by have q1 := b94_4; have q2 := (zB.of (x := 0) 0 (by decide)); simp only [z32lt, z32le, z32eq, Int32.reduceToInt, Int32.toInt_zero] at h97_22; constructor <;> omega
          refine z_iconst (pc := 100) (v := 1) C dX10_safe_100 (by decide) ?_
          refine z_iload_n (pc := 101) C dX10_safe_101 rfl ?_
          refine z_ishl (pc := 102) C dX10_safe_102 ?_
          refine w_gb 0 32 (zshl_b b94_3 5 (by decide) (by decide)) (fun v26 b26x => ?_)
          refine z_goto (pc := 103) 107 C dX10_safe_103 (by decide) ?_
          exact ih6 b94_1 a94_2 b94_2 a94_3 b94_3 a94_4 (zB.wk (a' := 0) (b' := 1) b25x (by decide) (by decide)) a94_5 b94_5 a94_2 b94_2 v26 b26x g94_ hI94_ hF94_  (by omega)
      · skip
        intro b107_1 a107_2 b107_2 a107_3 b107_3 a107_4 b107_4 a107_5 b107_5 a107_s0 b107_s0 a107_s1 b107_s1 g107_ hI107_ hF107_ hM107_
        refine z_ior (pc := 107) C dX10_safe_107 ?_
        refine w_gb 0 63 (zor_b 6 b107_s0 b107_s1 (by decide) (by decide) (by decide) (by decide) (by decide)) (fun v27 b27x => ?_)
        refine z_istore_n (pc := 108) C dX10_safe_108 (by rw [hn]; decide) rfl ?_
        refine z_iinc (pc := 109) (v := 1) C dX10_safe_109 rfl (by decide) (by rw [hn]; decide) rfl ?_
        obtain ⟨v28, hv28, e28⟩ : ∃ v : Int32, v = a107_3 + 1 ∧ v.toInt = a107_3.toInt + 1 := ⟨_, rfl, zadd_eb b107_3 (zB.of (x := 1) 1 (by decide)) (by decide) (by decide)⟩
        rw [← hv28]
        have b28x : zB v28 1 6 := by have q9 := b107_3; constructor <;> omega
        refine z_goto (pc := 112) 20 C dX10_safe_112 (by decide) ?_
        refine w_mask [4, 5] ?_
        exact ih0 b107_1 v27 b27x v28 (zB.wk (a' := 0) (b' := 6) b28x (by decide) (by decide)) g107_ hI107_ hF107_  (by omega)
  obtain ⟨J0, J1, J2, J3, J4, J5, J6⟩ := J 1017
  show Z X 0 [some (zr 25 0), some (zi a1), none, none, none, none] [] f
  refine z_iload_n (pc := 0) C dX10_safe_0 rfl ?_
  refine z_i2l (pc := 1) C dX10_safe_1 ?_
  refine z_lconst (pc := 2) (v := 0) C dX10_safe_2 (by decide) ?_
  refine z_lconst (pc := 3) (v := 1) C dX10_safe_3 (by decide) ?_
  refine z_callSb (pc := 4) C zk_X10_69 (m_X10_in _ _ _ _ _) rfl rfl (Nat.le_of_ble_eq_true rfl) dX10_safe_4 (fun h4_28 => ?_) (fun h4_28 => ?_)
  · skip
    have b30x : zB a1 0 1 := zin64 h4_28 rfl rfl
    refine z_if_ne (pc := 7) 12 C dX10_safe_7 (by decide) (fun _ => ?_) (fun h => absurd h (by decide))
    refine z_aload_n (pc := 12) C dX10_safe_12 rfl ?_
    refine z_callV (pc := 13) C zk_X10_151 (w_X10_findOpen _ _  hI) rfl rfl (by decide) rfl rfl (Nat.le_of_ble_eq_true rfl) dX10_safe_13 (fun r31 g31 q31 => ?_)
    obtain ⟨rfl, hI31, hF31q⟩ := q31
    have hF31 := zFr.tr hF hF31q (by decide)
    simp only [Option.toList, List.cons_append, List.nil_append]
    refine z_iconst (pc := 16) (v := 0) C dX10_safe_16 (by decide) ?_
    refine z_istore_n (pc := 17) C dX10_safe_17 (by rw [hn]; decide) rfl ?_
    refine z_iconst (pc := 18) (v := 0) C dX10_safe_18 (by decide) ?_
    refine z_istore_n (pc := 19) C dX10_safe_19 (by rw [hn]; decide) rfl ?_
    exact J0 b30x 0 (zB.wk (a' := 0) (b' := 63) (zB.of (x := 0) 0 (by decide)) (by decide) (by decide)) 0 (zB.wk (a' := 0) (b' := 6) (zB.of (x := 0) 0 (by decide)) (by decide) (by decide)) g31 hI31 hF31  (by have qc0 : (0 : Int32).toInt = 0 := (by decide); omega)
  · skip
    refine z_if_ne (pc := 7) 12 C dX10_safe_7 (by decide) (fun h => absurd (by decide) h) (fun _ => ?_)
    refine z_iconst (pc := 10) (v := -1) C dX10_safe_10 (by decide) ?_
    exact z_iret (pc := 11) C hr dX10_safe_11 ⟨⟨_, rfl, (zB.wk (a' := (-1)) (b' := 63) (zB.of (x := (-1)) (-1) (by decide)) (by decide) (by decide))⟩, hI, hF⟩

set_option maxRecDepth 100000 in
set_option maxHeartbeats 4000000 in
theorem w_X10_demand (d : Nat) (f : zM) (a1 : Int32) (b1 : zB a1 (-2147483648) 2147483647) (a2 : Int32) (b2 : zB a2 (-2147483648) 2147483647) (a3 : Int32) (b3 : zB a3 (-2147483648) 2147483647) (hI : zInv f) : ZM (d + 2) yX10_demand cX10_demand 4 (some .int) [zr 25 0, zi a1, zi a2, zi a3] f (fun r g => (∃ v, r = some (zi v) ∧ zB v (-3) 7) ∧ zInv g ∧ zFr [(25, some 6), (29, none)] f g) := by
  refine ZM.intro (by decide +kernel) (Nat.le_of_ble_eq_true rfl) ?_
  intro X C hr hn
  have hF : zFr [(25, some 6), (29, none)] f f := zFr.rf _ _
  have ct25_0_6 : zB (f 25 0 6) 0 8 := hI 25 0 6
  have J : ∀ t : Nat, (∀ g : zM, zInv g → zFr [(25, some 6), (29, none)] f g → zB (g 25 0 6) 0 8 → (0 : Int) < t → Z X 33 [some (zr 25 0), some (zi a1), some (zi a2), some (zi a3)] [] g) := by
    intro t
    induction t with
    | zero =>
      intros; exfalso; omega
    | succ t ih =>
      have ih0 := ih
      intro g33_ hI33_ hF33_ f33_25_0_6 hM33_
      refine z_iconst (pc := 33) (v := -1) C dX10_demand_33 (by decide) ?_
      exact z_iret (pc := 34) C hr dX10_demand_34 ⟨⟨_, rfl, (zB.wk (a' := (-3)) (b' := 7) (zB.of (x := (-1)) (-1) (by decide)) (by decide) (by decide))⟩, hI33_, hF33_⟩
  have J0 := J 12
  show Z X 0 [some (zr 25 0), some (zi a1), some (zi a2), some (zi a3)] [] f
  refine z_iload_n (pc := 0) C dX10_demand_0 rfl ?_
  refine z_callSb (pc := 1) C zk_X10_83 (m_X10_isLand _ _ _) rfl rfl (Nat.le_of_ble_eq_true rfl) dX10_demand_1 (fun h1_0 => ?_) (fun h1_0 => ?_)
  · skip
    have b2x : zB a1 0 5 := h1_0
    refine z_if_eq (pc := 4) 33 C dX10_demand_4 (by decide) (fun h => absurd h (by decide)) (fun _ => ?_)
    refine z_iload_n (pc := 7) C dX10_demand_7 rfl ?_
    refine z_i2l (pc := 8) C dX10_demand_8 ?_
    refine z_lconst (pc := 9) (v := 1) C dX10_demand_9 (by decide) ?_
    refine z_aload_n (pc := 10) C dX10_demand_10 rfl ?_
    refine z_callV (pc := 11) C zk_X10_131 (w_X10_allDeeds _ _  hI) rfl rfl (by decide) rfl rfl (Nat.le_of_ble_eq_true rfl) dX10_demand_11 (fun r3 g3 q3 => ?_)
    obtain ⟨⟨v3, rfl, b3x⟩, hI3, hF3q⟩ := q3
    obtain rfl := zFr_nil hF3q
    simp only [Option.toList, List.cons_append, List.nil_append]
    refine z_i2l (pc := 14) C dX10_demand_14 ?_
    refine z_callSb (pc := 15) C zk_X10_69 (m_X10_in _ _ _ _ _) rfl rfl (Nat.le_of_ble_eq_true rfl) dX10_demand_15 (fun h15_3 => ?_) (fun h15_3 => ?_)
    · skip
      have b5x : zB a2 1 255 := zin64v h15_3 rfl b3x
      have b5xr := zin64r h15_3
      refine z_if_eq (pc := 18) 33 C dX10_demand_18 (by decide) (fun h => absurd h (by decide)) (fun _ => ?_)
      refine z_iload_n (pc := 21) C dX10_demand_21 rfl ?_
      refine z_i2l (pc := 22) C dX10_demand_22 ?_
      refine z_lconst (pc := 23) (v := 0) C dX10_demand_23 (by decide) ?_
      refine z_ldc2 (pc := 24) C zw_1137 dX10_demand_24 ?_
      refine z_callSb (pc := 27) C zk_X10_69 (m_X10_in _ _ _ _ _) rfl rfl (Nat.le_of_ble_eq_true rfl) dX10_demand_27 (fun h27_5 => ?_) (fun h27_5 => ?_)
      · skip
        have b7x : zB a3 0 99 := zin64 h27_5 rfl rfl
        refine z_if_ne (pc := 30) 35 C dX10_demand_30 (by decide) (fun _ => ?_) (fun h => absurd h (by decide))
        refine z_aload_n (pc := 35) C dX10_demand_35 rfl ?_
        refine z_getI (pc := 36) C zf_X10_126 rfl rfl (by decide) dX10_demand_36 ?_
        refine w_gp (fun v => v.toInt = (f 25 0 6).toInt) rfl (fun v8 e8 => ?_)
        have b8x : zB v8 0 8 := by have q9 : zB (f 25 0 6) 0 8 := ct25_0_6; constructor <;> omega
        refine z_bipush (pc := 39) (v := 8) C dX10_demand_39 (by decide) ?_
        refine z_icmp_ne (pc := 41) 47 C dX10_demand_41 (by decide) (fun h41_8 => ?_) (fun h41_8 => ?_)
        · skip
          have b10x : zB v8 0 7 := by have q1 := b8x; have q2 := (zB.of (x := 8) 8 (by decide)); simp only [z32lt, z32le, z32eq, Int32.reduceToInt, Int32.toInt_zero] at h41_8; constructor <;> omega
          have c11x : zB (f 25 0 6) 0 7 := by constructor <;> omega
          refine z_aload_n (pc := 47) C dX10_demand_47 rfl ?_
          refine z_getR (pc := 48) C zf_X10_19 rfl rfl (by decide) dX10_demand_48 ?_
          refine z_iconst (pc := 51) (v := 3) C dX10_demand_51 (by decide) ?_
          refine z_aload_n (pc := 52) C dX10_demand_52 rfl ?_
          refine z_getI (pc := 53) C zf_X10_126 rfl rfl (by decide) dX10_demand_53 ?_
          refine w_gp (fun v => v.toInt = (f 25 0 6).toInt) rfl (fun v12 e12 => ?_)
          have b12x : zB v12 0 7 := by have q9 : zB (f 25 0 6) 0 7 := c11x; constructor <;> omega
          refine z_imul (pc := 56) C dX10_demand_56 ?_
          refine w_gp (fun v => v.toInt = 3 * v12.toInt) (zmul_kb 3 (by decide) (by decide) b12x (by decide) (by decide)) (fun v13 e13 => ?_)
          have b13x : zB v13 0 21 := zmul_bb e13 (by decide) b12x
          refine z_iload_n (pc := 57) C dX10_demand_57 rfl ?_
          refine z_iast (pc := 58) C rfl (by decide) (zIx b13x (by decide) (by decide)) dX10_demand_58 ?_
          refine w_mem2 hI hF (by rw [zrg29 (r := 0) (by have hq : v13.toNatClampNeg = v13.toInt.toNat := rfl; have hq2 := b13x; omega)]; exact b2x) rfl (fun g14 hI14 hF14 hq14 hx14 => ?_)
          have ek14_25_0_6 : (g14 25 0 6).toInt = (f 25 0 6).toInt := by rw [hq14 25 0 6 (by omega)]
          have c14_25_0_6x : zB (g14 25 0 6) 0 7 := by have q9 := c11x; constructor <;> omega
          refine z_aload_n (pc := 59) C dX10_demand_59 rfl ?_
          refine z_getR (pc := 60) C zf_X10_19 rfl rfl (by decide) dX10_demand_60 ?_
          refine z_iconst (pc := 63) (v := 3) C dX10_demand_63 (by decide) ?_
          refine z_aload_n (pc := 64) C dX10_demand_64 rfl ?_
          refine z_getI (pc := 65) C zf_X10_126 rfl rfl (by decide) dX10_demand_65 ?_
          refine w_gp (fun v => v.toInt = (g14 25 0 6).toInt) rfl (fun v15 e15 => ?_)
          have b15x : zB v15 0 7 := by have q9 : zB (g14 25 0 6) 0 7 := c14_25_0_6x; constructor <;> omega
          refine z_imul (pc := 68) C dX10_demand_68 ?_
          refine w_gp (fun v => v.toInt = 3 * v15.toInt) (zmul_kb 3 (by decide) (by decide) b15x (by decide) (by decide)) (fun v16 e16 => ?_)
          have b16x : zB v16 0 21 := zmul_bb e16 (by decide) b15x
          refine z_iconst (pc := 69) (v := 1) C dX10_demand_69 (by decide) ?_
          refine z_iadd (pc := 70) C dX10_demand_70 ?_
          refine w_gp (fun v => v.toInt = v16.toInt + 1) (zadd_eb b16x (zB.of (x := 1) 1 (by decide)) (by decide) (by decide)) (fun v17 e17 => ?_)
          have b17x : zB v17 1 22 := by have q1 := b16x; have q2 := (zB.of (x := 1) 1 (by decide)); constructor <;> omega
          refine z_iload_n (pc := 71) C dX10_demand_71 rfl ?_
          refine z_iast (pc := 72) C rfl (by decide) (zIx b17x (by decide) (by decide)) dX10_demand_72 ?_
          refine w_mem2 hI14 hF14 (by rw [zrg29 (r := 1) (by have hq : v17.toNatClampNeg = v17.toInt.toNat := rfl; have hq2 := b17x; omega)]; exact (zB.wk (a' := 0) (b' := 255) b5x (by decide) (by decide))) rfl (fun g18 hI18 hF18 hq18 hx18 => ?_)
          have ek18_25_0_6 : (g18 25 0 6).toInt = (g14 25 0 6).toInt := by rw [hq18 25 0 6 (by omega)]
          have c18_25_0_6x : zB (g18 25 0 6) 0 7 := by have q9 := c14_25_0_6x; constructor <;> omega
          refine z_aload_n (pc := 73) C dX10_demand_73 rfl ?_
          refine z_getR (pc := 74) C zf_X10_19 rfl rfl (by decide) dX10_demand_74 ?_
          refine z_iconst (pc := 77) (v := 3) C dX10_demand_77 (by decide) ?_
          refine z_aload_n (pc := 78) C dX10_demand_78 rfl ?_
          refine z_getI (pc := 79) C zf_X10_126 rfl rfl (by decide) dX10_demand_79 ?_
          refine w_gp (fun v => v.toInt = (g18 25 0 6).toInt) rfl (fun v19 e19 => ?_)
          have b19x : zB v19 0 7 := by have q9 : zB (g18 25 0 6) 0 7 := c18_25_0_6x; constructor <;> omega
          refine z_imul (pc := 82) C dX10_demand_82 ?_
          refine w_gp (fun v => v.toInt = 3 * v19.toInt) (zmul_kb 3 (by decide) (by decide) b19x (by decide) (by decide)) (fun v20 e20 => ?_)
          have b20x : zB v20 0 21 := zmul_bb e20 (by decide) b19x
          refine z_iconst (pc := 83) (v := 2) C dX10_demand_83 (by decide) ?_
          refine z_iadd (pc := 84) C dX10_demand_84 ?_
          refine w_gp (fun v => v.toInt = v20.toInt + 2) (zadd_eb b20x (zB.of (x := 2) 2 (by decide)) (by decide) (by decide)) (fun v21 e21 => ?_)
          have b21x : zB v21 2 23 := by have q1 := b20x; have q2 := (zB.of (x := 2) 2 (by decide)); constructor <;> omega
          refine z_iload_n (pc := 85) C dX10_demand_85 rfl ?_
          refine z_iast (pc := 86) C rfl (by decide) (zIx b21x (by decide) (by decide)) dX10_demand_86 ?_
          refine w_mem2 hI18 hF18 (by rw [zrg29 (r := 2) (by have hq : v21.toNatClampNeg = v21.toInt.toNat := rfl; have hq2 := b21x; omega)]; exact b7x) rfl (fun g22 hI22 hF22 hq22 hx22 => ?_)
          have ek22_25_0_6 : (g22 25 0 6).toInt = (g18 25 0 6).toInt := by rw [hq22 25 0 6 (by omega)]
          have c22_25_0_6x : zB (g22 25 0 6) 0 7 := by have q9 := c18_25_0_6x; constructor <;> omega
          refine z_aload_n (pc := 87) C dX10_demand_87 rfl ?_
          refine z_dupr (pc := 88) C dX10_demand_88 ?_
          refine z_getI (pc := 89) C zf_X10_126 rfl rfl (by decide) dX10_demand_89 ?_
          refine w_gp (fun v => v.toInt = (g22 25 0 6).toInt) rfl (fun v23 e23 => ?_)
          have b23x : zB v23 0 7 := by have q9 : zB (g22 25 0 6) 0 7 := c22_25_0_6x; constructor <;> omega
          refine z_iconst (pc := 92) (v := 1) C dX10_demand_92 (by decide) ?_
          refine z_iadd (pc := 93) C dX10_demand_93 ?_
          refine w_gp (fun v => v.toInt = v23.toInt + 1) (zadd_eb b23x (zB.of (x := 1) 1 (by decide)) (by decide) (by decide)) (fun v24 e24 => ?_)
          have b24x : zB v24 1 8 := by have q1 := b23x; have q2 := (zB.of (x := 1) 1 (by decide)); constructor <;> omega
          refine z_putI (pc := 94) C zf_X10_126 zp_10_6 rfl rfl (by decide) dX10_demand_94 ?_
          refine w_mem2 hI22 hF22 (zB.wk (a' := 0) (b' := 8) b24x (by decide) (by decide)) rfl (fun g25 hI25 hF25 hq25 hx25 => ?_)
          have ec25 : (g25 25 0 6).toInt = v24.toInt := by rw [hx25]
          have c25x : zB (g25 25 0 6) 1 8 := by have q9 := b24x; constructor <;> omega
          refine z_aload_n (pc := 97) C dX10_demand_97 rfl ?_
          refine z_getI (pc := 98) C zf_X10_126 rfl rfl (by decide) dX10_demand_98 ?_
          refine w_gp (fun v => v.toInt = (g25 25 0 6).toInt) rfl (fun v26 e26 => ?_)
          have b26x : zB v26 1 8 := by have q9 : zB (g25 25 0 6) 1 8 := c25x; constructor <;> omega
          refine z_iconst (pc := 101) (v := 1) C dX10_demand_101 (by decide) ?_
          refine z_isub (pc := 102) C dX10_demand_102 ?_
          refine w_gp (fun v => v.toInt = v26.toInt - 1) (zsub_eb b26x (zB.of (x := 1) 1 (by decide)) (by decide) (by decide)) (fun v27 e27 => ?_)
          have b27x : zB v27 0 7 := by have q1 := b26x; have q2 := (zB.of (x := 1) 1 (by decide)); constructor <;> omega
          exact z_iret (pc := 103) C hr dX10_demand_103 ⟨⟨_, rfl, (zB.wk (a' := (-3)) (b' := 7) b27x (by decide) (by decide))⟩, hI25, hF25⟩
        · skip
          have b28x : zB v8 8 8 := by have q1 := b8x; have q2 := (zB.of (x := 8) 8 (by decide)); simp only [z32lt, z32le, z32eq, Int32.reduceToInt, Int32.toInt_zero] at h41_8; constructor <;> omega
          have c29x : zB (f 25 0 6) 8 8 := by constructor <;> omega
          refine z_bipush (pc := 44) (v := -3) C dX10_demand_44 (by decide) ?_
          exact z_iret (pc := 46) C hr dX10_demand_46 ⟨⟨_, rfl, (zB.wk (a' := (-3)) (b' := 7) (zB.of (x := (-3)) (-3) (by decide)) (by decide) (by decide))⟩, hI, hF⟩
      · skip
        refine z_if_ne (pc := 30) 35 C dX10_demand_30 (by decide) (fun h => absurd (by decide) h) (fun _ => ?_)
        exact J0  f hI hF ct25_0_6 (by omega)
    · skip
      refine z_if_eq (pc := 18) 33 C dX10_demand_18 (by decide) (fun _ => ?_) (fun h => absurd (by decide) h)
      exact J0  f hI hF ct25_0_6 (by omega)
  · skip
    refine z_if_eq (pc := 4) 33 C dX10_demand_4 (by decide) (fun _ => ?_) (fun h => absurd (by decide) h)
    exact J0  f hI hF ct25_0_6 (by omega)

set_option maxRecDepth 100000 in
set_option maxHeartbeats 4000000 in
theorem w_X10_ahead (d : Nat) (f : zM) (a1 : Int32) (b1 : zB a1 (-2147483648) 2147483647) (hI : zInv f) : ZM (d + 9) yX10_ahead cX10_ahead 5 (some .int) [zr 25 0, zi a1] f (fun r g => (∃ v, r = some (zi v) ∧ zB v (-4) 7) ∧ zInv g ∧ zFr [(31, none)] f g) := by
  refine ZM.intro (by decide +kernel) (Nat.le_of_ble_eq_true rfl) ?_
  intro X C hr hn
  have hF : zFr [(31, none)] f f := zFr.rf _ _
  have J : ∀ t : Nat, (zB a1 0 2147483647 → ∀ a12_2 : Int32, zB a12_2 0 8 → ∀ g : zM, zInv g → zFr [(31, none)] f g → (67 + 70 * (8 - a12_2.toInt) : Int) < t → Z X 12 [some (zr 25 0), some (zi a1), some (zi a12_2), none, none] [] g) ∧ (zB a1 0 2147483647 → ∀ a25_2 : Int32, zB a25_2 0 7 → ∀ a25_3 : Int32, zB a25_3 (-2147483648) 2147483647 → ∀ a25_4 : Int32, zB a25_4 0 8 → ∀ g : zM, zInv g → zFr [(31, none)] f g → (3 + 7 * (8 - a25_4.toInt) + 70 * (8 - a25_2.toInt) : Int) < t → Z X 25 [some (zr 25 0), some (zi a1), some (zi a25_2), some (zi a25_3), some (zi a25_4)] [] g) ∧ (zB a1 0 2147483647 → ∀ a64_2 : Int32, zB a64_2 0 7 → ∀ a64_3 : Int32, zB a64_3 (-2147483648) 2147483647 → ∀ a64_4 : Int32, zB a64_4 0 7 → ∀ a64_s0 : Int32, zB a64_s0 (-2147483648) 2147483647 → ∀ g : zM, zInv g → zFr [(31, none)] f g → (2 + 7 * (8 - a64_4.toInt) + 70 * (8 - a64_2.toInt) : Int) < t → Z X 64 [some (zr 25 0), some (zi a1), some (zi a64_2), some (zi a64_3), some (zi a64_4)] [zi a64_s0] g) ∧ (zB a1 0 2147483647 → ∀ a65_2 : Int32, zB a65_2 0 7 → ∀ a65_3 : Int32, zB a65_3 (-2147483648) 2147483647 → ∀ a65_4 : Int32, zB a65_4 0 7 → ∀ a65_s0 : Int32, zB a65_s0 (-2147483648) 2147483647 → ∀ a65_s1 : Int32, zB a65_s1 0 1 → ∀ g : zM, zInv g → zFr [(31, none)] f g → (1 + 7 * (8 - a65_4.toInt) + 70 * (8 - a65_2.toInt) : Int) < t → Z X 65 [some (zr 25 0), some (zi a1), some (zi a65_2), some (zi a65_3), some (zi a65_4)] [zi a65_s1, zi a65_s0] g) ∧ (zB a1 0 2147483647 → ∀ a88_2 : Int32, zB a88_2 0 7 → ∀ a88_3 : Int32, zB a88_3 (-2147483648) 2147483647 → ∀ a88_4 : Int32, zB a88_4 0 8 → ∀ g : zM, zInv g → zFr [(31, none)] f g → (0 + 70 * (8 - a88_2.toInt) : Int) < t → Z X 88 [some (zr 25 0), some (zi a1), some (zi a88_2), some (zi a88_3), some (zi a88_4)] [] g) := by
    intro t
    induction t with
    | zero =>
      refine ⟨?_, ?_, ?_, ?_, ?_⟩ <;> (intros; exfalso; omega)
    | succ t ih =>
      obtain ⟨ih0, ih1, ih2, ih3, ih4⟩ := ih
      refine ⟨?_, ?_, ?_, ?_, ?_⟩
      · skip
        intro b12_1 a12_2 b12_2 g12_ hI12_ hF12_ hM12_
        refine z_iload_n (pc := 12) C dX10_ahead_12 rfl ?_
        refine z_aload_n (pc := 13) C dX10_ahead_13 rfl ?_
        refine z_getI (pc := 14) C zf_X10_126 rfl rfl (by decide) dX10_ahead_14 ?_
        refine w_gb 0 8 (hI12_ 25 _ 6) (fun v1 b1x => ?_)
        refine z_icmp_ge (pc := 17) 94 C dX10_ahead_17 (by decide) (fun h17_1 => ?_) (fun h17_1 => ?_)
        · skip
          refine z_bipush (pc := 94) (v := -4) C dX10_ahead_94 (by decide) ?_
          exact z_iret (pc := 96) C hr dX10_ahead_96 ⟨⟨_, rfl, (zB.wk (a' := (-4)) (b' := 7) (zB.of (x := (-4)) (-4) (by decide)) (by decide) (by decide))⟩, hI12_, hF12_⟩
        · skip
          have b3x : zB a12_2 0 7 := by have q1 := b12_2; have q2 := b1x; simp only [z32lt, z32le, z32eq, Int32.reduceToInt, Int32.toInt_zero] at h17_1; constructor <;> omega
          have b4x : zB v1 1 8 := by have q1 := b12_2; have q2 := b1x; simp only [z32lt, z32le, z32eq, Int32.reduceToInt, Int32.toInt_zero] at h17_1; constructor <;> omega
          refine z_iconst (pc := 20) (v := 0) C dX10_ahead_20 (by decide) ?_
          refine z_istore_n (pc := 21) C dX10_ahead_21 (by rw [hn]; decide) rfl ?_
          refine z_iconst (pc := 22) (v := 0) C dX10_ahead_22 (by decide) ?_
          refine z_istore (pc := 23) C dX10_ahead_23 (by rw [hn]; decide) rfl ?_
          exact ih1 b12_1 a12_2 b3x 0 (zB.wk (a' := (-2147483648)) (b' := 2147483647) (zB.of (x := 0) 0 (by decide)) (by decide) (by decide)) 0 (zB.wk (a' := 0) (b' := 8) (zB.of (x := 0) 0 (by decide)) (by decide) (by decide)) g12_ hI12_ hF12_  (by have qc0 : (0 : Int32).toInt = 0 := (by decide); omega)
      · skip
        intro b25_1 a25_2 b25_2 a25_3 b25_3 a25_4 b25_4 g25_ hI25_ hF25_ hM25_
        refine z_iload (pc := 25) C dX10_ahead_25 rfl ?_
        refine z_aload_n (pc := 27) C dX10_ahead_27 rfl ?_
        refine z_getI (pc := 28) C zf_X10_126 rfl rfl (by decide) dX10_ahead_28 ?_
        refine w_gb 0 8 (hI25_ 25 _ 6) (fun v5 b5x => ?_)
        refine z_icmp_ge (pc := 31) 73 C dX10_ahead_31 (by decide) (fun h31_5 => ?_) (fun h31_5 => ?_)
        · skip
          refine z_aload_n (pc := 73) C dX10_ahead_73 rfl ?_
          refine z_iload_n (pc := 74) C dX10_ahead_74 rfl ?_
          refine z_callV (pc := 75) C zk_X10_182 (w_X10_standsFor _ _ a25_2 b25_2 hI25_) rfl rfl (by decide) rfl rfl (Nat.le_of_ble_eq_true rfl) dX10_ahead_75 (fun r7 g7 q7 => ?_)
          obtain ⟨⟨v7, rfl, b7x⟩, hI7, hF7q⟩ := q7
          obtain rfl := zFr_nil hF7q
          simp only [Option.toList, List.cons_append, List.nil_append]
          refine z_if_eq (pc := 78) 88 C dX10_ahead_78 (by decide) (fun h78_7 => ?_) (fun h78_7 => ?_)
          · skip
            have b9x : zB v7 0 0 := by have q1 := b7x; have q2 := (zB.of (x := 0) 0 (by decide)); simp only [z32lt, z32le, z32eq, Int32.reduceToInt, Int32.toInt_zero] at h78_7; constructor <;> omega
            exact ih4 b25_1 a25_2 b25_2 a25_3 b25_3 a25_4 b25_4 g25_ hI25_ hF25_  (by omega)
          · skip
            have b10x : zB v7 1 255 := by have q1 := b7x; have q2 := (zB.of (x := 0) 0 (by decide)); simp only [z32lt, z32le, z32eq, Int32.reduceToInt, Int32.toInt_zero] at h78_7; constructor <;> omega
            refine z_iload_n (pc := 81) C dX10_ahead_81 rfl ?_
            refine z_iload_n (pc := 82) C dX10_ahead_82 rfl ?_
            refine z_icmp_ne (pc := 83) 88 C dX10_ahead_83 (by decide) (fun h83_10 => ?_) (fun h83_10 => ?_)
            · skip
              exact ih4 b25_1 a25_2 b25_2 a25_3 b25_3 a25_4 b25_4 g25_ hI25_ hF25_  (by omega)
            · skip
              have b12x : zB a25_3 0 2147483647 := by have q1 := b25_3; have q2 := b25_1; simp only [z32lt, z32le, z32eq, Int32.reduceToInt, Int32.toInt_zero] at h83_10; constructor <;> omega
              refine z_iload_n (pc := 86) C dX10_ahead_86 rfl ?_
              exact z_iret (pc := 87) C hr dX10_ahead_87 ⟨⟨_, rfl, (zB.wk (a' := (-4)) (b' := 7) b25_2 (by decide) (by decide))⟩, hI25_, hF25_⟩
        · skip
          have b13x : zB a25_4 0 7 := by have q1 := b25_4; have q2 := b5x; simp only [z32lt, z32le, z32eq, Int32.reduceToInt, Int32.toInt_zero] at h31_5; constructor <;> omega
          have b14x : zB v5 1 8 := by have q1 := b25_4; have q2 := b5x; simp only [z32lt, z32le, z32eq, Int32.reduceToInt, Int32.toInt_zero] at h31_5; constructor <;> omega
          refine z_iload_n (pc := 34) C dX10_ahead_34 rfl ?_
          refine z_iload (pc := 35) C dX10_ahead_35 rfl ?_
          refine z_iload_n (pc := 37) C dX10_ahead_37 rfl ?_
          refine z_icmp_eq (pc := 38) 64 C dX10_ahead_38 (by decide) (fun h38_14 => ?_) (fun h38_14 => ?_)
          · skip
            exact ih2 b25_1 a25_2 b25_2 a25_3 b25_3 a25_4 b13x a25_3 b25_3 g25_ hI25_ hF25_  (by omega)
          · skip
            refine z_aload_n (pc := 41) C dX10_ahead_41 rfl ?_
            refine z_iload (pc := 42) C dX10_ahead_42 rfl ?_
            refine z_callV (pc := 44) C zk_X10_182 (w_X10_standsFor _ _ a25_4 b13x hI25_) rfl rfl (by decide) rfl rfl (Nat.le_of_ble_eq_true rfl) dX10_ahead_44 (fun r16 g16 q16 => ?_)
            obtain ⟨⟨v16, rfl, b16x⟩, hI16, hF16q⟩ := q16
            obtain rfl := zFr_nil hF16q
            simp only [Option.toList, List.cons_append, List.nil_append]
            refine z_if_eq (pc := 47) 64 C dX10_ahead_47 (by decide) (fun h47_16 => ?_) (fun h47_16 => ?_)
            · skip
              have b18x : zB v16 0 0 := by have q1 := b16x; have q2 := (zB.of (x := 0) 0 (by decide)); simp only [z32lt, z32le, z32eq, Int32.reduceToInt, Int32.toInt_zero] at h47_16; constructor <;> omega
              exact ih2 b25_1 a25_2 b25_2 a25_3 b25_3 a25_4 b13x a25_3 b25_3 g25_ hI25_ hF25_  (by omega)
            · skip
              have b19x : zB v16 1 255 := by have q1 := b16x; have q2 := (zB.of (x := 0) 0 (by decide)); simp only [z32lt, z32le, z32eq, Int32.reduceToInt, Int32.toInt_zero] at h47_16; constructor <;> omega
              refine z_aload_n (pc := 50) C dX10_ahead_50 rfl ?_
              refine z_iload (pc := 51) C dX10_ahead_51 rfl ?_
              refine z_iload_n (pc := 53) C dX10_ahead_53 rfl ?_
              refine z_callV (pc := 54) C zk_X10_191 (w_X10_isAhead _ _ a25_4 b13x a25_2 b25_2 hI25_) rfl rfl (by decide) rfl rfl (Nat.le_of_ble_eq_true rfl) dX10_ahead_54 (fun r20 g20 q20 => ?_)
              obtain ⟨⟨v20, rfl, b20x⟩, hI20, hF20q⟩ := q20
              obtain rfl := zFr_nil hF20q
              simp only [Option.toList, List.cons_append, List.nil_append]
              refine z_if_eq (pc := 57) 64 C dX10_ahead_57 (by decide) (fun h57_20 => ?_) (fun h57_20 => ?_)
              · skip
                have b22x : zB v20 0 0 := by have q1 := b20x; have q2 := (zB.of (x := 0) 0 (by decide)); simp only [z32lt, z32le, z32eq, Int32.reduceToInt, Int32.toInt_zero] at h57_20; constructor <;> omega
                exact ih2 b25_1 a25_2 b25_2 a25_3 b25_3 a25_4 b13x a25_3 b25_3 g25_ hI25_ hF25_  (by omega)
              · skip
                have b23x : zB v20 1 1 := by have q1 := b20x; have q2 := (zB.of (x := 0) 0 (by decide)); simp only [z32lt, z32le, z32eq, Int32.reduceToInt, Int32.toInt_zero] at h57_20; constructor <;> omega
                refine z_iconst (pc := 60) (v := 1) C dX10_ahead_60 (by decide) ?_
                refine z_goto (pc := 61) 65 C dX10_ahead_61 (by decide) ?_
                exact ih3 b25_1 a25_2 b25_2 a25_3 b25_3 a25_4 b13x a25_3 b25_3 1 (zB.wk (a' := 0) (b' := 1) (zB.of (x := 1) 1 (by decide)) (by decide) (by decide)) g25_ hI25_ hF25_  (by have qc0 : (1 : Int32).toInt = 1 := (by decide); omega)
      · skip
        intro b64_1 a64_2 b64_2 a64_3 b64_3 a64_4 b64_4 a64_s0 b64_s0 g64_ hI64_ hF64_ hM64_
        refine z_iconst (pc := 64) (v := 0) C dX10_ahead_64 (by decide) ?_
        exact ih3 b64_1 a64_2 b64_2 a64_3 b64_3 a64_4 b64_4 a64_s0 b64_s0 0 (zB.wk (a' := 0) (b' := 1) (zB.of (x := 0) 0 (by decide)) (by decide) (by decide)) g64_ hI64_ hF64_  (by have qc0 : (0 : Int32).toInt = 0 := (by decide); omega)
      · skip
        intro b65_1 a65_2 b65_2 a65_3 b65_3 a65_4 b65_4 a65_s0 b65_s0 a65_s1 b65_s1 g65_ hI65_ hF65_ hM65_
        refine z_iadd (pc := 65) C dX10_ahead_65 ?_
        refine w_gb (-2147483648) 2147483647 (zB_any _) (fun v24 b24x => ?_)
        refine z_istore_n (pc := 66) C dX10_ahead_66 (by rw [hn]; decide) rfl ?_
        refine z_iinc (pc := 67) (v := 1) C dX10_ahead_67 rfl (by decide) (by rw [hn]; decide) rfl ?_
        obtain ⟨v25, hv25, e25⟩ : ∃ v : Int32, v = a65_4 + 1 ∧ v.toInt = a65_4.toInt + 1 := ⟨_, rfl, zadd_eb b65_4 (zB.of (x := 1) 1 (by decide)) (by decide) (by decide)⟩
        rw [← hv25]
        have b25x : zB v25 1 8 := by have q9 := b65_4; constructor <;> omega
        refine z_goto (pc := 70) 25 C dX10_ahead_70 (by decide) ?_
        exact ih1 b65_1 a65_2 b65_2 v24 b24x v25 (zB.wk (a' := 0) (b' := 8) b25x (by decide) (by decide)) g65_ hI65_ hF65_  (by omega)
      · skip
        intro b88_1 a88_2 b88_2 a88_3 b88_3 a88_4 b88_4 g88_ hI88_ hF88_ hM88_
        refine z_iinc (pc := 88) (v := 1) C dX10_ahead_88 rfl (by decide) (by rw [hn]; decide) rfl ?_
        obtain ⟨v26, hv26, e26⟩ : ∃ v : Int32, v = a88_2 + 1 ∧ v.toInt = a88_2.toInt + 1 := ⟨_, rfl, zadd_eb b88_2 (zB.of (x := 1) 1 (by decide)) (by decide) (by decide)⟩
        rw [← hv26]
        have b26x : zB v26 1 8 := by have q9 := b88_2; constructor <;> omega
        refine z_goto (pc := 91) 12 C dX10_ahead_91 (by decide) ?_
        refine w_mask [3, 4] ?_
        exact ih0 b88_1 v26 (zB.wk (a' := 0) (b' := 8) b26x (by decide) (by decide)) g88_ hI88_ hF88_  (by omega)
  obtain ⟨J0, J1, J2, J3, J4⟩ := J 709
  show Z X 0 [some (zr 25 0), some (zi a1), none, none, none] [] f
  refine z_iload_n (pc := 0) C dX10_ahead_0 rfl ?_
  refine z_if_ge (pc := 1) 6 C dX10_ahead_1 (by decide) (fun h1_26 => ?_) (fun h1_26 => ?_)
  · skip
    have b28x : zB a1 0 2147483647 := by have q1 := b1; have q2 := (zB.of (x := 0) 0 (by decide)); simp only [z32lt, z32le, z32eq, Int32.reduceToInt, Int32.toInt_zero] at h1_26; constructor <;> omega
    refine z_aload_n (pc := 6) C dX10_ahead_6 rfl ?_
    refine z_callV (pc := 7) C zk_X10_151 (w_X10_findOpen _ _  hI) rfl rfl (by decide) rfl rfl (Nat.le_of_ble_eq_true rfl) dX10_ahead_7 (fun r29 g29 q29 => ?_)
    obtain ⟨rfl, hI29, hF29q⟩ := q29
    have hF29 := zFr.tr hF hF29q (by decide)
    simp only [Option.toList, List.cons_append, List.nil_append]
    refine z_iconst (pc := 10) (v := 0) C dX10_ahead_10 (by decide) ?_
    refine z_istore_n (pc := 11) C dX10_ahead_11 (by rw [hn]; decide) rfl ?_
    exact J0 b28x 0 (zB.wk (a' := 0) (b' := 8) (zB.of (x := 0) 0 (by decide)) (by decide) (by decide)) g29 hI29 hF29  (by have qc0 : (0 : Int32).toInt = 0 := (by decide); omega)
  · skip
    have b30x : zB a1 (-2147483648) (-1) := by have q1 := b1; have q2 := (zB.of (x := 0) 0 (by decide)); simp only [z32lt, z32le, z32eq, Int32.reduceToInt, Int32.toInt_zero] at h1_26; constructor <;> omega
    refine z_iconst (pc := 4) (v := -1) C dX10_ahead_4 (by decide) ?_
    exact z_iret (pc := 5) C hr dX10_ahead_5 ⟨⟨_, rfl, (zB.wk (a' := (-4)) (b' := 7) (zB.of (x := (-1)) (-1) (by decide)) (by decide) (by decide))⟩, hI, hF⟩

set_option maxRecDepth 100000 in
set_option maxHeartbeats 4000000 in
theorem w_X10_promises (d : Nat) (f : zM) (a1 : Int32) (b1 : zB a1 (-2147483648) 2147483647) (a2 : Int32) (b2 : zB a2 (-2147483648) 2147483647) (hI : zInv f) : ZM (d + 6) yX10_promises cX10_promises 6 (some .int) [zr 25 0, zi a1, zi a2] f (fun r g => (∃ v, r = some (zi v) ∧ zB v (-4) 7) ∧ zInv g ∧ zFr [(31, none)] f g) := by
  refine ZM.intro (by decide +kernel) (Nat.le_of_ble_eq_true rfl) ?_
  intro X C hr hn
  have hF : zFr [(31, none)] f f := zFr.rf _ _
  have J : ∀ t : Nat, (∀ g : zM, zInv g → zFr [(31, none)] f g → (109 : Int) < t → Z X 15 [some (zr 25 0), some (zi a1), some (zi a2), none, none, none] [] g) ∧ (zB a1 0 5 → zB a2 0 7 → ∀ a27_3 : Int32, zB a27_3 (-4) 7 → ∀ a27_4 : Int32, zB a27_4 0 12 → ∀ g : zM, zInv g → zFr [(31, none)] f g → (4 + 8 * (12 - a27_4.toInt) : Int) < t → Z X 27 [some (zr 25 0), some (zi a1), some (zi a2), some (zi a27_3), some (zi a27_4), none] [] g) ∧ (zB a1 0 5 → zB a2 0 7 → ∀ a115_3 : Int32, zB a115_3 (-4) 7 → ∀ a115_4 : Int32, zB a115_4 0 11 → ∀ a115_5 : Int32, zB a115_5 0 7 → ∀ g : zM, zInv g → zFr [(31, none)] f g → (3 + 8 * (12 - a115_4.toInt) : Int) < t → Z X 115 [some (zr 25 0), some (zi a1), some (zi a2), some (zi a115_3), some (zi a115_4), some (zi a115_5)] [] g) ∧ (zB a1 0 5 → zB a2 0 7 → ∀ a120_3 : Int32, zB a120_3 0 7 → ∀ a120_4 : Int32, zB a120_4 0 11 → ∀ a120_5 : Int32, zB a120_5 0 7 → ∀ g : zM, zInv g → zFr [(31, none)] f g → (2 + 8 * (12 - a120_4.toInt) : Int) < t → Z X 120 [some (zr 25 0), some (zi a1), some (zi a2), some (zi a120_3), some (zi a120_4), some (zi a120_5)] [] g) ∧ (zB a1 0 5 → zB a2 0 7 → ∀ a121_3 : Int32, zB a121_3 (-4) 7 → ∀ a121_4 : Int32, zB a121_4 0 11 → ∀ a121_5 : Int32, zB a121_5 0 7 → ∀ a121_s0 : Int32, zB a121_s0 0 7 → ∀ g : zM, zInv g → zFr [(31, none)] f g → (1 + 8 * (12 - a121_4.toInt) : Int) < t → Z X 121 [some (zr 25 0), some (zi a1), some (zi a2), some (zi a121_3), some (zi a121_4), some (zi a121_5)] [zi a121_s0] g) ∧ (zB a1 0 5 → zB a2 0 7 → ∀ a122_3 : Int32, zB a122_3 (-4) 7 → ∀ a122_4 : Int32, zB a122_4 0 11 → ∀ a122_5 : Int32, zB a122_5 0 7 → ∀ g : zM, zInv g → zFr [(31, none)] f g → (0 + 8 * (12 - a122_4.toInt) : Int) < t → Z X 122 [some (zr 25 0), some (zi a1), some (zi a2), some (zi a122_3), some (zi a122_4), some (zi a122_5)] [] g) := by
    intro t
    induction t with
    | zero =>
      refine ⟨?_, ?_, ?_, ?_, ?_, ?_⟩ <;> (intros; exfalso; omega)
    | succ t ih =>
      obtain ⟨ih0, ih1, ih2, ih3, ih4, ih5⟩ := ih
      refine ⟨?_, ?_, ?_, ?_, ?_, ?_⟩
      · skip
        intro g15_ hI15_ hF15_ hM15_
        refine z_iconst (pc := 15) (v := -1) C dX10_promises_15 (by decide) ?_
        exact z_iret (pc := 16) C hr dX10_promises_16 ⟨⟨_, rfl, (zB.wk (a' := (-4)) (b' := 7) (zB.of (x := (-1)) (-1) (by decide)) (by decide) (by decide))⟩, hI15_, hF15_⟩
      · skip
        intro b27_1 b27_2 a27_3 b27_3 a27_4 b27_4 g27_ hI27_ hF27_ hM27_
        refine z_iload (pc := 27) C dX10_promises_27 rfl ?_
        refine z_aload_n (pc := 29) C dX10_promises_29 rfl ?_
        refine z_getI (pc := 30) C zf_X10_77 rfl rfl (by decide) dX10_promises_30 ?_
        refine w_gb 0 12 (hI27_ 25 _ 4) (fun v1 b1x => ?_)
        refine z_icmp_ge (pc := 33) 128 C dX10_promises_33 (by decide) (fun h33_1 => ?_) (fun h33_1 => ?_)
        · skip
          refine z_iload_n (pc := 128) C dX10_promises_128 rfl ?_
          exact z_iret (pc := 129) C hr dX10_promises_129 ⟨⟨_, rfl, b27_3⟩, hI27_, hF27_⟩
        · skip
          have b3x : zB a27_4 0 11 := by have q1 := b27_4; have q2 := b1x; simp only [z32lt, z32le, z32eq, Int32.reduceToInt, Int32.toInt_zero] at h33_1; constructor <;> omega
          have b4x : zB v1 1 12 := by have q1 := b27_4; have q2 := b1x; simp only [z32lt, z32le, z32eq, Int32.reduceToInt, Int32.toInt_zero] at h33_1; constructor <;> omega
          refine z_aload_n (pc := 36) C dX10_promises_36 rfl ?_
          refine z_getR (pc := 37) C zf_X10_16 rfl rfl (by decide) dX10_promises_37 ?_
          refine z_bipush (pc := 40) (v := 8) C dX10_promises_40 (by decide) ?_
          refine z_iload (pc := 42) C dX10_promises_42 rfl ?_
          refine z_imul (pc := 44) C dX10_promises_44 ?_
          refine w_gp (fun v => v.toInt = 8 * a27_4.toInt) (zmul_kb 8 (by decide) (by decide) b3x (by decide) (by decide)) (fun v5 e5 => ?_)
          have b5x : zB v5 0 88 := zmul_bb e5 (by decide) b3x
          refine z_bipush (pc := 45) (v := 7) C dX10_promises_45 (by decide) ?_
          refine z_iadd (pc := 47) C dX10_promises_47 ?_
          refine w_gp (fun v => v.toInt = v5.toInt + 7) (zadd_eb b5x (zB.of (x := 7) 7 (by decide)) (by decide) (by decide)) (fun v6 e6 => ?_)
          have b6x : zB v6 7 95 := by have q1 := b5x; have q2 := (zB.of (x := 7) 7 (by decide)); constructor <;> omega
          refine z_iald (pc := 48) C rfl (by decide) (zIx b6x (by decide) (by decide)) dX10_promises_48 ?_
          refine w_gb 0 7 (by have hq9 := hI27_ 28 0 v6.toNatClampNeg; rw [zrg28 (r := 7) (by have hq : v6.toNatClampNeg = v6.toInt.toNat := rfl; have hq2 := b6x; omega)] at hq9; exact hq9) (fun v7 b7x => ?_)
          refine z_istore (pc := 49) C dX10_promises_49 (by rw [hn]; decide) rfl ?_
          refine z_aload_n (pc := 51) C dX10_promises_51 rfl ?_
          refine z_getR (pc := 52) C zf_X10_16 rfl rfl (by decide) dX10_promises_52 ?_
          refine z_bipush (pc := 55) (v := 8) C dX10_promises_55 (by decide) ?_
          refine z_iload (pc := 57) C dX10_promises_57 rfl ?_
          refine z_imul (pc := 59) C dX10_promises_59 ?_
          refine w_gp (fun v => v.toInt = 8 * a27_4.toInt) (zmul_kb 8 (by decide) (by decide) b3x (by decide) (by decide)) (fun v8 e8 => ?_)
          have b8x : zB v8 0 88 := zmul_bb e8 (by decide) b3x
          refine z_iconst (pc := 60) (v := 2) C dX10_promises_60 (by decide) ?_
          refine z_iadd (pc := 61) C dX10_promises_61 ?_
          refine w_gp (fun v => v.toInt = v8.toInt + 2) (zadd_eb b8x (zB.of (x := 2) 2 (by decide)) (by decide) (by decide)) (fun v9 e9 => ?_)
          have b9x : zB v9 2 90 := by have q1 := b8x; have q2 := (zB.of (x := 2) 2 (by decide)); constructor <;> omega
          refine z_iald (pc := 62) C rfl (by decide) (zIx b9x (by decide) (by decide)) dX10_promises_62 ?_
          refine w_gb 0 5 (by have hq9 := hI27_ 28 0 v9.toNatClampNeg; rw [zrg28 (r := 2) (by have hq : v9.toNatClampNeg = v9.toInt.toNat := rfl; have hq2 := b9x; omega)] at hq9; exact hq9) (fun v10 b10x => ?_)
          refine z_iload_n (pc := 63) C dX10_promises_63 rfl ?_
          refine z_icmp_ne (pc := 64) 122 C dX10_promises_64 (by decide) (fun h64_10 => ?_) (fun h64_10 => ?_)
          · skip
            exact ih5 b27_1 b27_2 a27_3 b27_3 a27_4 b3x v7 b7x g27_ hI27_ hF27_  (by omega)
          · skip
            refine z_aload_n (pc := 67) C dX10_promises_67 rfl ?_
            refine z_iload (pc := 68) C dX10_promises_68 rfl ?_
            refine z_callV (pc := 70) C zk_X10_154 (w_X10_goesNow _ _ a27_4 b3x hI27_) rfl rfl (by decide) rfl rfl (Nat.le_of_ble_eq_true rfl) dX10_promises_70 (fun r12 g12 q12 => ?_)
            obtain ⟨⟨v12, rfl, b12x⟩, hI12, hF12q⟩ := q12
            obtain rfl := zFr_nil hF12q
            simp only [Option.toList, List.cons_append, List.nil_append]
            refine z_iload_n (pc := 73) C dX10_promises_73 rfl ?_
            refine z_ishr (pc := 74) C dX10_promises_74 ?_
            refine w_gb (-2147483648) 2147483647 (zB_any _) (fun v13 b13x => ?_)
            refine z_iconst (pc := 75) (v := 1) C dX10_promises_75 (by decide) ?_
            refine z_iand (pc := 76) C dX10_promises_76 ?_
            refine w_gb 0 1 (zand_b b13x (zB.of (x := 1) 1 (by decide)) (by decide)) (fun v14 b14x => ?_)
            refine z_iconst (pc := 77) (v := 1) C dX10_promises_77 (by decide) ?_
            refine z_icmp_ne (pc := 78) 122 C dX10_promises_78 (by decide) (fun h78_14 => ?_) (fun h78_14 => ?_)
            · skip
              have b16x : zB v14 0 0 := by have q1 := b14x; have q2 := (zB.of (x := 1) 1 (by decide)); simp only [z32lt, z32le, z32eq, Int32.reduceToInt, Int32.toInt_zero] at h78_14; constructor <;> omega
              exact ih5 b27_1 b27_2 a27_3 b27_3 a27_4 b3x v7 b7x g27_ hI27_ hF27_  (by omega)
            · skip
              have b17x : zB v14 1 1 := by have q1 := b14x; have q2 := (zB.of (x := 1) 1 (by decide)); simp only [z32lt, z32le, z32eq, Int32.reduceToInt, Int32.toInt_zero] at h78_14; constructor <;> omega
              refine z_iload_n (pc := 81) C dX10_promises_81 rfl ?_
              refine z_if_lt (pc := 82) 115 C dX10_promises_82 (by decide) (fun h82_17 => ?_) (fun h82_17 => ?_)
              · skip
                have b19x : zB a27_3 (-4) (-1) := by have q1 := b27_3; have q2 := (zB.of (x := 0) 0 (by decide)); simp only [z32lt, z32le, z32eq, Int32.reduceToInt, Int32.toInt_zero] at h82_17; constructor <;> omega
                exact ih2 b27_1 b27_2 a27_3 (zB.wk (a' := (-4)) (b' := 7) b19x (by decide) (by decide)) a27_4 b3x v7 b7x g27_ hI27_ hF27_  (by omega)
              · skip
                have b20x : zB a27_3 0 7 := by have q1 := b27_3; have q2 := (zB.of (x := 0) 0 (by decide)); simp only [z32lt, z32le, z32eq, Int32.reduceToInt, Int32.toInt_zero] at h82_17; constructor <;> omega
                refine z_iload (pc := 85) C dX10_promises_85 rfl ?_
                refine z_callS (pc := 87) C zk_X10_194 (w_X10_ones _ _ v7 (zB.wk (a' := 0) (b' := 63) b7x (by decide) (by decide)) hI27_) rfl rfl (Nat.le_of_ble_eq_true rfl) dX10_promises_87 (fun r21 g21 q21 => ?_)
                obtain ⟨⟨v21, rfl, b21x⟩, hI21, hF21q⟩ := q21
                obtain rfl := zFr_nil hF21q
                simp only [Option.toList, List.cons_append, List.nil_append]
                refine z_iload_n (pc := 90) C dX10_promises_90 rfl ?_
                refine z_callS (pc := 91) C zk_X10_194 (w_X10_ones _ _ a27_3 (zB.wk (a' := 0) (b' := 63) b20x (by decide) (by decide)) hI27_) rfl rfl (Nat.le_of_ble_eq_true rfl) dX10_promises_91 (fun r22 g22 q22 => ?_)
                obtain ⟨⟨v22, rfl, b22x⟩, hI22, hF22q⟩ := q22
                obtain rfl := zFr_nil hF22q
                simp only [Option.toList, List.cons_append, List.nil_append]
                refine z_icmp_lt (pc := 94) 115 C dX10_promises_94 (by decide) (fun h94_22 => ?_) (fun h94_22 => ?_)
                · skip
                  have b24x : zB v21 0 62 := by have q1 := b21x; have q2 := b22x; simp only [z32lt, z32le, z32eq, Int32.reduceToInt, Int32.toInt_zero] at h94_22; constructor <;> omega
                  have b25x : zB v22 1 63 := by have q1 := b21x; have q2 := b22x; simp only [z32lt, z32le, z32eq, Int32.reduceToInt, Int32.toInt_zero] at h94_22; constructor <;> omega
                  exact ih2 b27_1 b27_2 a27_3 (zB.wk (a' := (-4)) (b' := 7) b20x (by decide) (by decide)) a27_4 b3x v7 b7x g27_ hI27_ hF27_  (by omega)
                · skip
                  refine z_iload (pc := 97) C dX10_promises_97 rfl ?_
                  refine z_callS (pc := 99) C zk_X10_194 (w_X10_ones _ _ v7 (zB.wk (a' := 0) (b' := 63) b7x (by decide) (by decide)) hI27_) rfl rfl (Nat.le_of_ble_eq_true rfl) dX10_promises_99 (fun r26 g26 q26 => ?_)
                  obtain ⟨⟨v26, rfl, b26x⟩, hI26, hF26q⟩ := q26
                  obtain rfl := zFr_nil hF26q
                  simp only [Option.toList, List.cons_append, List.nil_append]
                  refine z_iload_n (pc := 102) C dX10_promises_102 rfl ?_
                  refine z_callS (pc := 103) C zk_X10_194 (w_X10_ones _ _ a27_3 (zB.wk (a' := 0) (b' := 63) b20x (by decide) (by decide)) hI27_) rfl rfl (Nat.le_of_ble_eq_true rfl) dX10_promises_103 (fun r27 g27 q27 => ?_)
                  obtain ⟨⟨v27, rfl, b27x⟩, hI27, hF27q⟩ := q27
                  obtain rfl := zFr_nil hF27q
                  simp only [Option.toList, List.cons_append, List.nil_append]
                  refine z_icmp_ne (pc := 106) 120 C dX10_promises_106 (by decide) (fun h106_27 => ?_) (fun h106_27 => ?_)
                  · skip
                    exact ih3 b27_1 b27_2 a27_3 b20x a27_4 b3x v7 b7x g27_ hI27_ hF27_  (by omega)
                  · skip
                    refine z_iload (pc := 109) C dX10_promises_109 rfl ?_
                    refine z_iload_n (pc := 111) C dX10_promises_111 rfl ?_
                    refine z_icmp_ge (pc := 112) 120 C dX10_promises_112 (by decide) (fun h112_28 => ?_) (fun h112_28 => ?_)
                    · skip
                      exact ih3 b27_1 b27_2 a27_3 b20x a27_4 b3x v7 b7x g27_ hI27_ hF27_  (by omega)
                    · skip
                      have b30x : zB v7 0 6 := by have q1 := b7x; have q2 := b20x; simp only [z32lt, z32le, z32eq, Int32.reduceToInt, Int32.toInt_zero] at h112_28; constructor <;> omega
                      have b31x : zB a27_3 1 7 := by have q1 := b7x; have q2 := b20x; simp only [z32lt, z32le, z32eq, Int32.reduceToInt, Int32.toInt_zero] at h112_28; constructor <;> omega
                      exact ih2 b27_1 b27_2 a27_3 (zB.wk (a' := (-4)) (b' := 7) b31x (by decide) (by decide)) a27_4 b3x v7 (zB.wk (a' := 0) (b' := 7) b30x (by decide) (by decide)) g27_ hI27_ hF27_  (by omega)
      · skip
        intro b115_1 b115_2 a115_3 b115_3 a115_4 b115_4 a115_5 b115_5 g115_ hI115_ hF115_ hM115_
        refine z_iload (pc := 115) C dX10_promises_115 rfl ?_
        refine z_goto (pc := 117) 121 C dX10_promises_117 (by decide) ?_
        exact ih4 b115_1 b115_2 a115_3 b115_3 a115_4 b115_4 a115_5 b115_5 a115_5 b115_5 g115_ hI115_ hF115_  (by omega)
      · skip
        intro b120_1 b120_2 a120_3 b120_3 a120_4 b120_4 a120_5 b120_5 g120_ hI120_ hF120_ hM120_
        refine z_iload_n (pc := 120) C dX10_promises_120 rfl ?_
        exact ih4 b120_1 b120_2 a120_3 (zB.wk (a' := (-4)) (b' := 7) b120_3 (by decide) (by decide)) a120_4 b120_4 a120_5 b120_5 a120_3 b120_3 g120_ hI120_ hF120_  (by omega)
      · skip
        intro b121_1 b121_2 a121_3 b121_3 a121_4 b121_4 a121_5 b121_5 a121_s0 b121_s0 g121_ hI121_ hF121_ hM121_
        refine z_istore_n (pc := 121) C dX10_promises_121 (by rw [hn]; decide) rfl ?_
        exact ih5 b121_1 b121_2 a121_s0 (zB.wk (a' := (-4)) (b' := 7) b121_s0 (by decide) (by decide)) a121_4 b121_4 a121_5 b121_5 g121_ hI121_ hF121_  (by omega)
      · skip
        intro b122_1 b122_2 a122_3 b122_3 a122_4 b122_4 a122_5 b122_5 g122_ hI122_ hF122_ hM122_
        refine z_iinc (pc := 122) (v := 1) C dX10_promises_122 rfl (by decide) (by rw [hn]; decide) rfl ?_
        obtain ⟨v32, hv32, e32⟩ : ∃ v : Int32, v = a122_4 + 1 ∧ v.toInt = a122_4.toInt + 1 := ⟨_, rfl, zadd_eb b122_4 (zB.of (x := 1) 1 (by decide)) (by decide) (by decide)⟩
        rw [← hv32]
        have b32x : zB v32 1 12 := by have q9 := b122_4; constructor <;> omega
        refine z_goto (pc := 125) 27 C dX10_promises_125 (by decide) ?_
        refine w_mask [5] ?_
        exact ih1 b122_1 b122_2 a122_3 b122_3 v32 (zB.wk (a' := 0) (b' := 12) b32x (by decide) (by decide)) g122_ hI122_ hF122_  (by omega)
  obtain ⟨J0, J1, J2, J3, J4, J5⟩ := J 121
  show Z X 0 [some (zr 25 0), some (zi a1), some (zi a2), none, none, none] [] f
  refine z_iload_n (pc := 0) C dX10_promises_0 rfl ?_
  refine z_callSb (pc := 1) C zk_X10_83 (m_X10_isLand _ _ _) rfl rfl (Nat.le_of_ble_eq_true rfl) dX10_promises_1 (fun h1_32 => ?_) (fun h1_32 => ?_)
  · skip
    have b34x : zB a1 0 5 := h1_32
    refine z_if_eq (pc := 4) 15 C dX10_promises_4 (by decide) (fun h => absurd h (by decide)) (fun _ => ?_)
    refine z_aload_n (pc := 7) C dX10_promises_7 rfl ?_
    refine z_iload_n (pc := 8) C dX10_promises_8 rfl ?_
    refine z_callVb (pc := 9) C zk_X10_120 (m_X10_isDeed _ _ _ hI) rfl rfl (by decide) rfl rfl (Nat.le_of_ble_eq_true rfl) dX10_promises_9 (fun h9_34 => ?_) (fun h9_34 => ?_)
    · skip
      have b36x : zB a2 0 7 := (zltc h9_34 (hI 25 0 2).2)
      refine z_if_ne (pc := 12) 17 C dX10_promises_12 (by decide) (fun _ => ?_) (fun h => absurd h (by decide))
      refine z_aload_n (pc := 17) C dX10_promises_17 rfl ?_
      refine z_callV (pc := 18) C zk_X10_151 (w_X10_findOpen _ _  hI) rfl rfl (by decide) rfl rfl (Nat.le_of_ble_eq_true rfl) dX10_promises_18 (fun r37 g37 q37 => ?_)
      obtain ⟨rfl, hI37, hF37q⟩ := q37
      have hF37 := zFr.tr hF hF37q (by decide)
      simp only [Option.toList, List.cons_append, List.nil_append]
      refine z_bipush (pc := 21) (v := -4) C dX10_promises_21 (by decide) ?_
      refine z_istore_n (pc := 23) C dX10_promises_23 (by rw [hn]; decide) rfl ?_
      refine z_iconst (pc := 24) (v := 0) C dX10_promises_24 (by decide) ?_
      refine z_istore (pc := 25) C dX10_promises_25 (by rw [hn]; decide) rfl ?_
      exact J1 b34x b36x (-4) (zB.wk (a' := (-4)) (b' := 7) (zB.of (x := (-4)) (-4) (by decide)) (by decide) (by decide)) 0 (zB.wk (a' := 0) (b' := 12) (zB.of (x := 0) 0 (by decide)) (by decide) (by decide)) g37 hI37 hF37  (by have qc0 : ((-4) : Int32).toInt = (-4) := (by decide); have qc1 : (0 : Int32).toInt = 0 := (by decide); omega)
    · skip
      refine z_if_ne (pc := 12) 17 C dX10_promises_12 (by decide) (fun h => absurd (by decide) h) (fun _ => ?_)
      exact J0  f hI hF  (by omega)
  · skip
    refine z_if_eq (pc := 4) 15 C dX10_promises_4 (by decide) (fun _ => ?_) (fun h => absurd (by decide) h)
    exact J0  f hI hF  (by omega)

set_option maxRecDepth 100000 in
set_option maxHeartbeats 4000000 in
theorem w_X10_mended (d : Nat) (f : zM) (a1 : Int32) (b1 : zB a1 (-2147483648) 2147483647) (a2 : Int32) (b2 : zB a2 (-2147483648) 2147483647) (hI : zInv f) : ZM (d + 5) yX10_mended cX10_mended 9 (some .int) [zr 25 0, zi a1, zi a2] f (fun r g => (∃ v, r = some (zi v) ∧ zB v (-4) 9998) ∧ zInv g ∧ zFr [(35, none)] f g) := by
  refine ZM.intro (by decide +kernel) (Nat.le_of_ble_eq_true rfl) ?_
  intro X C hr hn
  have hF : zFr [(35, none)] f f := zFr.rf _ _
  have J : ∀ t : Nat, (∀ g : zM, zInv g → zFr [(35, none)] f g → (9143005 : Int) < t → Z X 15 [some (zr 25 0), some (zi a1), some (zi a2), none, none, none, none, none, none] [] g) ∧ (zB a1 0 5 → zB a2 0 7 → ∀ a35_3 : Int32, zB a35_3 0 12 → ∀ g : zM, zInv g → zFr [(35, none)] f g → (653068 + 653072 * (12 - a35_3.toInt) : Int) < t → Z X 35 [some (zr 25 0), some (zi a1), some (zi a2), some (zi a35_3), none, none, none, none, none] [] g) ∧ (zB a1 0 5 → zB a2 0 7 → ∀ a90_3 : Int32, zB a90_3 0 11 → ∀ a90_s1 : Int32, zB a90_s1 0 11 → ∀ a90_s2 : Int32, zB a90_s2 0 9999 → ∀ g : zM, zInv g → zFr [(35, none)] f g → (653067 + 653072 * (12 - a90_3.toInt) : Int) < t → Z X 90 [some (zr 25 0), some (zi a1), some (zi a2), some (zi a90_3), none, none, none, none, none] [zi a90_s2, zi a90_s1, zr 35 0] g) ∧ (zB a1 0 5 → zB a2 0 7 → ∀ a99_3 : Int32, zB a99_3 0 12 → ∀ g : zM, zInv g → zFr [(35, none)] f g → (46642 + 46648 * (12 - a99_3.toInt) : Int) < t → Z X 99 [some (zr 25 0), some (zi a1), some (zi a2), some (zi a99_3), none, none, none, none, none] [] g) ∧ (zB a1 0 5 → zB a2 0 7 → ∀ a110_3 : Int32, zB a110_3 0 11 → ∀ a110_4 : Int32, zB a110_4 0 12 → ∀ g : zM, zInv g → zFr [(35, none)] f g → (3325 + 3332 * (12 - a110_4.toInt) + 46648 * (12 - a110_3.toInt) : Int) < t → Z X 110 [some (zr 25 0), some (zi a1), some (zi a2), some (zi a110_3), some (zi a110_4), none, none, none, none] [] g) ∧ (zB a1 0 5 → zB a2 0 7 → ∀ a137_3 : Int32, zB a137_3 0 11 → ∀ a137_4 : Int32, zB a137_4 0 11 → ∀ a137_5 : Int32, zB a137_5 0 7 → ∀ a137_6 : Int32, zB a137_6 0 12 → ∀ g : zM, zInv g → zFr [(35, none)] f g → (230 + 238 * (12 - a137_6.toInt) + 3332 * (12 - a137_4.toInt) + 46648 * (12 - a137_3.toInt) : Int) < t → Z X 137 [some (zr 25 0), some (zi a1), some (zi a2), some (zi a137_3), some (zi a137_4), some (zi a137_5), some (zi a137_6), none, none] [] g) ∧ (zB a1 0 5 → zB a2 0 7 → ∀ a203_3 : Int32, zB a203_3 0 11 → ∀ a203_4 : Int32, zB a203_4 0 11 → ∀ a203_5 : Int32, zB a203_5 0 7 → ∀ a203_6 : Int32, zB a203_6 0 11 → ∀ a203_s1 : Int32, zB a203_s1 0 11 → ∀ a203_s2 : Int32, zB a203_s2 0 7 → ∀ a203_s3 : Int32, zB a203_s3 0 5 → ∀ a203_s4 : Int32, zB a203_s4 0 1 → ∀ a203_s5 : Int32, zB a203_s5 (-4) 5 → ∀ g : zM, zInv g → zFr [(35, none)] f g → (229 + 238 * (12 - a203_6.toInt) + 3332 * (12 - a203_4.toInt) + 46648 * (12 - a203_3.toInt) : Int) < t → Z X 203 [some (zr 25 0), some (zi a1), some (zi a2), some (zi a203_3), some (zi a203_4), some (zi a203_5), some (zi a203_6), none, none] [zi a203_s5, zi a203_s4, zi a203_s3, zi a203_s2, zi a203_s1, zr 25 0] g) ∧ (zB a1 0 5 → zB a2 0 7 → ∀ a256_3 : Int32, zB a256_3 0 11 → ∀ a256_4 : Int32, zB a256_4 0 11 → ∀ a256_5 : Int32, zB a256_5 0 7 → ∀ a256_6 : Int32, zB a256_6 0 11 → ∀ a256_7 : Int32, zB a256_7 0 1 → ∀ a256_8 : Int32, zB a256_8 0 20063 → ∀ a256_s1 : Int32, zB a256_s1 0 11 → ∀ g : zM, zInv g → zFr [(35, none)] f g → (228 + 238 * (12 - a256_6.toInt) + 3332 * (12 - a256_4.toInt) + 46648 * (12 - a256_3.toInt) : Int) < t → Z X 256 [some (zr 25 0), some (zi a1), some (zi a2), some (zi a256_3), some (zi a256_4), some (zi a256_5), some (zi a256_6), some (zi a256_7), some (zi a256_8)] [zi a256_s1, zr 35 0] g) ∧ (zB a1 0 5 → zB a2 0 7 → ∀ a263_3 : Int32, zB a263_3 0 11 → ∀ a263_4 : Int32, zB a263_4 0 11 → ∀ a263_5 : Int32, zB a263_5 0 7 → ∀ a263_6 : Int32, zB a263_6 0 11 → ∀ a263_7 : Int32, zB a263_7 0 1 → ∀ a263_8 : Int32, zB a263_8 0 20063 → ∀ a263_s1 : Int32, zB a263_s1 0 11 → ∀ a263_s2 : Int32, zB a263_s2 0 20000 → ∀ g : zM, zInv g → zFr [(35, none)] f g → (227 + 238 * (12 - a263_6.toInt) + 3332 * (12 - a263_4.toInt) + 46648 * (12 - a263_3.toInt) : Int) < t → Z X 263 [some (zr 25 0), some (zi a1), some (zi a2), some (zi a263_3), some (zi a263_4), some (zi a263_5), some (zi a263_6), some (zi a263_7), some (zi a263_8)] [zi a263_s2, zi a263_s1, zr 35 0] g) ∧ (zB a1 0 5 → zB a2 0 7 → ∀ a270_3 : Int32, zB a270_3 0 11 → ∀ a270_4 : Int32, zB a270_4 0 11 → ∀ a270_5 : Int32, zB a270_5 0 7 → ∀ a270_6 : Int32, zB a270_6 0 12 → ∀ g : zM, zInv g → zFr [(35, none)] f g → (226 + 3332 * (12 - a270_4.toInt) + 46648 * (12 - a270_3.toInt) : Int) < t → Z X 270 [some (zr 25 0), some (zi a1), some (zi a2), some (zi a270_3), some (zi a270_4), some (zi a270_5), some (zi a270_6), none, none] [] g) ∧ (zB a1 0 5 → zB a2 0 7 → ∀ a314_3 : Int32, zB a314_3 0 12 → ∀ a314_s0 : Int32, zB a314_s0 0 9999 → ∀ g : zM, zInv g → zFr [(35, none)] f g → (225 : Int) < t → Z X 314 [some (zr 25 0), some (zi a1), some (zi a2), some (zi a314_3), none, none, none, none, none] [zi a314_s0] g) ∧ (zB a1 0 5 → zB a2 0 7 → ∀ a318_3 : Int32, zB a318_3 0 20000 → ∀ a318_4 : Int32, zB a318_4 0 12 → ∀ g : zM, zInv g → zFr [(35, none)] f g → (3 + 17 * (12 - a318_4.toInt) : Int) < t → Z X 318 [some (zr 25 0), some (zi a1), some (zi a2), some (zi a318_3), some (zi a318_4), none, none, none, none] [] g) ∧ (zB a1 0 5 → zB a2 0 7 → ∀ a364_3 : Int32, zB a364_3 0 20000 → ∀ a364_4 : Int32, zB a364_4 0 11 → ∀ g : zM, zInv g → zFr [(35, none)] f g → (2 + 17 * (12 - a364_4.toInt) : Int) < t → Z X 364 [some (zr 25 0), some (zi a1), some (zi a2), some (zi a364_3), some (zi a364_4), none, none, none, none] [] g) ∧ (zB a1 0 5 → zB a2 0 7 → ∀ a365_3 : Int32, zB a365_3 0 20000 → ∀ a365_4 : Int32, zB a365_4 0 11 → ∀ a365_s0 : Int32, zB a365_s0 0 20000 → ∀ g : zM, zInv g → zFr [(35, none)] f g → (1 + 17 * (12 - a365_4.toInt) : Int) < t → Z X 365 [some (zr 25 0), some (zi a1), some (zi a2), some (zi a365_3), some (zi a365_4), none, none, none, none] [zi a365_s0] g) ∧ (zB a1 0 5 → zB a2 0 7 → ∀ a385_3 : Int32, zB a385_3 0 20000 → ∀ a385_4 : Int32, zB a385_4 0 12 → ∀ a385_s0 : Int32, zB a385_s0 (-4) 9998 → ∀ g : zM, zInv g → zFr [(35, none)] f g → (0 : Int) < t → Z X 385 [some (zr 25 0), some (zi a1), some (zi a2), some (zi a385_3), some (zi a385_4), none, none, none, none] [zi a385_s0] g) := by
    intro t
    induction t with
    | zero =>
      refine ⟨?_, ?_, ?_, ?_, ?_, ?_, ?_, ?_, ?_, ?_, ?_, ?_, ?_, ?_, ?_⟩ <;> (intros; exfalso; omega)
    | succ t ih =>
      obtain ⟨ih0, ih1, ih2, ih3, ih4, ih5, ih6, ih7, ih8, ih9, ih10, ih11, ih12, ih13, ih14⟩ := ih
      refine ⟨?_, ?_, ?_, ?_, ?_, ?_, ?_, ?_, ?_, ?_, ?_, ?_, ?_, ?_, ?_⟩
      · skip
        intro g15_ hI15_ hF15_ hM15_
        refine z_iconst (pc := 15) (v := -1) C dX10_mended_15 (by decide) ?_
        exact z_iret (pc := 16) C hr dX10_mended_16 ⟨⟨_, rfl, (zB.wk (a' := (-4)) (b' := 9998) (zB.of (x := (-1)) (-1) (by decide)) (by decide) (by decide))⟩, hI15_, hF15_⟩
      · skip
        intro b35_1 b35_2 a35_3 b35_3 g35_ hI35_ hF35_ hM35_
        refine z_iload_n (pc := 35) C dX10_mended_35 rfl ?_
        refine z_aload_n (pc := 36) C dX10_mended_36 rfl ?_
        refine z_getI (pc := 37) C zf_X10_77 rfl rfl (by decide) dX10_mended_37 ?_
        refine w_gb 0 12 (hI35_ 25 _ 4) (fun v1 b1x => ?_)
        refine z_icmp_ge (pc := 40) 97 C dX10_mended_40 (by decide) (fun h40_1 => ?_) (fun h40_1 => ?_)
        · skip
          refine z_iconst (pc := 97) (v := 0) C dX10_mended_97 (by decide) ?_
          refine z_istore_n (pc := 98) C dX10_mended_98 (by rw [hn]; decide) rfl ?_
          exact ih3 b35_1 b35_2 0 (zB.wk (a' := 0) (b' := 12) (zB.of (x := 0) 0 (by decide)) (by decide) (by decide)) g35_ hI35_ hF35_  (by have qc0 : (0 : Int32).toInt = 0 := (by decide); omega)
        · skip
          have b3x : zB a35_3 0 11 := by have q1 := b35_3; have q2 := b1x; simp only [z32lt, z32le, z32eq, Int32.reduceToInt, Int32.toInt_zero] at h40_1; constructor <;> omega
          have b4x : zB v1 1 12 := by have q1 := b35_3; have q2 := b1x; simp only [z32lt, z32le, z32eq, Int32.reduceToInt, Int32.toInt_zero] at h40_1; constructor <;> omega
          refine z_aload_n (pc := 43) C dX10_mended_43 rfl ?_
          refine z_getR (pc := 44) C zf_X10_37 rfl rfl (by decide) dX10_mended_44 ?_
          refine z_iload_n (pc := 47) C dX10_mended_47 rfl ?_
          refine z_aload_n (pc := 48) C dX10_mended_48 rfl ?_
          refine z_iload_n (pc := 49) C dX10_mended_49 rfl ?_
          refine z_iload_n (pc := 50) C dX10_mended_50 rfl ?_
          refine z_aload_n (pc := 51) C dX10_mended_51 rfl ?_
          refine z_getR (pc := 52) C zf_X10_22 rfl rfl (by decide) dX10_mended_52 ?_
          refine z_iconst (pc := 55) (v := 1) C dX10_mended_55 (by decide) ?_
          refine z_iald (pc := 56) C rfl (by decide) (zIx (zB.of (x := 1) 1 (by decide)) (by decide) (by decide)) dX10_mended_56 ?_
          refine w_gb 0 5 (hI35_ 30 _ 1) (fun v5 b5x => ?_)
          refine z_aload_n (pc := 57) C dX10_mended_57 rfl ?_
          refine z_getR (pc := 58) C zf_X10_22 rfl rfl (by decide) dX10_mended_58 ?_
          refine z_iconst (pc := 61) (v := 3) C dX10_mended_61 (by decide) ?_
          refine z_iald (pc := 62) C rfl (by decide) (zIx (zB.of (x := 3) 3 (by decide)) (by decide) (by decide)) dX10_mended_62 ?_
          refine w_gb 0 1 (hI35_ 30 _ 3) (fun v6 b6x => ?_)
          refine z_aload_n (pc := 63) C dX10_mended_63 rfl ?_
          refine z_getR (pc := 64) C zf_X10_22 rfl rfl (by decide) dX10_mended_64 ?_
          refine z_iconst (pc := 67) (v := 4) C dX10_mended_67 (by decide) ?_
          refine z_iald (pc := 68) C rfl (by decide) (zIx (zB.of (x := 4) 4 (by decide)) (by decide) (by decide)) dX10_mended_68 ?_
          refine w_gb (-4) 5 (hI35_ 30 _ 4) (fun v7 b7x => ?_)
          refine z_callV (pc := 69) C zk_X10_197 (w_X10_canFollow _ _ a35_3 b3x a2 b35_2 v5 b5x v6 b6x v7 b7x hI35_) rfl rfl (by decide) rfl rfl (Nat.le_of_ble_eq_true rfl) dX10_mended_69 (fun r8 g8 q8 => ?_)
          obtain ⟨⟨v8, rfl, b8x⟩, hI8, hF8q⟩ := q8
          obtain rfl := zFr_nil hF8q
          simp only [Option.toList, List.cons_append, List.nil_append]
          refine z_if_eq (pc := 72) 87 C dX10_mended_72 (by decide) (fun h72_8 => ?_) (fun h72_8 => ?_)
          · skip
            have b10x : zB v8 0 0 := by have q1 := b8x; have q2 := (zB.of (x := 0) 0 (by decide)); simp only [z32lt, z32le, z32eq, Int32.reduceToInt, Int32.toInt_zero] at h72_8; constructor <;> omega
            refine z_sipush (pc := 87) (v := 9999) C dX10_mended_87 (by decide) ?_
            exact ih2 b35_1 b35_2 a35_3 b3x a35_3 b3x 9999 (zB.wk (a' := 0) (b' := 9999) (zB.of (x := 9999) 9999 (by decide)) (by decide) (by decide)) g35_ hI35_ hF35_  (by have qc0 : (9999 : Int32).toInt = 9999 := (by decide); omega)
          · skip
            have b11x : zB v8 1 1 := by have q1 := b8x; have q2 := (zB.of (x := 0) 0 (by decide)); simp only [z32lt, z32le, z32eq, Int32.reduceToInt, Int32.toInt_zero] at h72_8; constructor <;> omega
            refine z_aload_n (pc := 75) C dX10_mended_75 rfl ?_
            refine z_iload_n (pc := 76) C dX10_mended_76 rfl ?_
            refine z_iload_n (pc := 77) C dX10_mended_77 rfl ?_
            refine z_callV (pc := 78) C zk_X10_141 (w_X10_standing _ _ a35_3 b3x a2 b35_2 hI35_) rfl rfl (by decide) rfl rfl (Nat.le_of_ble_eq_true rfl) dX10_mended_78 (fun r12 g12 q12 => ?_)
            obtain ⟨⟨v12, rfl, b12x⟩, hI12, hF12q⟩ := q12
            obtain rfl := zFr_nil hF12q
            simp only [Option.toList, List.cons_append, List.nil_append]
            refine z_callS (pc := 81) C zk_X10_194 (w_X10_ones _ _ v12 b12x hI35_) rfl rfl (Nat.le_of_ble_eq_true rfl) dX10_mended_81 (fun r13 g13 q13 => ?_)
            obtain ⟨⟨v13, rfl, b13x⟩, hI13, hF13q⟩ := q13
            obtain rfl := zFr_nil hF13q
            simp only [Option.toList, List.cons_append, List.nil_append]
            refine z_goto (pc := 84) 90 C dX10_mended_84 (by decide) ?_
            exact ih2 b35_1 b35_2 a35_3 b3x a35_3 b3x v13 (zB.wk (a' := 0) (b' := 9999) b13x (by decide) (by decide)) g35_ hI35_ hF35_  (by omega)
      · skip
        intro b90_1 b90_2 a90_3 b90_3 a90_s1 b90_s1 a90_s2 b90_s2 g90_ hI90_ hF90_ hM90_
        refine z_iast (pc := 90) C rfl (by decide) (zIx b90_s1 (by decide) (by decide)) dX10_mended_90 ?_
        refine w_mem hI90_ hF90_ (zB.wk (a' := 0) (b' := 20000) b90_s2 (by decide) (by decide)) rfl (fun g14 hI14 hF14 => ?_)
        refine z_iinc (pc := 91) (v := 1) C dX10_mended_91 rfl (by decide) (by rw [hn]; decide) rfl ?_
        obtain ⟨v15, hv15, e15⟩ : ∃ v : Int32, v = a90_3 + 1 ∧ v.toInt = a90_3.toInt + 1 := ⟨_, rfl, zadd_eb b90_3 (zB.of (x := 1) 1 (by decide)) (by decide) (by decide)⟩
        rw [← hv15]
        have b15x : zB v15 1 12 := by have q9 := b90_3; constructor <;> omega
        refine z_goto (pc := 94) 35 C dX10_mended_94 (by decide) ?_
        exact ih1 b90_1 b90_2 v15 (zB.wk (a' := 0) (b' := 12) b15x (by decide) (by decide)) g14 hI14 hF14  (by omega)
      · skip
        intro b99_1 b99_2 a99_3 b99_3 g99_ hI99_ hF99_ hM99_
        refine z_iload_n (pc := 99) C dX10_mended_99 rfl ?_
        refine z_aload_n (pc := 100) C dX10_mended_100 rfl ?_
        refine z_getI (pc := 101) C zf_X10_77 rfl rfl (by decide) dX10_mended_101 ?_
        refine w_gb 0 12 (hI99_ 25 _ 4) (fun v16 b16x => ?_)
        refine z_icmp_ge (pc := 104) 282 C dX10_mended_104 (by decide) (fun h104_16 => ?_) (fun h104_16 => ?_)
        · skip
          refine z_aload_n (pc := 282) C dX10_mended_282 rfl ?_
          refine z_iload_n (pc := 283) C dX10_mended_283 rfl ?_
          refine z_iload_n (pc := 284) C dX10_mended_284 rfl ?_
          refine z_sipush (pc := 285) (v := 255) C dX10_mended_285 (by decide) ?_
          refine z_callV (pc := 288) C zk_X10_161 (w_X10_isTried _ _ a2 b99_2 a1 b99_1 255 (zB.wk (a' := 0) (b' := 255) (zB.of (x := 255) 255 (by decide)) (by decide) (by decide)) hI99_) rfl rfl (by decide) rfl rfl (Nat.le_of_ble_eq_true rfl) dX10_mended_288 (fun r18 g18 q18 => ?_)
          obtain ⟨⟨v18, rfl, b18x⟩, hI18, hF18q⟩ := q18
          obtain rfl := zFr_nil hF18q
          simp only [Option.toList, List.cons_append, List.nil_append]
          refine z_if_ne (pc := 291) 297 C dX10_mended_291 (by decide) (fun h291_18 => ?_) (fun h291_18 => ?_)
          · skip
            have b20x : zB v18 1 1 := by have q1 := b18x; have q2 := (zB.of (x := 0) 0 (by decide)); simp only [z32lt, z32le, z32eq, Int32.reduceToInt, Int32.toInt_zero] at h291_18; constructor <;> omega
            refine z_aload_n (pc := 297) C dX10_mended_297 rfl ?_
            refine z_getR (pc := 298) C zf_X10_22 rfl rfl (by decide) dX10_mended_298 ?_
            refine z_iconst (pc := 301) (v := 1) C dX10_mended_301 (by decide) ?_
            refine z_iald (pc := 302) C rfl (by decide) (zIx (zB.of (x := 1) 1 (by decide)) (by decide) (by decide)) dX10_mended_302 ?_
            refine w_gb 0 5 (hI99_ 30 _ 1) (fun v21 b21x => ?_)
            refine z_iload_n (pc := 303) C dX10_mended_303 rfl ?_
            refine z_icmp_ne (pc := 304) 311 C dX10_mended_304 (by decide) (fun h304_21 => ?_) (fun h304_21 => ?_)
            · skip
              refine z_sipush (pc := 311) (v := 9999) C dX10_mended_311 (by decide) ?_
              exact ih10 b99_1 b99_2 a99_3 b99_3 9999 (zB.wk (a' := 0) (b' := 9999) (zB.of (x := 9999) 9999 (by decide)) (by decide) (by decide)) g99_ hI99_ hF99_  (by have qc0 : (9999 : Int32).toInt = 9999 := (by decide); omega)
            · skip
              refine z_iconst (pc := 307) (v := 0) C dX10_mended_307 (by decide) ?_
              refine z_goto (pc := 308) 314 C dX10_mended_308 (by decide) ?_
              exact ih10 b99_1 b99_2 a99_3 b99_3 0 (zB.wk (a' := 0) (b' := 9999) (zB.of (x := 0) 0 (by decide)) (by decide) (by decide)) g99_ hI99_ hF99_  (by have qc0 : (0 : Int32).toInt = 0 := (by decide); omega)
          · skip
            have b23x : zB v18 0 0 := by have q1 := b18x; have q2 := (zB.of (x := 0) 0 (by decide)); simp only [z32lt, z32le, z32eq, Int32.reduceToInt, Int32.toInt_zero] at h291_18; constructor <;> omega
            refine z_bipush (pc := 294) (v := -4) C dX10_mended_294 (by decide) ?_
            exact z_iret (pc := 296) C hr dX10_mended_296 ⟨⟨_, rfl, (zB.wk (a' := (-4)) (b' := 9998) (zB.of (x := (-4)) (-4) (by decide)) (by decide) (by decide))⟩, hI99_, hF99_⟩
        · skip
          have b24x : zB a99_3 0 11 := by have q1 := b99_3; have q2 := b16x; simp only [z32lt, z32le, z32eq, Int32.reduceToInt, Int32.toInt_zero] at h104_16; constructor <;> omega
          have b25x : zB v16 1 12 := by have q1 := b99_3; have q2 := b16x; simp only [z32lt, z32le, z32eq, Int32.reduceToInt, Int32.toInt_zero] at h104_16; constructor <;> omega
          refine z_iconst (pc := 107) (v := 0) C dX10_mended_107 (by decide) ?_
          refine z_istore (pc := 108) C dX10_mended_108 (by rw [hn]; decide) rfl ?_
          exact ih4 b99_1 b99_2 a99_3 b24x 0 (zB.wk (a' := 0) (b' := 12) (zB.of (x := 0) 0 (by decide)) (by decide) (by decide)) g99_ hI99_ hF99_  (by have qc0 : (0 : Int32).toInt = 0 := (by decide); omega)
      · skip
        intro b110_1 b110_2 a110_3 b110_3 a110_4 b110_4 g110_ hI110_ hF110_ hM110_
        refine z_iload (pc := 110) C dX10_mended_110 rfl ?_
        refine z_aload_n (pc := 112) C dX10_mended_112 rfl ?_
        refine z_getI (pc := 113) C zf_X10_77 rfl rfl (by decide) dX10_mended_113 ?_
        refine w_gb 0 12 (hI110_ 25 _ 4) (fun v26 b26x => ?_)
        refine z_icmp_ge (pc := 116) 276 C dX10_mended_116 (by decide) (fun h116_26 => ?_) (fun h116_26 => ?_)
        · skip
          refine z_iinc (pc := 276) (v := 1) C dX10_mended_276 rfl (by decide) (by rw [hn]; decide) rfl ?_
          obtain ⟨v28, hv28, e28⟩ : ∃ v : Int32, v = a110_3 + 1 ∧ v.toInt = a110_3.toInt + 1 := ⟨_, rfl, zadd_eb b110_3 (zB.of (x := 1) 1 (by decide)) (by decide) (by decide)⟩
          rw [← hv28]
          have b28x : zB v28 1 12 := by have q9 := b110_3; constructor <;> omega
          refine z_goto (pc := 279) 99 C dX10_mended_279 (by decide) ?_
          refine w_mask [4] ?_
          exact ih3 b110_1 b110_2 v28 (zB.wk (a' := 0) (b' := 12) b28x (by decide) (by decide)) g110_ hI110_ hF110_  (by omega)
        · skip
          have b29x : zB a110_4 0 11 := by have q1 := b110_4; have q2 := b26x; simp only [z32lt, z32le, z32eq, Int32.reduceToInt, Int32.toInt_zero] at h116_26; constructor <;> omega
          have b30x : zB v26 1 12 := by have q1 := b110_4; have q2 := b26x; simp only [z32lt, z32le, z32eq, Int32.reduceToInt, Int32.toInt_zero] at h116_26; constructor <;> omega
          refine z_aload_n (pc := 119) C dX10_mended_119 rfl ?_
          refine z_getR (pc := 120) C zf_X10_16 rfl rfl (by decide) dX10_mended_120 ?_
          refine z_bipush (pc := 123) (v := 8) C dX10_mended_123 (by decide) ?_
          refine z_iload (pc := 125) C dX10_mended_125 rfl ?_
          refine z_imul (pc := 127) C dX10_mended_127 ?_
          refine w_gp (fun v => v.toInt = 8 * a110_4.toInt) (zmul_kb 8 (by decide) (by decide) b29x (by decide) (by decide)) (fun v31 e31 => ?_)
          have b31x : zB v31 0 88 := zmul_bb e31 (by decide) b29x
          refine z_bipush (pc := 128) (v := 7) C dX10_mended_128 (by decide) ?_
          refine z_iadd (pc := 130) C dX10_mended_130 ?_
          refine w_gp (fun v => v.toInt = v31.toInt + 7) (zadd_eb b31x (zB.of (x := 7) 7 (by decide)) (by decide) (by decide)) (fun v32 e32 => ?_)
          have b32x : zB v32 7 95 := by have q1 := b31x; have q2 := (zB.of (x := 7) 7 (by decide)); constructor <;> omega
          refine z_iald (pc := 131) C rfl (by decide) (zIx b32x (by decide) (by decide)) dX10_mended_131 ?_
          refine w_gb 0 7 (by have hq9 := hI110_ 28 0 v32.toNatClampNeg; rw [zrg28 (r := 7) (by have hq : v32.toNatClampNeg = v32.toInt.toNat := rfl; have hq2 := b32x; omega)] at hq9; exact hq9) (fun v33 b33x => ?_)
          refine z_istore (pc := 132) C dX10_mended_132 (by rw [hn]; decide) rfl ?_
          refine z_iconst (pc := 134) (v := 0) C dX10_mended_134 (by decide) ?_
          refine z_istore (pc := 135) C dX10_mended_135 (by rw [hn]; decide) rfl ?_
          exact ih5 b110_1 b110_2 a110_3 b110_3 a110_4 b29x v33 b33x 0 (zB.wk (a' := 0) (b' := 12) (zB.of (x := 0) 0 (by decide)) (by decide) (by decide)) g110_ hI110_ hF110_  (by have qc0 : (0 : Int32).toInt = 0 := (by decide); omega)
      · skip
        intro b137_1 b137_2 a137_3 b137_3 a137_4 b137_4 a137_5 b137_5 a137_6 b137_6 g137_ hI137_ hF137_ hM137_
        refine z_iload (pc := 137) C dX10_mended_137 rfl ?_
        refine z_aload_n (pc := 139) C dX10_mended_139 rfl ?_
        refine z_getI (pc := 140) C zf_X10_77 rfl rfl (by decide) dX10_mended_140 ?_
        refine w_gb 0 12 (hI137_ 25 _ 4) (fun v34 b34x => ?_)
        refine z_icmp_ge (pc := 143) 270 C dX10_mended_143 (by decide) (fun h143_34 => ?_) (fun h143_34 => ?_)
        · skip
          exact ih9 b137_1 b137_2 a137_3 b137_3 a137_4 b137_4 a137_5 b137_5 a137_6 b137_6 g137_ hI137_ hF137_  (by omega)
        · skip
          have b36x : zB a137_6 0 11 := by have q1 := b137_6; have q2 := b34x; simp only [z32lt, z32le, z32eq, Int32.reduceToInt, Int32.toInt_zero] at h143_34; constructor <;> omega
          have b37x : zB v34 1 12 := by have q1 := b137_6; have q2 := b34x; simp only [z32lt, z32le, z32eq, Int32.reduceToInt, Int32.toInt_zero] at h143_34; constructor <;> omega
          refine z_aload_n (pc := 146) C dX10_mended_146 rfl ?_
          refine z_getR (pc := 147) C zf_X10_37 rfl rfl (by decide) dX10_mended_147 ?_
          refine z_iload (pc := 150) C dX10_mended_150 rfl ?_
          refine z_iald (pc := 152) C rfl (by decide) (zIx b137_4 (by decide) (by decide)) dX10_mended_152 ?_
          refine w_gb 0 20000 (hI137_ 35 _ _) (fun v38 b38x => ?_)
          refine z_sipush (pc := 153) (v := 9999) C dX10_mended_153 (by decide) ?_
          refine z_icmp_ge (pc := 156) 270 C dX10_mended_156 (by decide) (fun h156_38 => ?_) (fun h156_38 => ?_)
          · skip
            have b40x : zB v38 9999 20000 := by have q1 := b38x; have q2 := (zB.of (x := 9999) 9999 (by decide)); simp only [z32lt, z32le, z32eq, Int32.reduceToInt, Int32.toInt_zero] at h156_38; constructor <;> omega
            exact ih9 b137_1 b137_2 a137_3 b137_3 a137_4 b137_4 a137_5 b137_5 a137_6 (zB.wk (a' := 0) (b' := 12) b36x (by decide) (by decide)) g137_ hI137_ hF137_  (by omega)
          · skip
            have b41x : zB v38 0 9998 := by have q1 := b38x; have q2 := (zB.of (x := 9999) 9999 (by decide)); simp only [z32lt, z32le, z32eq, Int32.reduceToInt, Int32.toInt_zero] at h156_38; constructor <;> omega
            refine z_aload_n (pc := 159) C dX10_mended_159 rfl ?_
            refine z_iload (pc := 160) C dX10_mended_160 rfl ?_
            refine z_iload_n (pc := 162) C dX10_mended_162 rfl ?_
            refine z_aload_n (pc := 163) C dX10_mended_163 rfl ?_
            refine z_getR (pc := 164) C zf_X10_16 rfl rfl (by decide) dX10_mended_164 ?_
            refine z_bipush (pc := 167) (v := 8) C dX10_mended_167 (by decide) ?_
            refine z_iload (pc := 169) C dX10_mended_169 rfl ?_
            refine z_imul (pc := 171) C dX10_mended_171 ?_
            refine w_gp (fun v => v.toInt = 8 * a137_4.toInt) (zmul_kb 8 (by decide) (by decide) b137_4 (by decide) (by decide)) (fun v42 e42 => ?_)
            have b42x : zB v42 0 88 := zmul_bb e42 (by decide) b137_4
            refine z_iconst (pc := 172) (v := 2) C dX10_mended_172 (by decide) ?_
            refine z_iadd (pc := 173) C dX10_mended_173 ?_
            refine w_gp (fun v => v.toInt = v42.toInt + 2) (zadd_eb b42x (zB.of (x := 2) 2 (by decide)) (by decide) (by decide)) (fun v43 e43 => ?_)
            have b43x : zB v43 2 90 := by have q1 := b42x; have q2 := (zB.of (x := 2) 2 (by decide)); constructor <;> omega
            refine z_iald (pc := 174) C rfl (by decide) (zIx b43x (by decide) (by decide)) dX10_mended_174 ?_
            refine w_gb 0 5 (by have hq9 := hI137_ 28 0 v43.toNatClampNeg; rw [zrg28 (r := 2) (by have hq : v43.toNatClampNeg = v43.toInt.toNat := rfl; have hq2 := b43x; omega)] at hq9; exact hq9) (fun v44 b44x => ?_)
            refine z_iload (pc := 175) C dX10_mended_175 rfl ?_
            refine z_iconst (pc := 177) (v := 1) C dX10_mended_177 (by decide) ?_
            refine z_iand (pc := 178) C dX10_mended_178 ?_
            refine w_gb 0 1 (zand_b b137_5 (zB.of (x := 1) 1 (by decide)) (by decide)) (fun v45 b45x => ?_)
            refine z_iload (pc := 179) C dX10_mended_179 rfl ?_
            refine z_iconst (pc := 181) (v := 4) C dX10_mended_181 (by decide) ?_
            refine z_iand (pc := 182) C dX10_mended_182 ?_
            refine w_gb 0 4 (zand_b b137_5 (zB.of (x := 4) 4 (by decide)) (by decide)) (fun v46 b46x => ?_)
            refine z_if_eq (pc := 183) 201 C dX10_mended_183 (by decide) (fun h183_46 => ?_) (fun h183_46 => ?_)
            · skip
              have b48x : zB v46 0 0 := by have q1 := b46x; have q2 := (zB.of (x := 0) 0 (by decide)); simp only [z32lt, z32le, z32eq, Int32.reduceToInt, Int32.toInt_zero] at h183_46; constructor <;> omega
              refine z_bipush (pc := 201) (v := -4) C dX10_mended_201 (by decide) ?_
              exact ih6 b137_1 b137_2 a137_3 b137_3 a137_4 b137_4 a137_5 b137_5 a137_6 b36x a137_6 b36x a2 b137_2 v44 b44x v45 b45x (-4) (zB.wk (a' := (-4)) (b' := 5) (zB.of (x := (-4)) (-4) (by decide)) (by decide) (by decide)) g137_ hI137_ hF137_  (by have qc0 : ((-4) : Int32).toInt = (-4) := (by decide); omega)
            · skip
              have b49x : zB v46 1 4 := by have q1 := b46x; have q2 := (zB.of (x := 0) 0 (by decide)); simp only [z32lt, z32le, z32eq, Int32.reduceToInt, Int32.toInt_zero] at h183_46; constructor <;> omega
              refine z_aload_n (pc := 186) C dX10_mended_186 rfl ?_
              refine z_getR (pc := 187) C zf_X10_16 rfl rfl (by decide) dX10_mended_187 ?_
              refine z_bipush (pc := 190) (v := 8) C dX10_mended_190 (by decide) ?_
              refine z_iload (pc := 192) C dX10_mended_192 rfl ?_
              refine z_imul (pc := 194) C dX10_mended_194 ?_
              refine w_gp (fun v => v.toInt = 8 * a137_4.toInt) (zmul_kb 8 (by decide) (by decide) b137_4 (by decide) (by decide)) (fun v50 e50 => ?_)
              have b50x : zB v50 0 88 := zmul_bb e50 (by decide) b137_4
              refine z_iconst (pc := 195) (v := 1) C dX10_mended_195 (by decide) ?_
              refine z_iadd (pc := 196) C dX10_mended_196 ?_
              refine w_gp (fun v => v.toInt = v50.toInt + 1) (zadd_eb b50x (zB.of (x := 1) 1 (by decide)) (by decide) (by decide)) (fun v51 e51 => ?_)
              have b51x : zB v51 1 89 := by have q1 := b50x; have q2 := (zB.of (x := 1) 1 (by decide)); constructor <;> omega
              refine z_iald (pc := 197) C rfl (by decide) (zIx b51x (by decide) (by decide)) dX10_mended_197 ?_
              refine w_gb 0 5 (by have hq9 := hI137_ 28 0 v51.toNatClampNeg; rw [zrg28 (r := 1) (by have hq : v51.toNatClampNeg = v51.toInt.toNat := rfl; have hq2 := b51x; omega)] at hq9; exact hq9) (fun v52 b52x => ?_)
              refine z_goto (pc := 198) 203 C dX10_mended_198 (by decide) ?_
              exact ih6 b137_1 b137_2 a137_3 b137_3 a137_4 b137_4 a137_5 b137_5 a137_6 b36x a137_6 b36x a2 b137_2 v44 b44x v45 b45x v52 (zB.wk (a' := (-4)) (b' := 5) b52x (by decide) (by decide)) g137_ hI137_ hF137_  (by omega)
      · skip
        intro b203_1 b203_2 a203_3 b203_3 a203_4 b203_4 a203_5 b203_5 a203_6 b203_6 a203_s1 b203_s1 a203_s2 b203_s2 a203_s3 b203_s3 a203_s4 b203_s4 a203_s5 b203_s5 g203_ hI203_ hF203_ hM203_
        refine z_callV (pc := 203) C zk_X10_197 (w_X10_canFollow _ _ a203_s1 b203_s1 a203_s2 b203_s2 a203_s3 b203_s3 a203_s4 b203_s4 a203_s5 b203_s5 hI203_) rfl rfl (by decide) rfl rfl (Nat.le_of_ble_eq_true rfl) dX10_mended_203 (fun r53 g53 q53 => ?_)
        obtain ⟨⟨v53, rfl, b53x⟩, hI53, hF53q⟩ := q53
        obtain rfl := zFr_nil hF53q
        simp only [Option.toList, List.cons_append, List.nil_append]
        refine z_istore (pc := 206) C dX10_mended_206 (by rw [hn]; decide) rfl ?_
        refine z_aload_n (pc := 208) C dX10_mended_208 rfl ?_
        refine z_getR (pc := 209) C zf_X10_37 rfl rfl (by decide) dX10_mended_209 ?_
        refine z_iload (pc := 212) C dX10_mended_212 rfl ?_
        refine z_iald (pc := 214) C rfl (by decide) (zIx b203_4 (by decide) (by decide)) dX10_mended_214 ?_
        refine w_gb 0 20000 (hI203_ 35 _ _) (fun v54 b54x => ?_)
        refine z_aload_n (pc := 215) C dX10_mended_215 rfl ?_
        refine z_iload (pc := 216) C dX10_mended_216 rfl ?_
        refine z_iload_n (pc := 218) C dX10_mended_218 rfl ?_
        refine z_callV (pc := 219) C zk_X10_141 (w_X10_standing _ _ a203_6 b203_6 a2 b203_2 hI203_) rfl rfl (by decide) rfl rfl (Nat.le_of_ble_eq_true rfl) dX10_mended_219 (fun r55 g55 q55 => ?_)
        obtain ⟨⟨v55, rfl, b55x⟩, hI55, hF55q⟩ := q55
        obtain rfl := zFr_nil hF55q
        simp only [Option.toList, List.cons_append, List.nil_append]
        refine z_callS (pc := 222) C zk_X10_194 (w_X10_ones _ _ v55 b55x hI203_) rfl rfl (Nat.le_of_ble_eq_true rfl) dX10_mended_222 (fun r56 g56 q56 => ?_)
        obtain ⟨⟨v56, rfl, b56x⟩, hI56, hF56q⟩ := q56
        obtain rfl := zFr_nil hF56q
        simp only [Option.toList, List.cons_append, List.nil_append]
        refine z_iadd (pc := 225) C dX10_mended_225 ?_
        refine w_gp (fun v => v.toInt = v54.toInt + v56.toInt) (zadd_eb b54x b56x (by decide) (by decide)) (fun v57 e57 => ?_)
        have b57x : zB v57 0 20063 := by have q1 := b54x; have q2 := b56x; constructor <;> omega
        refine z_istore (pc := 226) C dX10_mended_226 (by rw [hn]; decide) rfl ?_
        refine z_aload_n (pc := 228) C dX10_mended_228 rfl ?_
        refine z_getR (pc := 229) C zf_X10_37 rfl rfl (by decide) dX10_mended_229 ?_
        refine z_iload (pc := 232) C dX10_mended_232 rfl ?_
        refine z_iload (pc := 234) C dX10_mended_234 rfl ?_
        refine z_if_eq (pc := 236) 256 C dX10_mended_236 (by decide) (fun h236_57 => ?_) (fun h236_57 => ?_)
        · skip
          have b59x : zB v53 0 0 := by have q1 := b53x; have q2 := (zB.of (x := 0) 0 (by decide)); simp only [z32lt, z32le, z32eq, Int32.reduceToInt, Int32.toInt_zero] at h236_57; constructor <;> omega
          exact ih7 b203_1 b203_2 a203_3 b203_3 a203_4 b203_4 a203_5 b203_5 a203_6 b203_6 v53 (zB.wk (a' := 0) (b' := 1) b59x (by decide) (by decide)) v57 b57x a203_6 b203_6 g203_ hI203_ hF203_  (by omega)
        · skip
          have b60x : zB v53 1 1 := by have q1 := b53x; have q2 := (zB.of (x := 0) 0 (by decide)); simp only [z32lt, z32le, z32eq, Int32.reduceToInt, Int32.toInt_zero] at h236_57; constructor <;> omega
          refine z_iload (pc := 239) C dX10_mended_239 rfl ?_
          refine z_aload_n (pc := 241) C dX10_mended_241 rfl ?_
          refine z_getR (pc := 242) C zf_X10_37 rfl rfl (by decide) dX10_mended_242 ?_
          refine z_iload (pc := 245) C dX10_mended_245 rfl ?_
          refine z_iald (pc := 247) C rfl (by decide) (zIx b203_6 (by decide) (by decide)) dX10_mended_247 ?_
          refine w_gb 0 20000 (hI203_ 35 _ _) (fun v61 b61x => ?_)
          refine z_icmp_ge (pc := 248) 256 C dX10_mended_248 (by decide) (fun h248_61 => ?_) (fun h248_61 => ?_)
          · skip
            exact ih7 b203_1 b203_2 a203_3 b203_3 a203_4 b203_4 a203_5 b203_5 a203_6 b203_6 v53 (zB.wk (a' := 0) (b' := 1) b60x (by decide) (by decide)) v57 b57x a203_6 b203_6 g203_ hI203_ hF203_  (by omega)
          · skip
            have b63x : zB v57 0 19999 := by have q1 := b57x; have q2 := b61x; simp only [z32lt, z32le, z32eq, Int32.reduceToInt, Int32.toInt_zero] at h248_61; constructor <;> omega
            have b64x : zB v61 1 20000 := by have q1 := b57x; have q2 := b61x; simp only [z32lt, z32le, z32eq, Int32.reduceToInt, Int32.toInt_zero] at h248_61; constructor <;> omega
            refine z_iload (pc := 251) C dX10_mended_251 rfl ?_
            refine z_goto (pc := 253) 263 C dX10_mended_253 (by decide) ?_
            exact ih8 b203_1 b203_2 a203_3 b203_3 a203_4 b203_4 a203_5 b203_5 a203_6 b203_6 v53 (zB.wk (a' := 0) (b' := 1) b60x (by decide) (by decide)) v57 (zB.wk (a' := 0) (b' := 20063) b63x (by decide) (by decide)) a203_6 b203_6 v57 (zB.wk (a' := 0) (b' := 20000) b63x (by decide) (by decide)) g203_ hI203_ hF203_  (by omega)
      · skip
        intro b256_1 b256_2 a256_3 b256_3 a256_4 b256_4 a256_5 b256_5 a256_6 b256_6 a256_7 b256_7 a256_8 b256_8 a256_s1 b256_s1 g256_ hI256_ hF256_ hM256_
        refine z_aload_n (pc := 256) C dX10_mended_256 rfl ?_
        refine z_getR (pc := 257) C zf_X10_37 rfl rfl (by decide) dX10_mended_257 ?_
        refine z_iload (pc := 260) C dX10_mended_260 rfl ?_
        refine z_iald (pc := 262) C rfl (by decide) (zIx b256_6 (by decide) (by decide)) dX10_mended_262 ?_
        refine w_gb 0 20000 (hI256_ 35 _ _) (fun v65 b65x => ?_)
        exact ih8 b256_1 b256_2 a256_3 b256_3 a256_4 b256_4 a256_5 b256_5 a256_6 b256_6 a256_7 b256_7 a256_8 b256_8 a256_s1 b256_s1 v65 b65x g256_ hI256_ hF256_  (by omega)
      · skip
        intro b263_1 b263_2 a263_3 b263_3 a263_4 b263_4 a263_5 b263_5 a263_6 b263_6 a263_7 b263_7 a263_8 b263_8 a263_s1 b263_s1 a263_s2 b263_s2 g263_ hI263_ hF263_ hM263_
        refine z_iast (pc := 263) C rfl (by decide) (zIx b263_s1 (by decide) (by decide)) dX10_mended_263 ?_
        refine w_mem hI263_ hF263_ b263_s2 rfl (fun g66 hI66 hF66 => ?_)
        refine z_iinc (pc := 264) (v := 1) C dX10_mended_264 rfl (by decide) (by rw [hn]; decide) rfl ?_
        obtain ⟨v67, hv67, e67⟩ : ∃ v : Int32, v = a263_6 + 1 ∧ v.toInt = a263_6.toInt + 1 := ⟨_, rfl, zadd_eb b263_6 (zB.of (x := 1) 1 (by decide)) (by decide) (by decide)⟩
        rw [← hv67]
        have b67x : zB v67 1 12 := by have q9 := b263_6; constructor <;> omega
        refine z_goto (pc := 267) 137 C dX10_mended_267 (by decide) ?_
        refine w_mask [7, 8] ?_
        exact ih5 b263_1 b263_2 a263_3 b263_3 a263_4 b263_4 a263_5 b263_5 v67 (zB.wk (a' := 0) (b' := 12) b67x (by decide) (by decide)) g66 hI66 hF66  (by omega)
      · skip
        intro b270_1 b270_2 a270_3 b270_3 a270_4 b270_4 a270_5 b270_5 a270_6 b270_6 g270_ hI270_ hF270_ hM270_
        refine z_iinc (pc := 270) (v := 1) C dX10_mended_270 rfl (by decide) (by rw [hn]; decide) rfl ?_
        obtain ⟨v68, hv68, e68⟩ : ∃ v : Int32, v = a270_4 + 1 ∧ v.toInt = a270_4.toInt + 1 := ⟨_, rfl, zadd_eb b270_4 (zB.of (x := 1) 1 (by decide)) (by decide) (by decide)⟩
        rw [← hv68]
        have b68x : zB v68 1 12 := by have q9 := b270_4; constructor <;> omega
        refine z_goto (pc := 273) 110 C dX10_mended_273 (by decide) ?_
        refine w_mask [5, 6] ?_
        exact ih4 b270_1 b270_2 a270_3 b270_3 v68 (zB.wk (a' := 0) (b' := 12) b68x (by decide) (by decide)) g270_ hI270_ hF270_  (by omega)
      · skip
        intro b314_1 b314_2 a314_3 b314_3 a314_s0 b314_s0 g314_ hI314_ hF314_ hM314_
        refine z_istore_n (pc := 314) C dX10_mended_314 (by rw [hn]; decide) rfl ?_
        refine z_iconst (pc := 315) (v := 0) C dX10_mended_315 (by decide) ?_
        refine z_istore (pc := 316) C dX10_mended_316 (by rw [hn]; decide) rfl ?_
        exact ih11 b314_1 b314_2 a314_s0 (zB.wk (a' := 0) (b' := 20000) b314_s0 (by decide) (by decide)) 0 (zB.wk (a' := 0) (b' := 12) (zB.of (x := 0) 0 (by decide)) (by decide) (by decide)) g314_ hI314_ hF314_  (by have qc0 : (0 : Int32).toInt = 0 := (by decide); omega)
      · skip
        intro b318_1 b318_2 a318_3 b318_3 a318_4 b318_4 g318_ hI318_ hF318_ hM318_
        refine z_iload (pc := 318) C dX10_mended_318 rfl ?_
        refine z_aload_n (pc := 320) C dX10_mended_320 rfl ?_
        refine z_getI (pc := 321) C zf_X10_77 rfl rfl (by decide) dX10_mended_321 ?_
        refine w_gb 0 12 (hI318_ 25 _ 4) (fun v69 b69x => ?_)
        refine z_icmp_ge (pc := 324) 372 C dX10_mended_324 (by decide) (fun h324_69 => ?_) (fun h324_69 => ?_)
        · skip
          refine z_iload_n (pc := 372) C dX10_mended_372 rfl ?_
          refine z_sipush (pc := 373) (v := 9999) C dX10_mended_373 (by decide) ?_
          refine z_icmp_ge (pc := 376) 383 C dX10_mended_376 (by decide) (fun h376_70 => ?_) (fun h376_70 => ?_)
          · skip
            have b72x : zB a318_3 9999 20000 := by have q1 := b318_3; have q2 := (zB.of (x := 9999) 9999 (by decide)); simp only [z32lt, z32le, z32eq, Int32.reduceToInt, Int32.toInt_zero] at h376_70; constructor <;> omega
            refine z_bipush (pc := 383) (v := -4) C dX10_mended_383 (by decide) ?_
            exact ih14 b318_1 b318_2 a318_3 (zB.wk (a' := 0) (b' := 20000) b72x (by decide) (by decide)) a318_4 b318_4 (-4) (zB.wk (a' := (-4)) (b' := 9998) (zB.of (x := (-4)) (-4) (by decide)) (by decide) (by decide)) g318_ hI318_ hF318_  (by have qc0 : ((-4) : Int32).toInt = (-4) := (by decide); omega)
          · skip
            have b73x : zB a318_3 0 9998 := by have q1 := b318_3; have q2 := (zB.of (x := 9999) 9999 (by decide)); simp only [z32lt, z32le, z32eq, Int32.reduceToInt, Int32.toInt_zero] at h376_70; constructor <;> omega
            refine z_iload_n (pc := 379) C dX10_mended_379 rfl ?_
            refine z_goto (pc := 380) 385 C dX10_mended_380 (by decide) ?_
            exact ih14 b318_1 b318_2 a318_3 (zB.wk (a' := 0) (b' := 20000) b73x (by decide) (by decide)) a318_4 b318_4 a318_3 (zB.wk (a' := (-4)) (b' := 9998) b73x (by decide) (by decide)) g318_ hI318_ hF318_  (by omega)
        · skip
          have b74x : zB a318_4 0 11 := by have q1 := b318_4; have q2 := b69x; simp only [z32lt, z32le, z32eq, Int32.reduceToInt, Int32.toInt_zero] at h324_69; constructor <;> omega
          have b75x : zB v69 1 12 := by have q1 := b318_4; have q2 := b69x; simp only [z32lt, z32le, z32eq, Int32.reduceToInt, Int32.toInt_zero] at h324_69; constructor <;> omega
          refine z_aload_n (pc := 327) C dX10_mended_327 rfl ?_
          refine z_getR (pc := 328) C zf_X10_16 rfl rfl (by decide) dX10_mended_328 ?_
          refine z_bipush (pc := 331) (v := 8) C dX10_mended_331 (by decide) ?_
          refine z_iload (pc := 333) C dX10_mended_333 rfl ?_
          refine z_imul (pc := 335) C dX10_mended_335 ?_
          refine w_gp (fun v => v.toInt = 8 * a318_4.toInt) (zmul_kb 8 (by decide) (by decide) b74x (by decide) (by decide)) (fun v76 e76 => ?_)
          have b76x : zB v76 0 88 := zmul_bb e76 (by decide) b74x
          refine z_iconst (pc := 336) (v := 2) C dX10_mended_336 (by decide) ?_
          refine z_iadd (pc := 337) C dX10_mended_337 ?_
          refine w_gp (fun v => v.toInt = v76.toInt + 2) (zadd_eb b76x (zB.of (x := 2) 2 (by decide)) (by decide) (by decide)) (fun v77 e77 => ?_)
          have b77x : zB v77 2 90 := by have q1 := b76x; have q2 := (zB.of (x := 2) 2 (by decide)); constructor <;> omega
          refine z_iald (pc := 338) C rfl (by decide) (zIx b77x (by decide) (by decide)) dX10_mended_338 ?_
          refine w_gb 0 5 (by have hq9 := hI318_ 28 0 v77.toNatClampNeg; rw [zrg28 (r := 2) (by have hq : v77.toNatClampNeg = v77.toInt.toNat := rfl; have hq2 := b77x; omega)] at hq9; exact hq9) (fun v78 b78x => ?_)
          refine z_iload_n (pc := 339) C dX10_mended_339 rfl ?_
          refine z_icmp_ne (pc := 340) 364 C dX10_mended_340 (by decide) (fun h340_78 => ?_) (fun h340_78 => ?_)
          · skip
            exact ih12 b318_1 b318_2 a318_3 b318_3 a318_4 b74x g318_ hI318_ hF318_  (by omega)
          · skip
            refine z_aload_n (pc := 343) C dX10_mended_343 rfl ?_
            refine z_getR (pc := 344) C zf_X10_37 rfl rfl (by decide) dX10_mended_344 ?_
            refine z_iload (pc := 347) C dX10_mended_347 rfl ?_
            refine z_iald (pc := 349) C rfl (by decide) (zIx b74x (by decide) (by decide)) dX10_mended_349 ?_
            refine w_gb 0 20000 (hI318_ 35 _ _) (fun v80 b80x => ?_)
            refine z_iload_n (pc := 350) C dX10_mended_350 rfl ?_
            refine z_icmp_ge (pc := 351) 364 C dX10_mended_351 (by decide) (fun h351_80 => ?_) (fun h351_80 => ?_)
            · skip
              exact ih12 b318_1 b318_2 a318_3 b318_3 a318_4 b74x g318_ hI318_ hF318_  (by omega)
            · skip
              have b82x : zB v80 0 19999 := by have q1 := b80x; have q2 := b318_3; simp only [z32lt, z32le, z32eq, Int32.reduceToInt, Int32.toInt_zero] at h351_80; constructor <;> omega
              have b83x : zB a318_3 1 20000 := by have q1 := b80x; have q2 := b318_3; simp only [z32lt, z32le, z32eq, Int32.reduceToInt, Int32.toInt_zero] at h351_80; constructor <;> omega
              refine z_aload_n (pc := 354) C dX10_mended_354 rfl ?_
              refine z_getR (pc := 355) C zf_X10_37 rfl rfl (by decide) dX10_mended_355 ?_
              refine z_iload (pc := 358) C dX10_mended_358 rfl ?_
              refine z_iald (pc := 360) C rfl (by decide) (zIx b74x (by decide) (by decide)) dX10_mended_360 ?_
              refine w_gb 0 20000 (hI318_ 35 _ _) (fun v84 b84x => ?_)
              refine z_goto (pc := 361) 365 C dX10_mended_361 (by decide) ?_
              exact ih13 b318_1 b318_2 a318_3 (zB.wk (a' := 0) (b' := 20000) b83x (by decide) (by decide)) a318_4 b74x v84 b84x g318_ hI318_ hF318_  (by omega)
      · skip
        intro b364_1 b364_2 a364_3 b364_3 a364_4 b364_4 g364_ hI364_ hF364_ hM364_
        refine z_iload_n (pc := 364) C dX10_mended_364 rfl ?_
        exact ih13 b364_1 b364_2 a364_3 b364_3 a364_4 b364_4 a364_3 b364_3 g364_ hI364_ hF364_  (by omega)
      · skip
        intro b365_1 b365_2 a365_3 b365_3 a365_4 b365_4 a365_s0 b365_s0 g365_ hI365_ hF365_ hM365_
        refine z_istore_n (pc := 365) C dX10_mended_365 (by rw [hn]; decide) rfl ?_
        refine z_iinc (pc := 366) (v := 1) C dX10_mended_366 rfl (by decide) (by rw [hn]; decide) rfl ?_
        obtain ⟨v85, hv85, e85⟩ : ∃ v : Int32, v = a365_4 + 1 ∧ v.toInt = a365_4.toInt + 1 := ⟨_, rfl, zadd_eb b365_4 (zB.of (x := 1) 1 (by decide)) (by decide) (by decide)⟩
        rw [← hv85]
        have b85x : zB v85 1 12 := by have q9 := b365_4; constructor <;> omega
        refine z_goto (pc := 369) 318 C dX10_mended_369 (by decide) ?_
        exact ih11 b365_1 b365_2 a365_s0 b365_s0 v85 (zB.wk (a' := 0) (b' := 12) b85x (by decide) (by decide)) g365_ hI365_ hF365_  (by omega)
      · skip
        intro b385_1 b385_2 a385_3 b385_3 a385_4 b385_4 a385_s0 b385_s0 g385_ hI385_ hF385_ hM385_
        exact z_iret (pc := 385) C hr dX10_mended_385 ⟨⟨_, rfl, b385_s0⟩, hI385_, hF385_⟩
  obtain ⟨J0, J1, J2, J3, J4, J5, J6, J7, J8, J9, J10, J11, J12, J13, J14⟩ := J 9143017
  show Z X 0 [some (zr 25 0), some (zi a1), some (zi a2), none, none, none, none, none, none] [] f
  refine z_iload_n (pc := 0) C dX10_mended_0 rfl ?_
  refine z_callSb (pc := 1) C zk_X10_83 (m_X10_isLand _ _ _) rfl rfl (Nat.le_of_ble_eq_true rfl) dX10_mended_1 (fun h1_85 => ?_) (fun h1_85 => ?_)
  · skip
    have b87x : zB a1 0 5 := h1_85
    refine z_if_eq (pc := 4) 15 C dX10_mended_4 (by decide) (fun h => absurd h (by decide)) (fun _ => ?_)
    refine z_aload_n (pc := 7) C dX10_mended_7 rfl ?_
    refine z_iload_n (pc := 8) C dX10_mended_8 rfl ?_
    refine z_callVb (pc := 9) C zk_X10_120 (m_X10_isDeed _ _ _ hI) rfl rfl (by decide) rfl rfl (Nat.le_of_ble_eq_true rfl) dX10_mended_9 (fun h9_87 => ?_) (fun h9_87 => ?_)
    · skip
      have b89x : zB a2 0 7 := (zltc h9_87 (hI 25 0 2).2)
      refine z_if_ne (pc := 12) 17 C dX10_mended_12 (by decide) (fun _ => ?_) (fun h => absurd h (by decide))
      refine z_aload_n (pc := 17) C dX10_mended_17 rfl ?_
      refine z_getR (pc := 18) C zf_X10_22 rfl rfl (by decide) dX10_mended_18 ?_
      refine z_iconst (pc := 21) (v := 5) C dX10_mended_21 (by decide) ?_
      refine z_iald (pc := 22) C rfl (by decide) (zIx (zB.of (x := 5) 5 (by decide)) (by decide) (by decide)) dX10_mended_22 ?_
      refine w_gb 0 255 (hI 30 _ 5) (fun v90 b90x => ?_)
      refine z_iload_n (pc := 23) C dX10_mended_23 rfl ?_
      refine z_ishr (pc := 24) C dX10_mended_24 ?_
      refine w_gb (-2147483648) 2147483647 (zB_any _) (fun v91 b91x => ?_)
      refine z_iconst (pc := 25) (v := 1) C dX10_mended_25 (by decide) ?_
      refine z_iand (pc := 26) C dX10_mended_26 ?_
      refine w_gb 0 1 (zand_b b91x (zB.of (x := 1) 1 (by decide)) (by decide)) (fun v92 b92x => ?_)
      refine z_if_ne (pc := 27) 33 C dX10_mended_27 (by decide) (fun h27_92 => ?_) (fun h27_92 => ?_)
      · skip
        have b94x : zB v92 1 1 := by have q1 := b92x; have q2 := (zB.of (x := 0) 0 (by decide)); simp only [z32lt, z32le, z32eq, Int32.reduceToInt, Int32.toInt_zero] at h27_92; constructor <;> omega
        refine z_iconst (pc := 33) (v := 0) C dX10_mended_33 (by decide) ?_
        refine z_istore_n (pc := 34) C dX10_mended_34 (by rw [hn]; decide) rfl ?_
        exact J1 b87x b89x 0 (zB.wk (a' := 0) (b' := 12) (zB.of (x := 0) 0 (by decide)) (by decide) (by decide)) f hI hF  (by have qc0 : (0 : Int32).toInt = 0 := (by decide); omega)
      · skip
        have b95x : zB v92 0 0 := by have q1 := b92x; have q2 := (zB.of (x := 0) 0 (by decide)); simp only [z32lt, z32le, z32eq, Int32.reduceToInt, Int32.toInt_zero] at h27_92; constructor <;> omega
        refine z_bipush (pc := 30) (v := -4) C dX10_mended_30 (by decide) ?_
        exact z_iret (pc := 32) C hr dX10_mended_32 ⟨⟨_, rfl, (zB.wk (a' := (-4)) (b' := 9998) (zB.of (x := (-4)) (-4) (by decide)) (by decide) (by decide))⟩, hI, hF⟩
    · skip
      refine z_if_ne (pc := 12) 17 C dX10_mended_12 (by decide) (fun h => absurd (by decide) h) (fun _ => ?_)
      exact J0  f hI hF  (by omega)
  · skip
    refine z_if_eq (pc := 4) 15 C dX10_mended_4 (by decide) (fun _ => ?_) (fun h => absurd (by decide) h)
    exact J0  f hI hF  (by omega)

set_option maxRecDepth 100000 in
set_option maxHeartbeats 4000000 in
theorem w_X10_part (d : Nat) (f : zM) (a1 : Int32) (b1 : zB a1 (-2147483648) 2147483647) (a2 : Int32) (b2 : zB a2 (-2147483648) 2147483647) (a3 : Int32) (b3 : zB a3 (-2147483648) 2147483647) (hI : zInv f) : ZM (d + 2) yX10_part cX10_part 7 (some .int) [zr 25 0, zi a1, zi a2, zi a3] f (fun r g => (∃ v, r = some (zi v) ∧ zB v (-2147483648) 2147483647) ∧ zInv g ∧ zFr [] f g) := by
  refine ZM.intro (by decide +kernel) (Nat.le_of_ble_eq_true rfl) ?_
  intro X C hr hn
  have hF : zFr [] f f := zFr.rf _ _
  have J : ∀ t : Nat, (∀ g : zM, zInv g → zFr [] f g → (517 : Int) < t → Z X 29 [some (zr 25 0), some (zi a1), some (zi a2), some (zi a3), none, none, none] [] g) ∧ (zB a1 0 5 → zB a2 0 5 → zB a3 0 1 → ∀ a42_4 : Int32, zB a42_4 (-4) 63 → ∀ a42_5 : Int32, zB a42_5 (-2147483648) 2147483647 → ∀ a42_6 : Int32, zB a42_6 0 63 → ∀ g : zM, zInv g → zFr [] f g → (4 + 8 * (a42_6.toInt - 0) : Int) < t → Z X 42 [some (zr 25 0), some (zi a1), some (zi a2), some (zi a3), some (zi a42_4), some (zi a42_5), some (zi a42_6)] [] g) ∧ (zB a1 0 5 → zB a2 0 5 → zB a3 0 1 → ∀ a62_4 : Int32, zB a62_4 (-4) 63 → ∀ a62_5 : Int32, zB a62_5 (-2147483648) 2147483647 → ∀ a62_6 : Int32, zB a62_6 1 63 → ∀ a62_s0 : Int32, zB a62_s0 0 1 → ∀ g : zM, zInv g → zFr [] f g → (3 + 8 * (a62_6.toInt - 0) : Int) < t → Z X 62 [some (zr 25 0), some (zi a1), some (zi a2), some (zi a3), some (zi a62_4), some (zi a62_5), some (zi a62_6)] [zi a62_s0] g) ∧ (zB a1 0 5 → zB a2 0 5 → zB a3 0 1 → ∀ a77_4 : Int32, zB a77_4 (-4) 63 → ∀ a77_5 : Int32, zB a77_5 (-2147483648) 2147483647 → ∀ a77_6 : Int32, zB a77_6 1 63 → ∀ a77_s0 : Int32, zB a77_s0 0 1 → ∀ a77_s1 : Int32, zB a77_s1 0 1 → ∀ g : zM, zInv g → zFr [] f g → (2 + 8 * (a77_6.toInt - 0) : Int) < t → Z X 77 [some (zr 25 0), some (zi a1), some (zi a2), some (zi a3), some (zi a77_4), some (zi a77_5), some (zi a77_6)] [zi a77_s1, zi a77_s0] g) ∧ (zB a1 0 5 → zB a2 0 5 → zB a3 0 1 → ∀ a87_4 : Int32, zB a87_4 (-4) 63 → ∀ a87_5 : Int32, zB a87_5 (-2147483648) 2147483647 → ∀ a87_6 : Int32, zB a87_6 1 63 → ∀ g : zM, zInv g → zFr [] f g → (1 + 8 * (a87_6.toInt - 0) : Int) < t → Z X 87 [some (zr 25 0), some (zi a1), some (zi a2), some (zi a3), some (zi a87_4), some (zi a87_5), some (zi a87_6)] [] g) ∧ (zB a1 0 5 → zB a2 0 5 → zB a3 0 1 → ∀ a104_4 : Int32, zB a104_4 (-4) 63 → ∀ a104_5 : Int32, zB a104_5 (-2147483648) 2147483647 → ∀ a104_6 : Int32, zB a104_6 0 0 → ∀ a104_s0 : Int32, zB a104_s0 (-2147483648) 2147483647 → ∀ g : zM, zInv g → zFr [] f g → (0 : Int) < t → Z X 104 [some (zr 25 0), some (zi a1), some (zi a2), some (zi a3), some (zi a104_4), some (zi a104_5), some (zi a104_6)] [zi a104_s0] g) := by
    intro t
    induction t with
    | zero =>
      refine ⟨?_, ?_, ?_, ?_, ?_, ?_⟩ <;> (intros; exfalso; omega)
    | succ t ih =>
      obtain ⟨ih0, ih1, ih2, ih3, ih4, ih5⟩ := ih
      refine ⟨?_, ?_, ?_, ?_, ?_, ?_⟩
      · skip
        intro g29_ hI29_ hF29_ hM29_
        refine z_iconst (pc := 29) (v := -1) C dX10_part_29 (by decide) ?_
        exact z_iret (pc := 30) C hr dX10_part_30 ⟨⟨_, rfl, (zB.wk (a' := (-2147483648)) (b' := 2147483647) (zB.of (x := (-1)) (-1) (by decide)) (by decide) (by decide))⟩, hI29_, hF29_⟩
      · skip
        intro b42_1 b42_2 b42_3 a42_4 b42_4 a42_5 b42_5 a42_6 b42_6 g42_ hI42_ hF42_ hM42_
        refine z_iload (pc := 42) C dX10_part_42 rfl ?_
        refine z_if_le (pc := 44) 93 C dX10_part_44 (by decide) (fun h44_0 => ?_) (fun h44_0 => ?_)
        · skip
          have b2x : zB a42_6 0 0 := by have q1 := b42_6; have q2 := (zB.of (x := 0) 0 (by decide)); simp only [z32lt, z32le, z32eq, Int32.reduceToInt, Int32.toInt_zero] at h44_0; constructor <;> omega
          refine z_iload_n (pc := 93) C dX10_part_93 rfl ?_
          refine z_if_ne (pc := 94) 102 C dX10_part_94 (by decide) (fun h94_2 => ?_) (fun h94_2 => ?_)
          · skip
            have b4x : zB a3 1 1 := by have q1 := b42_3; have q2 := (zB.of (x := 0) 0 (by decide)); simp only [z32lt, z32le, z32eq, Int32.reduceToInt, Int32.toInt_zero] at h94_2; constructor <;> omega
            refine z_iload (pc := 102) C dX10_part_102 rfl ?_
            exact ih5 b42_1 b42_2 (zB.wk (a' := 0) (b' := 1) b4x (by decide) (by decide)) a42_4 b42_4 a42_5 b42_5 a42_6 b2x a42_5 b42_5 g42_ hI42_ hF42_  (by omega)
          · skip
            have b5x : zB a3 0 0 := by have q1 := b42_3; have q2 := (zB.of (x := 0) 0 (by decide)); simp only [z32lt, z32le, z32eq, Int32.reduceToInt, Int32.toInt_zero] at h94_2; constructor <;> omega
            refine z_iload (pc := 97) C dX10_part_97 rfl ?_
            refine z_goto (pc := 99) 104 C dX10_part_99 (by decide) ?_
            exact ih5 b42_1 b42_2 (zB.wk (a' := 0) (b' := 1) b5x (by decide) (by decide)) a42_4 b42_4 a42_5 b42_5 a42_6 b2x a42_4 (zB.wk (a' := (-2147483648)) (b' := 2147483647) b42_4 (by decide) (by decide)) g42_ hI42_ hF42_  (by omega)
        · skip
          have b6x : zB a42_6 1 63 := by have q1 := b42_6; have q2 := (zB.of (x := 0) 0 (by decide)); simp only [z32lt, z32le, z32eq, Int32.reduceToInt, Int32.toInt_zero] at h44_0; constructor <;> omega
          refine z_aload_n (pc := 47) C dX10_part_47 rfl ?_
          refine z_iload (pc := 48) C dX10_part_48 rfl ?_
          refine z_iload_n (pc := 50) C dX10_part_50 rfl ?_
          refine z_callV (pc := 51) C zk_X10_116 (w_X10_crimesOf _ _ a42_6 (zB.wk (a' := 0) (b' := 63) b6x (by decide) (by decide)) a1 b42_1 hI42_) rfl rfl (by decide) rfl rfl (Nat.le_of_ble_eq_true rfl) dX10_part_51 (fun r7 g7 q7 => ?_)
          obtain ⟨⟨v7, rfl, b7x⟩, hI7, hF7q⟩ := q7
          obtain rfl := zFr_nil hF7q
          simp only [Option.toList, List.cons_append, List.nil_append]
          refine z_if_eq (pc := 54) 61 C dX10_part_54 (by decide) (fun h54_7 => ?_) (fun h54_7 => ?_)
          · skip
            have b9x : zB v7 0 0 := by have q1 := b7x; have q2 := (zB.of (x := 0) 0 (by decide)); simp only [z32lt, z32le, z32eq, Int32.reduceToInt, Int32.toInt_zero] at h54_7; constructor <;> omega
            refine z_iconst (pc := 61) (v := 0) C dX10_part_61 (by decide) ?_
            exact ih2 b42_1 b42_2 b42_3 a42_4 b42_4 a42_5 b42_5 a42_6 b6x 0 (zB.wk (a' := 0) (b' := 1) (zB.of (x := 0) 0 (by decide)) (by decide) (by decide)) g42_ hI42_ hF42_  (by have qc0 : (0 : Int32).toInt = 0 := (by decide); omega)
          · skip
            have b10x : zB v7 1 16777215 := by have q1 := b7x; have q2 := (zB.of (x := 0) 0 (by decide)); simp only [z32lt, z32le, z32eq, Int32.reduceToInt, Int32.toInt_zero] at h54_7; constructor <;> omega
            refine z_iconst (pc := 57) (v := 1) C dX10_part_57 (by decide) ?_
            refine z_goto (pc := 58) 62 C dX10_part_58 (by decide) ?_
            exact ih2 b42_1 b42_2 b42_3 a42_4 b42_4 a42_5 b42_5 a42_6 b6x 1 (zB.wk (a' := 0) (b' := 1) (zB.of (x := 1) 1 (by decide)) (by decide) (by decide)) g42_ hI42_ hF42_  (by have qc0 : (1 : Int32).toInt = 1 := (by decide); omega)
      · skip
        intro b62_1 b62_2 b62_3 a62_4 b62_4 a62_5 b62_5 a62_6 b62_6 a62_s0 b62_s0 g62_ hI62_ hF62_ hM62_
        refine z_aload_n (pc := 62) C dX10_part_62 rfl ?_
        refine z_iload (pc := 63) C dX10_part_63 rfl ?_
        refine z_iload_n (pc := 65) C dX10_part_65 rfl ?_
        refine z_callV (pc := 66) C zk_X10_116 (w_X10_crimesOf _ _ a62_6 (zB.wk (a' := 0) (b' := 63) b62_6 (by decide) (by decide)) a2 b62_2 hI62_) rfl rfl (by decide) rfl rfl (Nat.le_of_ble_eq_true rfl) dX10_part_66 (fun r11 g11 q11 => ?_)
        obtain ⟨⟨v11, rfl, b11x⟩, hI11, hF11q⟩ := q11
        obtain rfl := zFr_nil hF11q
        simp only [Option.toList, List.cons_append, List.nil_append]
        refine z_if_eq (pc := 69) 76 C dX10_part_69 (by decide) (fun h69_11 => ?_) (fun h69_11 => ?_)
        · skip
          have b13x : zB v11 0 0 := by have q1 := b11x; have q2 := (zB.of (x := 0) 0 (by decide)); simp only [z32lt, z32le, z32eq, Int32.reduceToInt, Int32.toInt_zero] at h69_11; constructor <;> omega
          refine z_iconst (pc := 76) (v := 0) C dX10_part_76 (by decide) ?_
          exact ih3 b62_1 b62_2 b62_3 a62_4 b62_4 a62_5 b62_5 a62_6 b62_6 a62_s0 b62_s0 0 (zB.wk (a' := 0) (b' := 1) (zB.of (x := 0) 0 (by decide)) (by decide) (by decide)) g62_ hI62_ hF62_  (by have qc0 : (0 : Int32).toInt = 0 := (by decide); omega)
        · skip
          have b14x : zB v11 1 16777215 := by have q1 := b11x; have q2 := (zB.of (x := 0) 0 (by decide)); simp only [z32lt, z32le, z32eq, Int32.reduceToInt, Int32.toInt_zero] at h69_11; constructor <;> omega
          refine z_iconst (pc := 72) (v := 1) C dX10_part_72 (by decide) ?_
          refine z_goto (pc := 73) 77 C dX10_part_73 (by decide) ?_
          exact ih3 b62_1 b62_2 b62_3 a62_4 b62_4 a62_5 b62_5 a62_6 b62_6 a62_s0 b62_s0 1 (zB.wk (a' := 0) (b' := 1) (zB.of (x := 1) 1 (by decide)) (by decide) (by decide)) g62_ hI62_ hF62_  (by have qc0 : (1 : Int32).toInt = 1 := (by decide); omega)
      · skip
        intro b77_1 b77_2 b77_3 a77_4 b77_4 a77_5 b77_5 a77_6 b77_6 a77_s0 b77_s0 a77_s1 b77_s1 g77_ hI77_ hF77_ hM77_
        refine z_icmp_eq (pc := 77) 87 C dX10_part_77 (by decide) (fun h77_14 => ?_) (fun h77_14 => ?_)
        · skip
          exact ih4 b77_1 b77_2 b77_3 a77_4 b77_4 a77_5 b77_5 a77_6 b77_6 g77_ hI77_ hF77_  (by omega)
        · skip
          refine z_iload (pc := 80) C dX10_part_80 rfl ?_
          refine z_istore (pc := 82) C dX10_part_82 (by rw [hn]; decide) rfl ?_
          refine z_iinc (pc := 84) (v := 1) C dX10_part_84 rfl (by decide) (by rw [hn]; decide) rfl ?_
          obtain ⟨v16, hv16⟩ : ∃ v : Int32, v = a77_5 + 1 := ⟨_, rfl⟩
          rw [← hv16]
          exact ih4 b77_1 b77_2 b77_3 a77_6 (zB.wk (a' := (-4)) (b' := 63) b77_6 (by decide) (by decide)) v16 (zB_any v16) a77_6 b77_6 g77_ hI77_ hF77_  (by omega)
      · skip
        intro b87_1 b87_2 b87_3 a87_4 b87_4 a87_5 b87_5 a87_6 b87_6 g87_ hI87_ hF87_ hM87_
        refine z_iinc (pc := 87) (v := -1) C dX10_part_87 rfl (by decide) (by rw [hn]; decide) rfl ?_
        obtain ⟨v17, hv17, e17⟩ : ∃ v : Int32, v = a87_6 + (-1) ∧ v.toInt = a87_6.toInt + (-1) := ⟨_, rfl, zadd_eb b87_6 (zB.of (x := (-1)) (-1) (by decide)) (by decide) (by decide)⟩
        rw [← hv17]
        have b17x : zB v17 0 62 := by have q9 := b87_6; constructor <;> omega
        refine z_goto (pc := 90) 42 C dX10_part_90 (by decide) ?_
        exact ih1 b87_1 b87_2 b87_3 a87_4 b87_4 a87_5 b87_5 v17 (zB.wk (a' := 0) (b' := 63) b17x (by decide) (by decide)) g87_ hI87_ hF87_  (by omega)
      · skip
        intro b104_1 b104_2 b104_3 a104_4 b104_4 a104_5 b104_5 a104_6 b104_6 a104_s0 b104_s0 g104_ hI104_ hF104_ hM104_
        exact z_iret (pc := 104) C hr dX10_part_104 ⟨⟨_, rfl, b104_s0⟩, hI104_, hF104_⟩
  obtain ⟨J0, J1, J2, J3, J4, J5⟩ := J 529
  show Z X 0 [some (zr 25 0), some (zi a1), some (zi a2), some (zi a3), none, none, none] [] f
  refine z_iload_n (pc := 0) C dX10_part_0 rfl ?_
  refine z_callSb (pc := 1) C zk_X10_83 (m_X10_isLand _ _ _) rfl rfl (Nat.le_of_ble_eq_true rfl) dX10_part_1 (fun h1_17 => ?_) (fun h1_17 => ?_)
  · skip
    have b19x : zB a1 0 5 := h1_17
    refine z_if_eq (pc := 4) 29 C dX10_part_4 (by decide) (fun h => absurd h (by decide)) (fun _ => ?_)
    refine z_iload_n (pc := 7) C dX10_part_7 rfl ?_
    refine z_callSb (pc := 8) C zk_X10_83 (m_X10_isLand _ _ _) rfl rfl (Nat.le_of_ble_eq_true rfl) dX10_part_8 (fun h8_19 => ?_) (fun h8_19 => ?_)
    · skip
      have b21x : zB a2 0 5 := h8_19
      refine z_if_eq (pc := 11) 29 C dX10_part_11 (by decide) (fun h => absurd h (by decide)) (fun _ => ?_)
      refine z_iload_n (pc := 14) C dX10_part_14 rfl ?_
      refine z_iload_n (pc := 15) C dX10_part_15 rfl ?_
      refine z_icmp_eq (pc := 16) 29 C dX10_part_16 (by decide) (fun h16_21 => ?_) (fun h16_21 => ?_)
      · skip
        exact J0  f hI hF  (by omega)
      · skip
        refine z_iload_n (pc := 19) C dX10_part_19 rfl ?_
        refine z_i2l (pc := 20) C dX10_part_20 ?_
        refine z_lconst (pc := 21) (v := 0) C dX10_part_21 (by decide) ?_
        refine z_lconst (pc := 22) (v := 1) C dX10_part_22 (by decide) ?_
        refine z_callSb (pc := 23) C zk_X10_69 (m_X10_in _ _ _ _ _) rfl rfl (Nat.le_of_ble_eq_true rfl) dX10_part_23 (fun h23_22 => ?_) (fun h23_22 => ?_)
        · skip
          have b24x : zB a3 0 1 := zin64 h23_22 rfl rfl
          refine z_if_ne (pc := 26) 31 C dX10_part_26 (by decide) (fun _ => ?_) (fun h => absurd h (by decide))
          refine z_bipush (pc := 31) (v := -4) C dX10_part_31 (by decide) ?_
          refine z_istore (pc := 33) C dX10_part_33 (by rw [hn]; decide) rfl ?_
          refine z_iconst (pc := 35) (v := 0) C dX10_part_35 (by decide) ?_
          refine z_istore (pc := 36) C dX10_part_36 (by rw [hn]; decide) rfl ?_
          refine z_bipush (pc := 38) (v := 63) C dX10_part_38 (by decide) ?_
          refine z_istore (pc := 40) C dX10_part_40 (by rw [hn]; decide) rfl ?_
          exact J1 b19x b21x b24x (-4) (zB.wk (a' := (-4)) (b' := 63) (zB.of (x := (-4)) (-4) (by decide)) (by decide) (by decide)) 0 (zB.wk (a' := (-2147483648)) (b' := 2147483647) (zB.of (x := 0) 0 (by decide)) (by decide) (by decide)) 63 (zB.wk (a' := 0) (b' := 63) (zB.of (x := 63) 63 (by decide)) (by decide) (by decide)) f hI hF  (by have qc0 : ((-4) : Int32).toInt = (-4) := (by decide); have qc1 : (0 : Int32).toInt = 0 := (by decide); have qc2 : (63 : Int32).toInt = 63 := (by decide); omega)
        · skip
          refine z_if_ne (pc := 26) 31 C dX10_part_26 (by decide) (fun h => absurd (by decide) h) (fun _ => ?_)
          exact J0  f hI hF  (by omega)
    · skip
      refine z_if_eq (pc := 11) 29 C dX10_part_11 (by decide) (fun _ => ?_) (fun h => absurd (by decide) h)
      exact J0  f hI hF  (by omega)
  · skip
    refine z_if_eq (pc := 4) 29 C dX10_part_4 (by decide) (fun _ => ?_) (fun h => absurd (by decide) h)
    exact J0  f hI hF  (by omega)

set_option maxRecDepth 100000 in
set_option maxHeartbeats 4000000 in
theorem w_X10_sheet (d : Nat) (f : zM) (a1 : Int32) (b1 : zB a1 (-2147483648) 2147483647) (a2 : Int32) (b2 : zB a2 (-2147483648) 2147483647) (a3 : Int32) (b3 : zB a3 (-2147483648) 2147483647) (hI : zInv f) : ZM (d + 2) yX10_sheet cX10_sheet 5 (some .int) [zr 25 0, zi a1, zi a2, zi a3] f (fun r g => (∃ v, r = some (zi v) ∧ zB v (-14) 16) ∧ zInv g ∧ zFr [(41, none), (42, none), (43, none)] f g) := by
  refine ZM.intro (by decide +kernel) (Nat.le_of_ble_eq_true rfl) ?_
  intro X C hr hn
  have hF : zFr [(41, none), (42, none), (43, none)] f f := zFr.rf _ _
  have J : ∀ t : Nat, (∀ g : zM, zInv g → zFr [(41, none), (42, none), (43, none)] f g → (69 : Int) < t → Z X 14 [some (zr 25 0), some (zi a1), some (zi a2), some (zi a3), none] [] g) ∧ (zB a1 0 3 → zB a2 0 2 → zB a3 0 16 → ∀ a40_4 : Int32, zB a40_4 0 16 → ∀ g : zM, zInv g → zFr [(41, none), (42, none), (43, none)] f g → (0 + 4 * (16 - a40_4.toInt) : Int) < t → Z X 40 [some (zr 25 0), some (zi a1), some (zi a2), some (zi a3), some (zi a40_4)] [] g) := by
    intro t
    induction t with
    | zero =>
      refine ⟨?_, ?_⟩ <;> (intros; exfalso; omega)
    | succ t ih =>
      obtain ⟨ih0, ih1⟩ := ih
      refine ⟨?_, ?_⟩
      · skip
        intro g14_ hI14_ hF14_ hM14_
        refine z_iconst (pc := 14) (v := -1) C dX10_sheet_14 (by decide) ?_
        exact z_iret (pc := 15) C hr dX10_sheet_15 ⟨⟨_, rfl, (zB.wk (a' := (-14)) (b' := 16) (zB.of (x := (-1)) (-1) (by decide)) (by decide) (by decide))⟩, hI14_, hF14_⟩
      · skip
        intro b40_1 b40_2 b40_3 a40_4 b40_4 g40_ hI40_ hF40_ hM40_
        refine z_iload (pc := 40) C dX10_sheet_40 rfl ?_
        refine z_bipush (pc := 42) (v := 16) C dX10_sheet_42 (by decide) ?_
        refine z_icmp_ge (pc := 44) 66 C dX10_sheet_44 (by decide) (fun h44_0 => ?_) (fun h44_0 => ?_)
        · skip
          have b2x : zB a40_4 16 16 := by have q1 := b40_4; have q2 := (zB.of (x := 16) 16 (by decide)); simp only [z32lt, z32le, z32eq, Int32.reduceToInt, Int32.toInt_zero] at h44_0; constructor <;> omega
          refine z_iload_n (pc := 66) C dX10_sheet_66 rfl ?_
          exact z_iret (pc := 67) C hr dX10_sheet_67 ⟨⟨_, rfl, (zB.wk (a' := (-14)) (b' := 16) b40_3 (by decide) (by decide))⟩, hI40_, hF40_⟩
        · skip
          have b3x : zB a40_4 0 15 := by have q1 := b40_4; have q2 := (zB.of (x := 16) 16 (by decide)); simp only [z32lt, z32le, z32eq, Int32.reduceToInt, Int32.toInt_zero] at h44_0; constructor <;> omega
          refine z_aload_n (pc := 47) C dX10_sheet_47 rfl ?_
          refine z_getR (pc := 48) C zf_X10_61 rfl rfl (by decide) dX10_sheet_48 ?_
          refine z_bipush (pc := 51) (v := 16) C dX10_sheet_51 (by decide) ?_
          refine z_iload_n (pc := 53) C dX10_sheet_53 rfl ?_
          refine z_imul (pc := 54) C dX10_sheet_54 ?_
          refine w_gp (fun v => v.toInt = 16 * a1.toInt) (zmul_kb 16 (by decide) (by decide) b40_1 (by decide) (by decide)) (fun v4 e4 => ?_)
          have b4x : zB v4 0 48 := zmul_bb e4 (by decide) b40_1
          refine z_iload (pc := 55) C dX10_sheet_55 rfl ?_
          refine z_iadd (pc := 57) C dX10_sheet_57 ?_
          refine w_gp (fun v => v.toInt = v4.toInt + a40_4.toInt) (zadd_eb b4x b3x (by decide) (by decide)) (fun v5 e5 => ?_)
          have b5x : zB v5 0 63 := by have q1 := b4x; have q2 := b3x; constructor <;> omega
          refine z_iconst (pc := 58) (v := 0) C dX10_sheet_58 (by decide) ?_
          refine z_iast (pc := 59) C rfl (by decide) (zIx b5x (by decide) (by decide)) dX10_sheet_59 ?_
          refine w_mem hI40_ hF40_ (zB.wk (a' := (-2147483648)) (b' := 2147483647) (zB.of (x := 0) 0 (by decide)) (by decide) (by decide)) rfl (fun g6 hI6 hF6 => ?_)
          refine z_iinc (pc := 60) (v := 1) C dX10_sheet_60 rfl (by decide) (by rw [hn]; decide) rfl ?_
          obtain ⟨v7, hv7, e7⟩ : ∃ v : Int32, v = a40_4 + 1 ∧ v.toInt = a40_4.toInt + 1 := ⟨_, rfl, zadd_eb b3x (zB.of (x := 1) 1 (by decide)) (by decide) (by decide)⟩
          rw [← hv7]
          have b7x : zB v7 1 16 := by have q9 := b3x; constructor <;> omega
          refine z_goto (pc := 63) 40 C dX10_sheet_63 (by decide) ?_
          exact ih1 b40_1 b40_2 b40_3 v7 (zB.wk (a' := 0) (b' := 16) b7x (by decide) (by decide)) g6 hI6 hF6  (by omega)
  obtain ⟨J0, J1⟩ := J 81
  show Z X 0 [some (zr 25 0), some (zi a1), some (zi a2), some (zi a3), none] [] f
  refine z_iload_n (pc := 0) C dX10_sheet_0 rfl ?_
  refine z_iload_n (pc := 1) C dX10_sheet_1 rfl ?_
  refine z_callSb (pc := 2) C zk_X10_268 (m_X10_isSheet _ _ _ _) rfl rfl (Nat.le_of_ble_eq_true rfl) dX10_sheet_2 (fun h2_7 => ?_) (fun h2_7 => ?_)
  · skip
    have b9x : zB a1 0 3 := h2_7.1
    have b10x : zB a2 0 2 := h2_7.2
    refine z_if_eq (pc := 5) 14 C dX10_sheet_5 (by decide) (fun h => absurd h (by decide)) (fun _ => ?_)
    refine z_iload_n (pc := 8) C dX10_sheet_8 rfl ?_
    refine z_bipush (pc := 9) (v := 16) C dX10_sheet_9 (by decide) ?_
    refine z_icmp_le (pc := 11) 16 C dX10_sheet_11 (by decide) (fun h11_10 => ?_) (fun h11_10 => ?_)
    · skip
      have b12x : zB a3 (-2147483648) 16 := by have q1 := b3; have q2 := (zB.of (x := 16) 16 (by decide)); simp only [z32lt, z32le, z32eq, Int32.reduceToInt, Int32.toInt_zero] at h11_10; constructor <;> omega
      refine z_iload_n (pc := 16) C dX10_sheet_16 rfl ?_
      refine z_if_ge (pc := 17) 23 C dX10_sheet_17 (by decide) (fun h17_12 => ?_) (fun h17_12 => ?_)
      · skip
        have b14x : zB a3 0 16 := by have q1 := b12x; have q2 := (zB.of (x := 0) 0 (by decide)); simp only [z32lt, z32le, z32eq, Int32.reduceToInt, Int32.toInt_zero] at h17_12; constructor <;> omega
        refine z_aload_n (pc := 23) C dX10_sheet_23 rfl ?_
        refine z_getR (pc := 24) C zf_X10_55 rfl rfl (by decide) dX10_sheet_24 ?_
        refine z_iload_n (pc := 27) C dX10_sheet_27 rfl ?_
        refine z_iload_n (pc := 28) C dX10_sheet_28 rfl ?_
        refine z_iast (pc := 29) C rfl (by decide) (zIx b9x (by decide) (by decide)) dX10_sheet_29 ?_
        refine w_mem hI hF (zB.wk (a' := (-1)) (b' := 2) b10x (by decide) (by decide)) rfl (fun g15 hI15 hF15 => ?_)
        refine z_aload_n (pc := 30) C dX10_sheet_30 rfl ?_
        refine z_getR (pc := 31) C zf_X10_58 rfl rfl (by decide) dX10_sheet_31 ?_
        refine z_iload_n (pc := 34) C dX10_sheet_34 rfl ?_
        refine z_iload_n (pc := 35) C dX10_sheet_35 rfl ?_
        refine z_iast (pc := 36) C rfl (by decide) (zIx b9x (by decide) (by decide)) dX10_sheet_36 ?_
        refine w_mem hI15 hF15 b14x rfl (fun g16 hI16 hF16 => ?_)
        refine z_iconst (pc := 37) (v := 0) C dX10_sheet_37 (by decide) ?_
        refine z_istore (pc := 38) C dX10_sheet_38 (by rw [hn]; decide) rfl ?_
        exact J1 b9x b10x b14x 0 (zB.wk (a' := 0) (b' := 16) (zB.of (x := 0) 0 (by decide)) (by decide) (by decide)) g16 hI16 hF16  (by have qc0 : (0 : Int32).toInt = 0 := (by decide); omega)
      · skip
        have b17x : zB a3 (-2147483648) (-1) := by have q1 := b12x; have q2 := (zB.of (x := 0) 0 (by decide)); simp only [z32lt, z32le, z32eq, Int32.reduceToInt, Int32.toInt_zero] at h17_12; constructor <;> omega
        refine z_bipush (pc := 20) (v := -14) C dX10_sheet_20 (by decide) ?_
        exact z_iret (pc := 22) C hr dX10_sheet_22 ⟨⟨_, rfl, (zB.wk (a' := (-14)) (b' := 16) (zB.of (x := (-14)) (-14) (by decide)) (by decide) (by decide))⟩, hI, hF⟩
    · skip
      have b18x : zB a3 17 2147483647 := by have q1 := b3; have q2 := (zB.of (x := 16) 16 (by decide)); simp only [z32lt, z32le, z32eq, Int32.reduceToInt, Int32.toInt_zero] at h11_10; constructor <;> omega
      exact J0  f hI hF  (by omega)
  · skip
    refine z_if_eq (pc := 5) 14 C dX10_sheet_5 (by decide) (fun _ => ?_) (fun h => absurd (by decide) h)
    exact J0  f hI hF  (by omega)

set_option maxRecDepth 100000 in
set_option maxHeartbeats 4000000 in
theorem w_X10_drop (d : Nat) (f : zM) (a1 : Int32) (b1 : zB a1 (-2147483648) 2147483647) (hI : zInv f) : ZM (d + 1) yX10_drop cX10_drop 2 (some .int) [zr 25 0, zi a1] f (fun r g => (∃ v, r = some (zi v) ∧ zB v (-11) 16) ∧ zInv g ∧ zFr [(41, none)] f g) := by
  refine ZM.intro (by decide +kernel) (Nat.le_of_ble_eq_true rfl) ?_
  intro X C hr hn
  have hF : zFr [(41, none)] f f := zFr.rf _ _
  show Z X 0 [some (zr 25 0), some (zi a1)] [] f
  refine z_iload_n (pc := 0) C dX10_drop_0 rfl ?_
  refine z_i2l (pc := 1) C dX10_drop_1 ?_
  refine z_lconst (pc := 2) (v := 0) C dX10_drop_2 (by decide) ?_
  refine z_ldc2 (pc := 3) C zw_1415 dX10_drop_3 ?_
  refine z_callSb (pc := 6) C zk_X10_69 (m_X10_in _ _ _ _ _) rfl rfl (Nat.le_of_ble_eq_true rfl) dX10_drop_6 (fun h6_0 => ?_) (fun h6_0 => ?_)
  · skip
    have b2x : zB a1 0 3 := zin64 h6_0 rfl rfl
    refine z_if_ne (pc := 9) 14 C dX10_drop_9 (by decide) (fun _ => ?_) (fun h => absurd h (by decide))
    refine z_aload_n (pc := 14) C dX10_drop_14 rfl ?_
    refine z_getR (pc := 15) C zf_X10_55 rfl rfl (by decide) dX10_drop_15 ?_
    refine z_iload_n (pc := 18) C dX10_drop_18 rfl ?_
    refine z_iald (pc := 19) C rfl (by decide) (zIx b2x (by decide) (by decide)) dX10_drop_19 ?_
    refine w_gb (-1) 2 (hI 41 _ _) (fun v3 b3x => ?_)
    refine z_if_ge (pc := 20) 26 C dX10_drop_20 (by decide) (fun h20_3 => ?_) (fun h20_3 => ?_)
    · skip
      have b5x : zB v3 0 2 := by have q1 := b3x; have q2 := (zB.of (x := 0) 0 (by decide)); simp only [z32lt, z32le, z32eq, Int32.reduceToInt, Int32.toInt_zero] at h20_3; constructor <;> omega
      refine z_aload_n (pc := 26) C dX10_drop_26 rfl ?_
      refine z_getR (pc := 27) C zf_X10_55 rfl rfl (by decide) dX10_drop_27 ?_
      refine z_iload_n (pc := 30) C dX10_drop_30 rfl ?_
      refine z_iconst (pc := 31) (v := -1) C dX10_drop_31 (by decide) ?_
      refine z_iast (pc := 32) C rfl (by decide) (zIx b2x (by decide) (by decide)) dX10_drop_32 ?_
      refine w_mem hI hF (zB.wk (a' := (-1)) (b' := 2) (zB.of (x := (-1)) (-1) (by decide)) (by decide) (by decide)) rfl (fun g6 hI6 hF6 => ?_)
      refine z_aload_n (pc := 33) C dX10_drop_33 rfl ?_
      refine z_getR (pc := 34) C zf_X10_58 rfl rfl (by decide) dX10_drop_34 ?_
      refine z_iload_n (pc := 37) C dX10_drop_37 rfl ?_
      refine z_iald (pc := 38) C rfl (by decide) (zIx b2x (by decide) (by decide)) dX10_drop_38 ?_
      refine w_gb 0 16 (hI6 42 _ _) (fun v7 b7x => ?_)
      exact z_iret (pc := 39) C hr dX10_drop_39 ⟨⟨_, rfl, (zB.wk (a' := (-11)) (b' := 16) b7x (by decide) (by decide))⟩, hI6, hF6⟩
    · skip
      have b8x : zB v3 (-1) (-1) := by have q1 := b3x; have q2 := (zB.of (x := 0) 0 (by decide)); simp only [z32lt, z32le, z32eq, Int32.reduceToInt, Int32.toInt_zero] at h20_3; constructor <;> omega
      refine z_bipush (pc := 23) (v := -11) C dX10_drop_23 (by decide) ?_
      exact z_iret (pc := 25) C hr dX10_drop_25 ⟨⟨_, rfl, (zB.wk (a' := (-11)) (b' := 16) (zB.of (x := (-11)) (-11) (by decide)) (by decide) (by decide))⟩, hI, hF⟩
  · skip
    refine z_if_ne (pc := 9) 14 C dX10_drop_9 (by decide) (fun h => absurd (by decide) h) (fun _ => ?_)
    refine z_iconst (pc := 12) (v := -1) C dX10_drop_12 (by decide) ?_
    exact z_iret (pc := 13) C hr dX10_drop_13 ⟨⟨_, rfl, (zB.wk (a' := (-11)) (b' := 16) (zB.of (x := (-1)) (-1) (by decide)) (by decide) (by decide))⟩, hI, hF⟩

set_option maxRecDepth 100000 in
set_option maxHeartbeats 4000000 in
theorem w_X10_item (d : Nat) (f : zM) (a1 : Int32) (b1 : zB a1 (-2147483648) 2147483647) (a2 : Int32) (b2 : zB a2 (-2147483648) 2147483647) (a3 : Int32) (b3 : zB a3 (-2147483648) 2147483647) (a4 : Int32) (b4 : zB a4 (-2147483648) 2147483647) (hI : zInv f) : ZM (d + 2) yX10_item cX10_item 6 (some .int) [zr 25 0, zi a1, zi a2, zi a3, zi a4] f (fun r g => (∃ v, r = some (zi v) ∧ zB v (-13) 1) ∧ zInv g ∧ zFr [(43, none)] f g) := by
  refine ZM.intro (by decide +kernel) (Nat.le_of_ble_eq_true rfl) ?_
  intro X C hr hn
  have hF : zFr [(43, none)] f f := zFr.rf _ _
  have J : ∀ t : Nat, (zB a1 0 3 → zB a2 0 2 → zB a3 0 15 → ∀ a71_5 : Int32, zB a71_5 0 0 → ∀ a71_s1 : Int32, zB a71_s1 0 63 → ∀ a71_s2 : Int32, zB a71_s2 (-2147483648) 2147483647 → ∀ g : zM, zInv g → zFr [(43, none)] f g → (0 : Int) < t → Z X 71 [some (zr 25 0), some (zi a1), some (zi a2), some (zi a3), some (zi a4), some (zi a71_5)] [zi a71_s2, zi a71_s1, zr 43 0] g) := by
    intro t
    induction t with
    | zero =>
      intros; exfalso; omega
    | succ t ih =>
      have ih0 := ih
      intro b71_1 b71_2 b71_3 a71_5 b71_5 a71_s1 b71_s1 a71_s2 b71_s2 g71_ hI71_ hF71_ hM71_
      refine z_iast (pc := 71) C rfl (by decide) (zIx b71_s1 (by decide) (by decide)) dX10_item_71 ?_
      refine w_mem hI71_ hF71_ b71_s2 rfl (fun g1 hI1 hF1 => ?_)
      refine z_iconst (pc := 72) (v := 1) C dX10_item_72 (by decide) ?_
      exact z_iret (pc := 73) C hr dX10_item_73 ⟨⟨_, rfl, (zB.wk (a' := (-13)) (b' := 1) (zB.of (x := 1) 1 (by decide)) (by decide) (by decide))⟩, hI1, hF1⟩
  have J0 := J 12
  show Z X 0 [some (zr 25 0), some (zi a1), some (zi a2), some (zi a3), some (zi a4), none] [] f
  refine z_iload_n (pc := 0) C dX10_item_0 rfl ?_
  refine z_iload_n (pc := 1) C dX10_item_1 rfl ?_
  refine z_callSb (pc := 2) C zk_X10_268 (m_X10_isSheet _ _ _ _) rfl rfl (Nat.le_of_ble_eq_true rfl) dX10_item_2 (fun h2_1 => ?_) (fun h2_1 => ?_)
  · skip
    have b3x : zB a1 0 3 := h2_1.1
    have b4x : zB a2 0 2 := h2_1.2
    refine z_if_ne (pc := 5) 10 C dX10_item_5 (by decide) (fun _ => ?_) (fun h => absurd h (by decide))
    refine z_aload_n (pc := 10) C dX10_item_10 rfl ?_
    refine z_iload_n (pc := 11) C dX10_item_11 rfl ?_
    refine z_iload_n (pc := 12) C dX10_item_12 rfl ?_
    refine z_iload_n (pc := 13) C dX10_item_13 rfl ?_
    refine z_iconst (pc := 14) (v := 1) C dX10_item_14 (by decide) ?_
    refine z_callV (pc := 15) C zk_X10_271 (w_X10_lacksRow _ _ a1 b3x a2 b4x a3 b3 1 (zB.wk (a' := 1) (b' := 6) (zB.of (x := 1) 1 (by decide)) (by decide) (by decide)) hI) rfl rfl (by decide) rfl rfl (Nat.le_of_ble_eq_true rfl) dX10_item_15 (fun r5 g5 q5 => ?_)
    have qa5_1 : (1 : Int32).toInt = 1 := by decide
    obtain ⟨⟨v5, rfl, b5x⟩, hI5, hF5q, hp5_0⟩ := q5
    have hp5_0 := hp5_0 _ rfl
    obtain rfl := zFr_nil hF5q
    simp only [Option.toList, List.cons_append, List.nil_append]
    refine z_istore (pc := 18) C dX10_item_18 (by rw [hn]; decide) rfl ?_
    refine z_iload (pc := 20) C dX10_item_20 rfl ?_
    refine z_if_ge (pc := 22) 28 C dX10_item_22 (by decide) (fun h22_5 => ?_) (fun h22_5 => ?_)
    · skip
      have b7x : zB v5 0 0 := by have q1 := b5x; have q2 := (zB.of (x := 0) 0 (by decide)); simp only [z32lt, z32le, z32eq, Int32.reduceToInt, Int32.toInt_zero] at h22_5; constructor <;> omega
      have b8x : zB a3 0 15 := by have qc0 : (1 : Int32).toInt = 1 := (by decide); constructor <;> omega
      refine z_aload_n (pc := 28) C dX10_item_28 rfl ?_
      refine z_getR (pc := 29) C zf_X10_61 rfl rfl (by decide) dX10_item_29 ?_
      refine z_bipush (pc := 32) (v := 16) C dX10_item_32 (by decide) ?_
      refine z_iload_n (pc := 34) C dX10_item_34 rfl ?_
      refine z_imul (pc := 35) C dX10_item_35 ?_
      refine w_gp (fun v => v.toInt = 16 * a1.toInt) (zmul_kb 16 (by decide) (by decide) b3x (by decide) (by decide)) (fun v9 e9 => ?_)
      have b9x : zB v9 0 48 := zmul_bb e9 (by decide) b3x
      refine z_iload_n (pc := 36) C dX10_item_36 rfl ?_
      refine z_iadd (pc := 37) C dX10_item_37 ?_
      refine w_gp (fun v => v.toInt = v9.toInt + a3.toInt) (zadd_eb b9x b8x (by decide) (by decide)) (fun v10 e10 => ?_)
      have b10x : zB v10 0 63 := by have q1 := b9x; have q2 := b8x; constructor <;> omega
      refine z_iload_n (pc := 38) C dX10_item_38 rfl ?_
      refine z_if_ne (pc := 39) 53 C dX10_item_39 (by decide) (fun h39_10 => ?_) (fun h39_10 => ?_)
      · skip
        have b12x : zB a2 1 2 := by have q1 := b4x; have q2 := (zB.of (x := 0) 0 (by decide)); simp only [z32lt, z32le, z32eq, Int32.reduceToInt, Int32.toInt_zero] at h39_10; constructor <;> omega
        refine z_iload_n (pc := 53) C dX10_item_53 rfl ?_
        refine z_iconst (pc := 54) (v := 1) C dX10_item_54 (by decide) ?_
        refine z_icmp_ne (pc := 55) 69 C dX10_item_55 (by decide) (fun h55_12 => ?_) (fun h55_12 => ?_)
        · skip
          have b14x : zB a2 2 2 := by have q1 := b12x; have q2 := (zB.of (x := 1) 1 (by decide)); simp only [z32lt, z32le, z32eq, Int32.reduceToInt, Int32.toInt_zero] at h55_12; constructor <;> omega
          refine z_iload (pc := 69) C dX10_item_69 rfl ?_
          exact J0 b3x (zB.wk (a' := 0) (b' := 2) b14x (by decide) (by decide)) b8x v5 b7x v10 b10x a4 b4 f hI hF  (by omega)
        · skip
          have b15x : zB a2 1 1 := by have q1 := b12x; have q2 := (zB.of (x := 1) 1 (by decide)); simp only [z32lt, z32le, z32eq, Int32.reduceToInt, Int32.toInt_zero] at h55_12; constructor <;> omega
          refine z_iload (pc := 58) C dX10_item_58 rfl ?_
          refine z_bipush (pc := 60) (v := 16) C dX10_item_60 (by decide) ?_
          refine z_ishl (pc := 62) C dX10_item_62 ?_
          refine w_gb (-2147483648) 2147483647 (zB_any _) (fun v16 b16x => ?_)
          refine z_bipush (pc := 63) (v := 16) C dX10_item_63 (by decide) ?_
          refine z_ishr (pc := 65) C dX10_item_65 ?_
          refine w_gb (-2147483648) 2147483647 (zB_any _) (fun v17 b17x => ?_)
          refine z_goto (pc := 66) 71 C dX10_item_66 (by decide) ?_
          exact J0 b3x (zB.wk (a' := 0) (b' := 2) b15x (by decide) (by decide)) b8x v5 b7x v10 b10x v17 b17x f hI hF  (by omega)
      · skip
        have b18x : zB a2 0 0 := by have q1 := b4x; have q2 := (zB.of (x := 0) 0 (by decide)); simp only [z32lt, z32le, z32eq, Int32.reduceToInt, Int32.toInt_zero] at h39_10; constructor <;> omega
        refine z_iload (pc := 42) C dX10_item_42 rfl ?_
        refine z_bipush (pc := 44) (v := 24) C dX10_item_44 (by decide) ?_
        refine z_ishl (pc := 46) C dX10_item_46 ?_
        refine w_gb (-2147483648) 2147483647 (zB_any _) (fun v19 b19x => ?_)
        refine z_bipush (pc := 47) (v := 24) C dX10_item_47 (by decide) ?_
        refine z_ishr (pc := 49) C dX10_item_49 ?_
        refine w_gb (-2147483648) 2147483647 (zB_any _) (fun v20 b20x => ?_)
        refine z_goto (pc := 50) 71 C dX10_item_50 (by decide) ?_
        exact J0 b3x (zB.wk (a' := 0) (b' := 2) b18x (by decide) (by decide)) b8x v5 b7x v10 b10x v20 b20x f hI hF  (by omega)
    · skip
      have b21x : zB v5 (-13) (-1) := by have q1 := b5x; have q2 := (zB.of (x := 0) 0 (by decide)); simp only [z32lt, z32le, z32eq, Int32.reduceToInt, Int32.toInt_zero] at h22_5; constructor <;> omega
      refine z_iload (pc := 25) C dX10_item_25 rfl ?_
      exact z_iret (pc := 27) C hr dX10_item_27 ⟨⟨_, rfl, (zB.wk (a' := (-13)) (b' := 1) b21x (by decide) (by decide))⟩, hI, hF⟩
  · skip
    refine z_if_ne (pc := 5) 10 C dX10_item_5 (by decide) (fun h => absurd (by decide) h) (fun _ => ?_)
    refine z_iconst (pc := 8) (v := -1) C dX10_item_8 (by decide) ?_
    exact z_iret (pc := 9) C hr dX10_item_9 ⟨⟨_, rfl, (zB.wk (a' := (-13)) (b' := 1) (zB.of (x := (-1)) (-1) (by decide)) (by decide) (by decide))⟩, hI, hF⟩
