set_option maxRecDepth 100000 in
set_option maxHeartbeats 4000000 in
theorem w_J6_bitCount_0f7a4 (d : Nat) (f : zM) (a0 : Int32) (b0 : zB a0 (-2147483648) 2147483647) (hI : zInv f) : ZM d yJ6_bitCount_0f7a4 cJ6_bitCount_0f7a4 1 (some .int) [zi a0] f (fun r g => (∃ v, r = some (zi v) ∧ zB v 0 63) ∧ zInv g ∧ zFr [] f g) := by
  refine ZM.intro (by decide +kernel) (Nat.le_of_ble_eq_true rfl) ?_
  intro X C hr hn
  have hF : zFr [] f f := zFr.rf _ _
  show Z X 0 [some (zi a0)] [] f
  refine z_iload_n (pc := 0) C dJ6_bitCount_0f7a4_0 rfl ?_
  refine z_iload_n (pc := 1) C dJ6_bitCount_0f7a4_1 rfl ?_
  refine z_iconst (pc := 2) (v := 1) C dJ6_bitCount_0f7a4_2 (by decide) ?_
  refine z_iushr (pc := 3) C dJ6_bitCount_0f7a4_3 ?_
  refine w_gb (-2147483648) 2147483647 (zB_any _) (fun v1 b1x => ?_)
  refine z_ldcw (pc := 4) C zw_939 dJ6_bitCount_0f7a4_4 ?_
  refine z_iand (pc := 7) C dJ6_bitCount_0f7a4_7 ?_
  refine w_gb 0 1431655765 (zand_b b1x (zB.of (x := 1431655765) 1431655765 (by decide)) (by decide)) (fun v2 b2x => ?_)
  refine z_isub (pc := 8) C dJ6_bitCount_0f7a4_8 ?_
  refine w_gb (-2147483648) 2147483647 (zB_any _) (fun v3 b3x => ?_)
  refine z_istore_n (pc := 9) C dJ6_bitCount_0f7a4_9 (by rw [hn]; decide) rfl ?_
  refine z_iload_n (pc := 10) C dJ6_bitCount_0f7a4_10 rfl ?_
  refine z_ldcw (pc := 11) C zw_940 dJ6_bitCount_0f7a4_11 ?_
  refine z_iand (pc := 14) C dJ6_bitCount_0f7a4_14 ?_
  refine w_gb 0 858993459 (zand_b b3x (zB.of (x := 858993459) 858993459 (by decide)) (by decide)) (fun v4 b4x => ?_)
  refine z_iload_n (pc := 15) C dJ6_bitCount_0f7a4_15 rfl ?_
  refine z_iconst (pc := 16) (v := 2) C dJ6_bitCount_0f7a4_16 (by decide) ?_
  refine z_iushr (pc := 17) C dJ6_bitCount_0f7a4_17 ?_
  refine w_gb (-2147483648) 2147483647 (zB_any _) (fun v5 b5x => ?_)
  refine z_ldcw (pc := 18) C zw_940 dJ6_bitCount_0f7a4_18 ?_
  refine z_iand (pc := 21) C dJ6_bitCount_0f7a4_21 ?_
  refine w_gb 0 858993459 (zand_b b5x (zB.of (x := 858993459) 858993459 (by decide)) (by decide)) (fun v6 b6x => ?_)
  refine z_iadd (pc := 22) C dJ6_bitCount_0f7a4_22 ?_
  refine w_gp (fun v => v.toInt = v4.toInt + v6.toInt) (zadd_eb b4x b6x (by decide) (by decide)) (fun v7 e7 => ?_)
  have b7x : zB v7 0 1717986918 := by have q1 := b4x; have q2 := b6x; constructor <;> omega
  refine z_istore_n (pc := 23) C dJ6_bitCount_0f7a4_23 (by rw [hn]; decide) rfl ?_
  refine z_iload_n (pc := 24) C dJ6_bitCount_0f7a4_24 rfl ?_
  refine z_iload_n (pc := 25) C dJ6_bitCount_0f7a4_25 rfl ?_
  refine z_iconst (pc := 26) (v := 4) C dJ6_bitCount_0f7a4_26 (by decide) ?_
  refine z_iushr (pc := 27) C dJ6_bitCount_0f7a4_27 ?_
  refine w_gb (-2147483648) 2147483647 (zB_any _) (fun v8 b8x => ?_)
  refine z_iadd (pc := 28) C dJ6_bitCount_0f7a4_28 ?_
  refine w_gb (-2147483648) 2147483647 (zB_any _) (fun v9 b9x => ?_)
  refine z_ldcw (pc := 29) C zw_941 dJ6_bitCount_0f7a4_29 ?_
  refine z_iand (pc := 32) C dJ6_bitCount_0f7a4_32 ?_
  refine w_gb 0 252645135 (zand_b b9x (zB.of (x := 252645135) 252645135 (by decide)) (by decide)) (fun v10 b10x => ?_)
  refine z_istore_n (pc := 33) C dJ6_bitCount_0f7a4_33 (by rw [hn]; decide) rfl ?_
  refine z_iload_n (pc := 34) C dJ6_bitCount_0f7a4_34 rfl ?_
  refine z_iload_n (pc := 35) C dJ6_bitCount_0f7a4_35 rfl ?_
  refine z_bipush (pc := 36) (v := 8) C dJ6_bitCount_0f7a4_36 (by decide) ?_
  refine z_iushr (pc := 38) C dJ6_bitCount_0f7a4_38 ?_
  refine w_gb (-2147483648) 2147483647 (zB_any _) (fun v11 b11x => ?_)
  refine z_iadd (pc := 39) C dJ6_bitCount_0f7a4_39 ?_
  refine w_gb (-2147483648) 2147483647 (zB_any _) (fun v12 b12x => ?_)
  refine z_istore_n (pc := 40) C dJ6_bitCount_0f7a4_40 (by rw [hn]; decide) rfl ?_
  refine z_iload_n (pc := 41) C dJ6_bitCount_0f7a4_41 rfl ?_
  refine z_iload_n (pc := 42) C dJ6_bitCount_0f7a4_42 rfl ?_
  refine z_bipush (pc := 43) (v := 16) C dJ6_bitCount_0f7a4_43 (by decide) ?_
  refine z_iushr (pc := 45) C dJ6_bitCount_0f7a4_45 ?_
  refine w_gb (-2147483648) 2147483647 (zB_any _) (fun v13 b13x => ?_)
  refine z_iadd (pc := 46) C dJ6_bitCount_0f7a4_46 ?_
  refine w_gb (-2147483648) 2147483647 (zB_any _) (fun v14 b14x => ?_)
  refine z_istore_n (pc := 47) C dJ6_bitCount_0f7a4_47 (by rw [hn]; decide) rfl ?_
  refine z_iload_n (pc := 48) C dJ6_bitCount_0f7a4_48 rfl ?_
  refine z_bipush (pc := 49) (v := 63) C dJ6_bitCount_0f7a4_49 (by decide) ?_
  refine z_iand (pc := 51) C dJ6_bitCount_0f7a4_51 ?_
  refine w_gb 0 63 (zand_b b14x (zB.of (x := 63) 63 (by decide)) (by decide)) (fun v15 b15x => ?_)
  exact z_iret (pc := 52) C hr dJ6_bitCount_0f7a4_52 ⟨⟨_, rfl, b15x⟩, hI, hF⟩

set_option maxRecDepth 100000 in
set_option maxHeartbeats 4000000 in
theorem w_X5_relax (d : Nat) (f : zM) (a1 : Int32) (b1 : zB a1 0 2000) (a2 : Int32) (b2 : zB a2 0 7) (hI : zInv f) : ZM (d + 2) yX5_relax cX5_relax 7 (some .boolean) [zr 13 0, zi a1, zi a2] f (fun r g => (∃ v, r = some (zi v) ∧ zB v 0 1) ∧ zInv g ∧ zFr [(17, none)] f g) := by
  refine ZM.intro (by decide +kernel) (Nat.le_of_ble_eq_true rfl) ?_
  intro X C hr hn
  have hF : zFr [(17, none)] f f := zFr.rf _ _
  have J : ∀ t : Nat, (∀ a5_3 : Int32, zB a5_3 0 1 → ∀ a5_4 : Int32, zB a5_4 0 12 → ∀ g : zM, zInv g → zFr [(17, none)] f g → (1 + 4 * (12 - a5_4.toInt) : Int) < t → Z X 5 [some (zr 13 0), some (zi a1), some (zi a2), some (zi a5_3), some (zi a5_4), none, none] [] g) ∧ (∀ a89_3 : Int32, zB a89_3 0 1 → ∀ a89_4 : Int32, zB a89_4 0 11 → ∀ m89_5 : Nat, m89_5 < zcnt 11 → ∀ a89_6 : Int32, zB a89_6 0 2063 → ∀ g : zM, zInv g → zFr [(17, none)] f g → (0 + 4 * (12 - a89_4.toInt) : Int) < t → Z X 89 [some (zr 13 0), some (zi a1), some (zi a2), some (zi a89_3), some (zi a89_4), some (zr 11 m89_5), some (zi a89_6)] [] g) := by
    intro t
    induction t with
    | zero =>
      refine ⟨?_, ?_⟩ <;> (intros; exfalso; omega)
    | succ t ih =>
      obtain ⟨ih0, ih1⟩ := ih
      refine ⟨?_, ?_⟩
      · skip
        intro a5_3 b5_3 a5_4 b5_4 g5_ hI5_ hF5_ hM5_
        refine z_iload (pc := 5) C dX5_relax_5 rfl ?_
        refine z_aload_n (pc := 7) C dX5_relax_7 rfl ?_
        refine z_getR (pc := 8) C zf_X5_31 rfl rfl (by decide) dX5_relax_8 ?_
        refine z_getI (pc := 11) C zf_X5_76 rfl rfl (by decide) dX5_relax_11 ?_
        refine w_gb 0 12 (hI5_ 1 _ 7) (fun v1 b1x => ?_)
        refine z_icmp_ge (pc := 14) 95 C dX5_relax_14 (by decide) (fun h14_1 => ?_) (fun h14_1 => ?_)
        · skip
          refine z_iload_n (pc := 95) C dX5_relax_95 rfl ?_
          exact z_zret (pc := 96) C hr (z01 b5_3) dX5_relax_96 ⟨⟨_, rfl, b5_3⟩, hI5_, hF5_⟩
        · skip
          have b3x : zB a5_4 0 11 := by have q1 := b5_4; have q2 := b1x; simp only [z32lt, z32le, z32eq, Int32.reduceToInt, Int32.toInt_zero] at h14_1; constructor <;> omega
          have b4x : zB v1 1 12 := by have q1 := b5_4; have q2 := b1x; simp only [z32lt, z32le, z32eq, Int32.reduceToInt, Int32.toInt_zero] at h14_1; constructor <;> omega
          refine z_aload_n (pc := 17) C dX5_relax_17 rfl ?_
          refine z_getR (pc := 18) C zf_X5_31 rfl rfl (by decide) dX5_relax_18 ?_
          refine z_getR (pc := 21) C zf_X5_68 rfl rfl (by decide) dX5_relax_21 ?_
          refine z_iload (pc := 24) C dX5_relax_24 rfl ?_
          refine z_aald (pc := 26) C rfl ⟨rfl, by decide⟩ (by decide) (zIx b3x (by decide) (by decide)) dX5_relax_26 ?_
          refine w_gr (by have hq := zN b3x (by decide); show 12 * 0 + a5_4.toNatClampNeg < 36; omega) (fun m5 h5x => ?_)
          refine z_astore (pc := 27) C dX5_relax_27 (by rw [hn]; decide) rfl ?_
          refine z_iload_n (pc := 29) C dX5_relax_29 rfl ?_
          refine z_aload_n (pc := 30) C dX5_relax_30 rfl ?_
          refine z_getR (pc := 31) C zf_X5_31 rfl rfl (by decide) dX5_relax_31 ?_
          refine z_aload (pc := 34) C dX5_relax_34 rfl ?_
          refine z_aload_n (pc := 36) C dX5_relax_36 rfl ?_
          refine z_getR (pc := 37) C zf_X5_31 rfl rfl (by decide) dX5_relax_37 ?_
          refine z_getR (pc := 40) C zf_X5_111 rfl rfl (by decide) dX5_relax_40 ?_
          refine z_iload_n (pc := 43) C dX5_relax_43 rfl ?_
          refine z_aald (pc := 44) C rfl ⟨rfl, by decide⟩ (by decide) (zIx b2 (by decide) (by decide)) dX5_relax_44 ?_
          refine w_gr (by have hq := zN b2 (by decide); show 8 * 0 + a2.toNatClampNeg < 16; omega) (fun m6 h6x => ?_)
          refine z_callV (pc := 45) C zk_X5_124 (w_X8_barsAgainst _ _ m5 h5x m6 h6x hI5_) rfl rfl (by decide) rfl rfl (Nat.le_of_ble_eq_true rfl) dX5_relax_45 (fun r7 g7 q7 => ?_)
          obtain ⟨⟨v7, rfl, b7x⟩, hI7, hF7q⟩ := q7
          obtain rfl := zFr_nil hF7q
          simp only [Option.toList, List.cons_append, List.nil_append]
          refine z_callS (pc := 48) C zk_X5_128 (w_J6_bitCount_0f7a4 _ _ v7 (zB.wk (a' := (-2147483648)) (b' := 2147483647) b7x (by decide) (by decide)) hI5_) rfl rfl (Nat.le_of_ble_eq_true rfl) dX5_relax_48 (fun r8 g8 q8 => ?_)
          obtain ⟨⟨v8, rfl, b8x⟩, hI8, hF8q⟩ := q8
          obtain rfl := zFr_nil hF8q
          simp only [Option.toList, List.cons_append, List.nil_append]
          refine z_iadd (pc := 51) C dX5_relax_51 ?_
          refine w_gp (fun v => v.toInt = a1.toInt + v8.toInt) (zadd_eb b1 b8x (by decide) (by decide)) (fun v9 e9 => ?_)
          have b9x : zB v9 0 2063 := by have q1 := b1; have q2 := b8x; constructor <;> omega
          refine z_istore (pc := 52) C dX5_relax_52 (by rw [hn]; decide) rfl ?_
          refine z_iload (pc := 54) C dX5_relax_54 rfl ?_
          refine z_aload_n (pc := 56) C dX5_relax_56 rfl ?_
          refine z_getR (pc := 57) C zf_X5_28 rfl rfl (by decide) dX5_relax_57 ?_
          refine z_iload (pc := 60) C dX5_relax_60 rfl ?_
          refine z_iald (pc := 62) C rfl (by decide) (zIx b3x (by decide) (by decide)) dX5_relax_62 ?_
          refine w_gb 0 2000 (hI5_ 17 _ _) (fun v10 b10x => ?_)
          refine z_icmp_ge (pc := 63) 89 C dX5_relax_63 (by decide) (fun h63_10 => ?_) (fun h63_10 => ?_)
          · skip
            exact ih1 a5_3 b5_3 a5_4 b3x m5 h5x v9 b9x g5_ hI5_ hF5_  (by omega)
          · skip
            have b12x : zB v9 0 1999 := by have q1 := b9x; have q2 := b10x; simp only [z32lt, z32le, z32eq, Int32.reduceToInt, Int32.toInt_zero] at h63_10; constructor <;> omega
            have b13x : zB v10 1 2000 := by have q1 := b9x; have q2 := b10x; simp only [z32lt, z32le, z32eq, Int32.reduceToInt, Int32.toInt_zero] at h63_10; constructor <;> omega
            refine z_aload_n (pc := 66) C dX5_relax_66 rfl ?_
            refine z_getR (pc := 67) C zf_X5_12 rfl rfl (by decide) dX5_relax_67 ?_
            refine z_aload (pc := 70) C dX5_relax_70 rfl ?_
            refine z_callV (pc := 72) C zk_X5_79 (w_X3_goesBy _ _ 2 (by decide) m5 h5x hI5_) rfl rfl (by decide) rfl rfl (Nat.le_of_ble_eq_true rfl) dX5_relax_72 (fun r14 g14 q14 => ?_)
            obtain ⟨⟨v14, rfl, b14x⟩, hI14, hF14q⟩ := q14
            obtain rfl := zFr_nil hF14q
            simp only [Option.toList, List.cons_append, List.nil_append]
            refine z_if_eq (pc := 75) 89 C dX5_relax_75 (by decide) (fun h75_14 => ?_) (fun h75_14 => ?_)
            · skip
              have b16x : zB v14 0 0 := by have q1 := b14x; have q2 := (zB.of (x := 0) 0 (by decide)); simp only [z32lt, z32le, z32eq, Int32.reduceToInt, Int32.toInt_zero] at h75_14; constructor <;> omega
              exact ih1 a5_3 b5_3 a5_4 b3x m5 h5x v9 (zB.wk (a' := 0) (b' := 2063) b12x (by decide) (by decide)) g5_ hI5_ hF5_  (by omega)
            · skip
              have b17x : zB v14 1 255 := by have q1 := b14x; have q2 := (zB.of (x := 0) 0 (by decide)); simp only [z32lt, z32le, z32eq, Int32.reduceToInt, Int32.toInt_zero] at h75_14; constructor <;> omega
              refine z_aload_n (pc := 78) C dX5_relax_78 rfl ?_
              refine z_getR (pc := 79) C zf_X5_28 rfl rfl (by decide) dX5_relax_79 ?_
              refine z_iload (pc := 82) C dX5_relax_82 rfl ?_
              refine z_iload (pc := 84) C dX5_relax_84 rfl ?_
              refine z_iast (pc := 86) C rfl (by decide) (zIx b3x (by decide) (by decide)) dX5_relax_86 ?_
              refine w_mem hI5_ hF5_ (zB.wk (a' := 0) (b' := 2000) b12x (by decide) (by decide)) rfl (fun g18 hI18 hF18 => ?_)
              refine z_iconst (pc := 87) (v := 1) C dX5_relax_87 (by decide) ?_
              refine z_istore_n (pc := 88) C dX5_relax_88 (by rw [hn]; decide) rfl ?_
              exact ih1 1 (zB.wk (a' := 0) (b' := 1) (zB.of (x := 1) 1 (by decide)) (by decide) (by decide)) a5_4 b3x m5 h5x v9 (zB.wk (a' := 0) (b' := 2063) b12x (by decide) (by decide)) g18 hI18 hF18  (by have qc0 : (1 : Int32).toInt = 1 := (by decide); omega)
      · skip
        intro a89_3 b89_3 a89_4 b89_4 m89_5 h89_5 a89_6 b89_6 g89_ hI89_ hF89_ hM89_
        refine z_iinc (pc := 89) (v := 1) C dX5_relax_89 rfl (by decide) (by rw [hn]; decide) rfl ?_
        obtain ⟨v19, hv19, e19⟩ : ∃ v : Int32, v = a89_4 + 1 ∧ v.toInt = a89_4.toInt + 1 := ⟨_, rfl, zadd_eb b89_4 (zB.of (x := 1) 1 (by decide)) (by decide) (by decide)⟩
        rw [← hv19]
        have b19x : zB v19 1 12 := by have q9 := b89_4; constructor <;> omega
        refine z_goto (pc := 92) 5 C dX5_relax_92 (by decide) ?_
        refine w_mask [5, 6] ?_
        exact ih0 a89_3 b89_3 v19 (zB.wk (a' := 0) (b' := 12) b19x (by decide) (by decide)) g89_ hI89_ hF89_  (by omega)
  obtain ⟨J0, J1⟩ := J 65
  show Z X 0 [some (zr 13 0), some (zi a1), some (zi a2), none, none, none, none] [] f
  refine z_iconst (pc := 0) (v := 0) C dX5_relax_0 (by decide) ?_
  refine z_istore_n (pc := 1) C dX5_relax_1 (by rw [hn]; decide) rfl ?_
  refine z_iconst (pc := 2) (v := 0) C dX5_relax_2 (by decide) ?_
  refine z_istore (pc := 3) C dX5_relax_3 (by rw [hn]; decide) rfl ?_
  exact J0 0 (zB.wk (a' := 0) (b' := 1) (zB.of (x := 0) 0 (by decide)) (by decide) (by decide)) 0 (zB.wk (a' := 0) (b' := 12) (zB.of (x := 0) 0 (by decide)) (by decide) (by decide)) f hI hF  (by have qc0 : (0 : Int32).toInt = 0 := (by decide); omega)

set_option maxRecDepth 100000 in
set_option maxHeartbeats 4000000 in
theorem w_X5_fewestBars (d : Nat) (f : zM) (a1 : Int32) (b1 : zB a1 0 5) (a2 : Int32) (b2 : zB a2 0 7) (hI : zInv f) : ZM (d + 3) yX5_fewestBars cX5_fewestBars 6 (some .int) [zr 13 0, zi a1, zi a2] f (fun r g => (∃ v, r = some (zi v) ∧ zB v (-4) 999) ∧ zInv g ∧ zFr [(6, some 1), (6, some 4), (6, some 5), (6, some 6), (17, none)] f g) := by
  refine ZM.intro (by decide +kernel) (Nat.le_of_ble_eq_true rfl) ?_
  intro X C hr hn
  have hF : zFr [(6, some 1), (6, some 4), (6, some 5), (6, some 6), (17, none)] f f := zFr.rf _ _
  have J : ∀ t : Nat, (∀ g : zM, zInv g → zFr [(6, some 1), (6, some 4), (6, some 5), (6, some 6), (17, none)] f g → (41157 : Int) < t → Z X 45 [some (zr 13 0), some (zi a1), some (zi a2), none, none, none] [] g) ∧ (∀ a67_3 : Int32, zB a67_3 0 1 → ∀ a67_4 : Int32, zB a67_4 0 12 → ∀ g : zM, zInv g → zFr [(6, some 1), (6, some 4), (6, some 5), (6, some 6), (17, none)] f g → (2936 + 2940 * (12 - a67_4.toInt) : Int) < t → Z X 67 [some (zr 13 0), some (zi a1), some (zi a2), some (zi a67_3), some (zi a67_4), none] [] g) ∧ (∀ a88_3 : Int32, zB a88_3 0 1 → ∀ a88_4 : Int32, zB a88_4 0 11 → ∀ a88_5 : Int32, zB a88_5 0 12 → ∀ g : zM, zInv g → zFr [(6, some 1), (6, some 4), (6, some 5), (6, some 6), (17, none)] f g → (205 + 210 * (12 - a88_5.toInt) + 2940 * (12 - a88_4.toInt) : Int) < t → Z X 88 [some (zr 13 0), some (zi a1), some (zi a2), some (zi a88_3), some (zi a88_4), some (zi a88_5)] [] g) ∧ (∀ a152_3 : Int32, zB a152_3 0 1 → ∀ a152_4 : Int32, zB a152_4 0 11 → ∀ a152_5 : Int32, zB a152_5 0 11 → ∀ g : zM, zInv g → zFr [(6, some 1), (6, some 4), (6, some 5), (6, some 6), (17, none)] f g → (204 + 210 * (12 - a152_5.toInt) + 2940 * (12 - a152_4.toInt) : Int) < t → Z X 152 [some (zr 13 0), some (zi a1), some (zi a2), some (zi a152_3), some (zi a152_4), some (zi a152_5)] [] g) ∧ (∀ a157_3 : Int32, zB a157_3 0 1 → ∀ a157_4 : Int32, zB a157_4 0 11 → ∀ a157_5 : Int32, zB a157_5 0 11 → ∀ a157_s0 : Int32, zB a157_s0 0 1 → ∀ g : zM, zInv g → zFr [(6, some 1), (6, some 4), (6, some 5), (6, some 6), (17, none)] f g → (203 + 210 * (12 - a157_5.toInt) + 2940 * (12 - a157_4.toInt) : Int) < t → Z X 157 [some (zr 13 0), some (zi a1), some (zi a2), some (zi a157_3), some (zi a157_4), some (zi a157_5)] [zi a157_s0] g) ∧ (∀ a158_3 : Int32, zB a158_3 0 1 → ∀ a158_4 : Int32, zB a158_4 0 11 → ∀ a158_5 : Int32, zB a158_5 0 11 → ∀ g : zM, zInv g → zFr [(6, some 1), (6, some 4), (6, some 5), (6, some 6), (17, none)] f g → (202 + 210 * (12 - a158_5.toInt) + 2940 * (12 - a158_4.toInt) : Int) < t → Z X 158 [some (zr 13 0), some (zi a1), some (zi a2), some (zi a158_3), some (zi a158_4), some (zi a158_5)] [] g) ∧ (∀ a170_3 : Int32, zB a170_3 0 1 → ∀ a170_4 : Int32, zB a170_4 0 12 → ∀ g : zM, zInv g → zFr [(6, some 1), (6, some 4), (6, some 5), (6, some 6), (17, none)] f g → (201 : Int) < t → Z X 170 [some (zr 13 0), some (zi a1), some (zi a2), some (zi a170_3), some (zi a170_4), none] [] g) ∧ (∀ a178_3 : Int32, zB a178_3 0 1 → ∀ a178_4 : Int32, zB a178_4 0 1000 → ∀ a178_5 : Int32, zB a178_5 0 12 → ∀ g : zM, zInv g → zFr [(6, some 1), (6, some 4), (6, some 5), (6, some 6), (17, none)] f g → (5 + 15 * (12 - a178_5.toInt) : Int) < t → Z X 178 [some (zr 13 0), some (zi a1), some (zi a2), some (zi a178_3), some (zi a178_4), some (zi a178_5)] [] g) ∧ (∀ a224_3 : Int32, zB a224_3 0 1 → ∀ a224_4 : Int32, zB a224_4 0 1000 → ∀ a224_5 : Int32, zB a224_5 0 11 → ∀ a224_s0 : Int32, zB a224_s0 0 1000 → ∀ g : zM, zInv g → zFr [(6, some 1), (6, some 4), (6, some 5), (6, some 6), (17, none)] f g → (4 + 15 * (12 - a224_5.toInt) : Int) < t → Z X 224 [some (zr 13 0), some (zi a1), some (zi a2), some (zi a224_3), some (zi a224_4), some (zi a224_5)] [zi a224_s0] g) ∧ (∀ a267_3 : Int32, zB a267_3 0 1 → ∀ a267_4 : Int32, zB a267_4 0 1000 → ∀ a267_5 : Int32, zB a267_5 0 12 → ∀ g : zM, zInv g → zFr [(6, some 1), (6, some 4), (6, some 5), (6, some 6), (17, none)] f g → (3 : Int) < t → Z X 267 [some (zr 13 0), some (zi a1), some (zi a2), some (zi a267_3), some (zi a267_4), some (zi a267_5)] [] g) ∧ (∀ a268_3 : Int32, zB a268_3 0 1 → ∀ a268_4 : Int32, zB a268_4 0 1000 → ∀ a268_5 : Int32, zB a268_5 0 12 → ∀ a268_s0 : Int32, zB a268_s0 0 1 → ∀ g : zM, zInv g → zFr [(6, some 1), (6, some 4), (6, some 5), (6, some 6), (17, none)] f g → (2 : Int) < t → Z X 268 [some (zr 13 0), some (zi a1), some (zi a2), some (zi a268_3), some (zi a268_4), some (zi a268_5)] [zi a268_s0] g) ∧ (∀ a288_3 : Int32, zB a288_3 0 1 → ∀ a288_4 : Int32, zB a288_4 0 1000 → ∀ a288_5 : Int32, zB a288_5 0 1 → ∀ g : zM, zInv g → zFr [(6, some 1), (6, some 4), (6, some 5), (6, some 6), (17, none)] f g → (1 : Int) < t → Z X 288 [some (zr 13 0), some (zi a1), some (zi a2), some (zi a288_3), some (zi a288_4), some (zi a288_5)] [] g) ∧ (∀ a290_3 : Int32, zB a290_3 0 1 → ∀ a290_4 : Int32, zB a290_4 0 1000 → ∀ a290_5 : Int32, zB a290_5 0 1 → ∀ a290_s0 : Int32, zB a290_s0 (-4) 999 → ∀ g : zM, zInv g → zFr [(6, some 1), (6, some 4), (6, some 5), (6, some 6), (17, none)] f g → (0 : Int) < t → Z X 290 [some (zr 13 0), some (zi a1), some (zi a2), some (zi a290_3), some (zi a290_4), some (zi a290_5)] [zi a290_s0] g) := by
    intro t
    induction t with
    | zero =>
      refine ⟨?_, ?_, ?_, ?_, ?_, ?_, ?_, ?_, ?_, ?_, ?_, ?_, ?_⟩ <;> (intros; exfalso; omega)
    | succ t ih =>
      obtain ⟨ih0, ih1, ih2, ih3, ih4, ih5, ih6, ih7, ih8, ih9, ih10, ih11, ih12⟩ := ih
      refine ⟨?_, ?_, ?_, ?_, ?_, ?_, ?_, ?_, ?_, ?_, ?_, ?_, ?_⟩
      · skip
        intro g45_ hI45_ hF45_ hM45_
        refine z_aload_n (pc := 45) C dX5_fewestBars_45 rfl ?_
        refine z_getR (pc := 46) C zf_X5_28 rfl rfl (by decide) dX5_fewestBars_46 ?_
        refine z_sipush (pc := 49) (v := 1000) C dX5_fewestBars_49 (by decide) ?_
        refine z_callSx (pc := 52) C zk_X5_92 (m_fill _ _ 17 0 12 1000 (by decide) rfl (by decide)) rfl rfl (Nat.le_of_ble_eq_true rfl) dX5_fewestBars_52 ?_
        simp only [Option.toList, List.cons_append, List.nil_append]
        refine w_fill hI45_ hF45_ (fun j => (zB.wk (a' := 0) (b' := 2000) (zB.of (x := 1000) 1000 (by decide)) (by decide) (by decide))) (fun j => rfl) (fun g1 hI1 hF1 => ?_)
        refine z_aload_n (pc := 55) C dX5_fewestBars_55 rfl ?_
        refine z_iconst (pc := 56) (v := 0) C dX5_fewestBars_56 (by decide) ?_
        refine z_iload_n (pc := 57) C dX5_fewestBars_57 rfl ?_
        refine z_callV (pc := 58) C zk_X5_98 (w_X5_relax _ _ 0 (zB.wk (a' := 0) (b' := 2000) (zB.of (x := 0) 0 (by decide)) (by decide) (by decide)) a2 b2 hI1) rfl rfl (by decide) rfl rfl (Nat.le_of_ble_eq_true rfl) dX5_fewestBars_58 (fun r2 g2 q2 => ?_)
        obtain ⟨⟨v2, rfl, b2x⟩, hI2, hF2q⟩ := q2
        have hF2 := zFr.tr hF1 hF2q (by decide)
        simp only [Option.toList, List.cons_append, List.nil_append]
        refine z_pop (pc := 61) C dX5_fewestBars_61 ?_
        refine z_iconst (pc := 62) (v := 1) C dX5_fewestBars_62 (by decide) ?_
        refine z_istore_n (pc := 63) C dX5_fewestBars_63 (by rw [hn]; decide) rfl ?_
        refine z_iconst (pc := 64) (v := 0) C dX5_fewestBars_64 (by decide) ?_
        refine z_istore (pc := 65) C dX5_fewestBars_65 (by rw [hn]; decide) rfl ?_
        exact ih1 1 (zB.wk (a' := 0) (b' := 1) (zB.of (x := 1) 1 (by decide)) (by decide) (by decide)) 0 (zB.wk (a' := 0) (b' := 12) (zB.of (x := 0) 0 (by decide)) (by decide) (by decide)) g2 hI2 hF2  (by have qc0 : (0 : Int32).toInt = 0 := (by decide); have qc1 : (1 : Int32).toInt = 1 := (by decide); omega)
      · skip
        intro a67_3 b67_3 a67_4 b67_4 g67_ hI67_ hF67_ hM67_
        refine z_iload_n (pc := 67) C dX5_fewestBars_67 rfl ?_
        refine z_if_eq (pc := 68) 170 C dX5_fewestBars_68 (by decide) (fun h68_2 => ?_) (fun h68_2 => ?_)
        · skip
          have b4x : zB a67_3 0 0 := by have q1 := b67_3; have q2 := (zB.of (x := 0) 0 (by decide)); simp only [z32lt, z32le, z32eq, Int32.reduceToInt, Int32.toInt_zero] at h68_2; constructor <;> omega
          exact ih6 a67_3 (zB.wk (a' := 0) (b' := 1) b4x (by decide) (by decide)) a67_4 b67_4 g67_ hI67_ hF67_  (by omega)
        · skip
          have b5x : zB a67_3 1 1 := by have q1 := b67_3; have q2 := (zB.of (x := 0) 0 (by decide)); simp only [z32lt, z32le, z32eq, Int32.reduceToInt, Int32.toInt_zero] at h68_2; constructor <;> omega
          refine z_iload (pc := 71) C dX5_fewestBars_71 rfl ?_
          refine z_aload_n (pc := 73) C dX5_fewestBars_73 rfl ?_
          refine z_getR (pc := 74) C zf_X5_31 rfl rfl (by decide) dX5_fewestBars_74 ?_
          refine z_getI (pc := 77) C zf_X5_76 rfl rfl (by decide) dX5_fewestBars_77 ?_
          refine w_gb 0 12 (hI67_ 1 _ 7) (fun v6 b6x => ?_)
          refine z_icmp_ge (pc := 80) 170 C dX5_fewestBars_80 (by decide) (fun h80_6 => ?_) (fun h80_6 => ?_)
          · skip
            exact ih6 a67_3 (zB.wk (a' := 0) (b' := 1) b5x (by decide) (by decide)) a67_4 b67_4 g67_ hI67_ hF67_  (by omega)
          · skip
            have b8x : zB a67_4 0 11 := by have q1 := b67_4; have q2 := b6x; simp only [z32lt, z32le, z32eq, Int32.reduceToInt, Int32.toInt_zero] at h80_6; constructor <;> omega
            have b9x : zB v6 1 12 := by have q1 := b67_4; have q2 := b6x; simp only [z32lt, z32le, z32eq, Int32.reduceToInt, Int32.toInt_zero] at h80_6; constructor <;> omega
            refine z_iconst (pc := 83) (v := 0) C dX5_fewestBars_83 (by decide) ?_
            refine z_istore_n (pc := 84) C dX5_fewestBars_84 (by rw [hn]; decide) rfl ?_
            refine z_iconst (pc := 85) (v := 0) C dX5_fewestBars_85 (by decide) ?_
            refine z_istore (pc := 86) C dX5_fewestBars_86 (by rw [hn]; decide) rfl ?_
            exact ih2 0 (zB.wk (a' := 0) (b' := 1) (zB.of (x := 0) 0 (by decide)) (by decide) (by decide)) a67_4 b8x 0 (zB.wk (a' := 0) (b' := 12) (zB.of (x := 0) 0 (by decide)) (by decide) (by decide)) g67_ hI67_ hF67_  (by have qc0 : (0 : Int32).toInt = 0 := (by decide); omega)
      · skip
        intro a88_3 b88_3 a88_4 b88_4 a88_5 b88_5 g88_ hI88_ hF88_ hM88_
        refine z_iload (pc := 88) C dX5_fewestBars_88 rfl ?_
        refine z_aload_n (pc := 90) C dX5_fewestBars_90 rfl ?_
        refine z_getR (pc := 91) C zf_X5_31 rfl rfl (by decide) dX5_fewestBars_91 ?_
        refine z_getI (pc := 94) C zf_X5_76 rfl rfl (by decide) dX5_fewestBars_94 ?_
        refine w_gb 0 12 (hI88_ 1 _ 7) (fun v10 b10x => ?_)
        refine z_icmp_ge (pc := 97) 164 C dX5_fewestBars_97 (by decide) (fun h97_10 => ?_) (fun h97_10 => ?_)
        · skip
          refine z_iinc (pc := 164) (v := 1) C dX5_fewestBars_164 rfl (by decide) (by rw [hn]; decide) rfl ?_
          obtain ⟨v12, hv12, e12⟩ : ∃ v : Int32, v = a88_4 + 1 ∧ v.toInt = a88_4.toInt + 1 := ⟨_, rfl, zadd_eb b88_4 (zB.of (x := 1) 1 (by decide)) (by decide) (by decide)⟩
          rw [← hv12]
          have b12x : zB v12 1 12 := by have q9 := b88_4; constructor <;> omega
          refine z_goto (pc := 167) 67 C dX5_fewestBars_167 (by decide) ?_
          refine w_mask [5] ?_
          exact ih1 a88_3 b88_3 v12 (zB.wk (a' := 0) (b' := 12) b12x (by decide) (by decide)) g88_ hI88_ hF88_  (by omega)
        · skip
          have b13x : zB a88_5 0 11 := by have q1 := b88_5; have q2 := b10x; simp only [z32lt, z32le, z32eq, Int32.reduceToInt, Int32.toInt_zero] at h97_10; constructor <;> omega
          have b14x : zB v10 1 12 := by have q1 := b88_5; have q2 := b10x; simp only [z32lt, z32le, z32eq, Int32.reduceToInt, Int32.toInt_zero] at h97_10; constructor <;> omega
          refine z_aload_n (pc := 100) C dX5_fewestBars_100 rfl ?_
          refine z_getR (pc := 101) C zf_X5_28 rfl rfl (by decide) dX5_fewestBars_101 ?_
          refine z_iload (pc := 104) C dX5_fewestBars_104 rfl ?_
          refine z_iald (pc := 106) C rfl (by decide) (zIx b13x (by decide) (by decide)) dX5_fewestBars_106 ?_
          refine w_gb 0 2000 (hI88_ 17 _ _) (fun v15 b15x => ?_)
          refine z_sipush (pc := 107) (v := 1000) C dX5_fewestBars_107 (by decide) ?_
          refine z_icmp_ge (pc := 110) 158 C dX5_fewestBars_110 (by decide) (fun h110_15 => ?_) (fun h110_15 => ?_)
          · skip
            have b17x : zB v15 1000 2000 := by have q1 := b15x; have q2 := (zB.of (x := 1000) 1000 (by decide)); simp only [z32lt, z32le, z32eq, Int32.reduceToInt, Int32.toInt_zero] at h110_15; constructor <;> omega
            exact ih5 a88_3 b88_3 a88_4 b88_4 a88_5 b13x g88_ hI88_ hF88_  (by omega)
          · skip
            have b18x : zB v15 0 999 := by have q1 := b15x; have q2 := (zB.of (x := 1000) 1000 (by decide)); simp only [z32lt, z32le, z32eq, Int32.reduceToInt, Int32.toInt_zero] at h110_15; constructor <;> omega
            refine z_aload_n (pc := 113) C dX5_fewestBars_113 rfl ?_
            refine z_getR (pc := 114) C zf_X5_12 rfl rfl (by decide) dX5_fewestBars_114 ?_
            refine z_aload_n (pc := 117) C dX5_fewestBars_117 rfl ?_
            refine z_getR (pc := 118) C zf_X5_31 rfl rfl (by decide) dX5_fewestBars_118 ?_
            refine z_getR (pc := 121) C zf_X5_68 rfl rfl (by decide) dX5_fewestBars_121 ?_
            refine z_iload (pc := 124) C dX5_fewestBars_124 rfl ?_
            refine z_aald (pc := 126) C rfl ⟨rfl, by decide⟩ (by decide) (zIx b13x (by decide) (by decide)) dX5_fewestBars_126 ?_
            refine w_gr (by have hq := zN b13x (by decide); show 12 * 0 + a88_5.toNatClampNeg < 36; omega) (fun m19 h19x => ?_)
            refine z_iconst (pc := 127) (v := 1) C dX5_fewestBars_127 (by decide) ?_
            refine z_iload_n (pc := 128) C dX5_fewestBars_128 rfl ?_
            refine z_ishl (pc := 129) C dX5_fewestBars_129 ?_
            refine w_gb 0 128 (zshl_b b2 7 (by decide) (by decide)) (fun v20 b20x => ?_)
            refine z_callV (pc := 130) C zk_X5_72 (w_X3_go _ _ 2 (by decide) m19 h19x v20 (zB.wk (a' := 0) (b' := 255) b20x (by decide) (by decide)) hI88_) rfl rfl (by decide) rfl rfl (Nat.le_of_ble_eq_true rfl) dX5_fewestBars_130 (fun r21 g21 q21 => ?_)
            obtain ⟨rfl, hI21, hF21q⟩ := q21
            have hF21 := zFr.tr hF88_ hF21q (by decide)
            simp only [Option.toList, List.cons_append, List.nil_append]
            refine z_aload_n (pc := 133) C dX5_fewestBars_133 rfl ?_
            refine z_aload_n (pc := 134) C dX5_fewestBars_134 rfl ?_
            refine z_getR (pc := 135) C zf_X5_28 rfl rfl (by decide) dX5_fewestBars_135 ?_
            refine z_iload (pc := 138) C dX5_fewestBars_138 rfl ?_
            refine z_iald (pc := 140) C rfl (by decide) (zIx b13x (by decide) (by decide)) dX5_fewestBars_140 ?_
            refine w_gb 0 2000 (hI21 17 _ _) (fun v22 b22x => ?_)
            refine z_iload_n (pc := 141) C dX5_fewestBars_141 rfl ?_
            refine z_callV (pc := 142) C zk_X5_98 (w_X5_relax _ _ v22 b22x a2 b2 hI21) rfl rfl (by decide) rfl rfl (Nat.le_of_ble_eq_true rfl) dX5_fewestBars_142 (fun r23 g23 q23 => ?_)
            obtain ⟨⟨v23, rfl, b23x⟩, hI23, hF23q⟩ := q23
            have hF23 := zFr.tr hF21 hF23q (by decide)
            simp only [Option.toList, List.cons_append, List.nil_append]
            refine z_if_ne (pc := 145) 152 C dX5_fewestBars_145 (by decide) (fun h145_23 => ?_) (fun h145_23 => ?_)
            · skip
              have b25x : zB v23 1 1 := by have q1 := b23x; have q2 := (zB.of (x := 0) 0 (by decide)); simp only [z32lt, z32le, z32eq, Int32.reduceToInt, Int32.toInt_zero] at h145_23; constructor <;> omega
              exact ih3 a88_3 b88_3 a88_4 b88_4 a88_5 b13x g23 hI23 hF23  (by omega)
            · skip
              have b26x : zB v23 0 0 := by have q1 := b23x; have q2 := (zB.of (x := 0) 0 (by decide)); simp only [z32lt, z32le, z32eq, Int32.reduceToInt, Int32.toInt_zero] at h145_23; constructor <;> omega
              refine z_iload_n (pc := 148) C dX5_fewestBars_148 rfl ?_
              refine z_if_eq (pc := 149) 156 C dX5_fewestBars_149 (by decide) (fun h149_26 => ?_) (fun h149_26 => ?_)
              · skip
                have b28x : zB a88_3 0 0 := by have q1 := b88_3; have q2 := (zB.of (x := 0) 0 (by decide)); simp only [z32lt, z32le, z32eq, Int32.reduceToInt, Int32.toInt_zero] at h149_26; constructor <;> omega
                refine z_iconst (pc := 156) (v := 0) C dX5_fewestBars_156 (by decide) ?_
                exact ih4 a88_3 (zB.wk (a' := 0) (b' := 1) b28x (by decide) (by decide)) a88_4 b88_4 a88_5 b13x 0 (zB.wk (a' := 0) (b' := 1) (zB.of (x := 0) 0 (by decide)) (by decide) (by decide)) g23 hI23 hF23  (by have qc0 : (0 : Int32).toInt = 0 := (by decide); omega)
              · skip
                have b29x : zB a88_3 1 1 := by have q1 := b88_3; have q2 := (zB.of (x := 0) 0 (by decide)); simp only [z32lt, z32le, z32eq, Int32.reduceToInt, Int32.toInt_zero] at h149_26; constructor <;> omega
                exact ih3 a88_3 (zB.wk (a' := 0) (b' := 1) b29x (by decide) (by decide)) a88_4 b88_4 a88_5 b13x g23 hI23 hF23  (by omega)
      · skip
        intro a152_3 b152_3 a152_4 b152_4 a152_5 b152_5 g152_ hI152_ hF152_ hM152_
        refine z_iconst (pc := 152) (v := 1) C dX5_fewestBars_152 (by decide) ?_
        refine z_goto (pc := 153) 157 C dX5_fewestBars_153 (by decide) ?_
        exact ih4 a152_3 b152_3 a152_4 b152_4 a152_5 b152_5 1 (zB.wk (a' := 0) (b' := 1) (zB.of (x := 1) 1 (by decide)) (by decide) (by decide)) g152_ hI152_ hF152_  (by have qc0 : (1 : Int32).toInt = 1 := (by decide); omega)
      · skip
        intro a157_3 b157_3 a157_4 b157_4 a157_5 b157_5 a157_s0 b157_s0 g157_ hI157_ hF157_ hM157_
        refine z_istore_n (pc := 157) C dX5_fewestBars_157 (by rw [hn]; decide) rfl ?_
        exact ih5 a157_s0 b157_s0 a157_4 b157_4 a157_5 b157_5 g157_ hI157_ hF157_  (by omega)
      · skip
        intro a158_3 b158_3 a158_4 b158_4 a158_5 b158_5 g158_ hI158_ hF158_ hM158_
        refine z_iinc (pc := 158) (v := 1) C dX5_fewestBars_158 rfl (by decide) (by rw [hn]; decide) rfl ?_
        obtain ⟨v30, hv30, e30⟩ : ∃ v : Int32, v = a158_5 + 1 ∧ v.toInt = a158_5.toInt + 1 := ⟨_, rfl, zadd_eb b158_5 (zB.of (x := 1) 1 (by decide)) (by decide) (by decide)⟩
        rw [← hv30]
        have b30x : zB v30 1 12 := by have q9 := b158_5; constructor <;> omega
        refine z_goto (pc := 161) 88 C dX5_fewestBars_161 (by decide) ?_
        exact ih2 a158_3 b158_3 a158_4 b158_4 v30 (zB.wk (a' := 0) (b' := 12) b30x (by decide) (by decide)) g158_ hI158_ hF158_  (by omega)
      · skip
        intro a170_3 b170_3 a170_4 b170_4 g170_ hI170_ hF170_ hM170_
        refine z_sipush (pc := 170) (v := 1000) C dX5_fewestBars_170 (by decide) ?_
        refine z_istore (pc := 173) C dX5_fewestBars_173 (by rw [hn]; decide) rfl ?_
        refine z_iconst (pc := 175) (v := 0) C dX5_fewestBars_175 (by decide) ?_
        refine z_istore (pc := 176) C dX5_fewestBars_176 (by rw [hn]; decide) rfl ?_
        exact ih7 a170_3 b170_3 1000 (zB.wk (a' := 0) (b' := 1000) (zB.of (x := 1000) 1000 (by decide)) (by decide) (by decide)) 0 (zB.wk (a' := 0) (b' := 12) (zB.of (x := 0) 0 (by decide)) (by decide) (by decide)) g170_ hI170_ hF170_  (by have qc0 : (0 : Int32).toInt = 0 := (by decide); have qc1 : (1000 : Int32).toInt = 1000 := (by decide); omega)
      · skip
        intro a178_3 b178_3 a178_4 b178_4 a178_5 b178_5 g178_ hI178_ hF178_ hM178_
        refine z_iload (pc := 178) C dX5_fewestBars_178 rfl ?_
        refine z_aload_n (pc := 180) C dX5_fewestBars_180 rfl ?_
        refine z_getR (pc := 181) C zf_X5_31 rfl rfl (by decide) dX5_fewestBars_181 ?_
        refine z_getI (pc := 184) C zf_X5_76 rfl rfl (by decide) dX5_fewestBars_184 ?_
        refine w_gb 0 12 (hI178_ 1 _ 7) (fun v31 b31x => ?_)
        refine z_icmp_ge (pc := 187) 232 C dX5_fewestBars_187 (by decide) (fun h187_31 => ?_) (fun h187_31 => ?_)
        · skip
          refine z_aload_n (pc := 232) C dX5_fewestBars_232 rfl ?_
          refine z_getR (pc := 233) C zf_X5_31 rfl rfl (by decide) dX5_fewestBars_233 ?_
          refine z_getR (pc := 236) C zf_X5_111 rfl rfl (by decide) dX5_fewestBars_236 ?_
          refine z_iload_n (pc := 239) C dX5_fewestBars_239 rfl ?_
          refine z_aald (pc := 240) C rfl ⟨rfl, by decide⟩ (by decide) (zIx b2 (by decide) (by decide)) dX5_fewestBars_240 ?_
          refine w_gr (by have hq := zN b2 (by decide); show 8 * 0 + a2.toNatClampNeg < 16; omega) (fun m33 h33x => ?_)
          refine z_iload_n (pc := 241) C dX5_fewestBars_241 rfl ?_
          refine z_callV (pc := 242) C zk_X5_115 (w_X1_isCrime _ _ m33 h33x a1 b1 hI178_) rfl rfl h33x rfl rfl (Nat.le_of_ble_eq_true rfl) dX5_fewestBars_242 (fun r34 g34 q34 => ?_)
          obtain ⟨⟨v34, rfl, b34x⟩, hI34, hF34q⟩ := q34
          obtain rfl := zFr_nil hF34q
          simp only [Option.toList, List.cons_append, List.nil_append]
          refine z_if_eq (pc := 245) 267 C dX5_fewestBars_245 (by decide) (fun h245_34 => ?_) (fun h245_34 => ?_)
          · skip
            have b36x : zB v34 0 0 := by have q1 := b34x; have q2 := (zB.of (x := 0) 0 (by decide)); simp only [z32lt, z32le, z32eq, Int32.reduceToInt, Int32.toInt_zero] at h245_34; constructor <;> omega
            exact ih9 a178_3 b178_3 a178_4 b178_4 a178_5 b178_5 g178_ hI178_ hF178_  (by omega)
          · skip
            have b37x : zB v34 1 1 := by have q1 := b34x; have q2 := (zB.of (x := 0) 0 (by decide)); simp only [z32lt, z32le, z32eq, Int32.reduceToInt, Int32.toInt_zero] at h245_34; constructor <;> omega
            refine z_aload_n (pc := 248) C dX5_fewestBars_248 rfl ?_
            refine z_getR (pc := 249) C zf_X5_31 rfl rfl (by decide) dX5_fewestBars_249 ?_
            refine z_getR (pc := 252) C zf_X5_111 rfl rfl (by decide) dX5_fewestBars_252 ?_
            refine z_iload_n (pc := 255) C dX5_fewestBars_255 rfl ?_
            refine z_aald (pc := 256) C rfl ⟨rfl, by decide⟩ (by decide) (zIx b2 (by decide) (by decide)) dX5_fewestBars_256 ?_
            refine w_gr (by have hq := zN b2 (by decide); show 8 * 0 + a2.toNatClampNeg < 16; omega) (fun m38 h38x => ?_)
            refine z_getI (pc := 257) C zf_X5_120 rfl rfl h38x dX5_fewestBars_257 ?_
            refine w_gb 0 1 (hI178_ 8 _ 4) (fun v39 b39x => ?_)
            refine z_if_ne (pc := 260) 267 C dX5_fewestBars_260 (by decide) (fun h260_39 => ?_) (fun h260_39 => ?_)
            · skip
              have b41x : zB v39 1 1 := by have q1 := b39x; have q2 := (zB.of (x := 0) 0 (by decide)); simp only [z32lt, z32le, z32eq, Int32.reduceToInt, Int32.toInt_zero] at h260_39; constructor <;> omega
              exact ih9 a178_3 b178_3 a178_4 b178_4 a178_5 b178_5 g178_ hI178_ hF178_  (by omega)
            · skip
              have b42x : zB v39 0 0 := by have q1 := b39x; have q2 := (zB.of (x := 0) 0 (by decide)); simp only [z32lt, z32le, z32eq, Int32.reduceToInt, Int32.toInt_zero] at h260_39; constructor <;> omega
              refine z_iconst (pc := 263) (v := 1) C dX5_fewestBars_263 (by decide) ?_
              refine z_goto (pc := 264) 268 C dX5_fewestBars_264 (by decide) ?_
              exact ih10 a178_3 b178_3 a178_4 b178_4 a178_5 b178_5 1 (zB.wk (a' := 0) (b' := 1) (zB.of (x := 1) 1 (by decide)) (by decide) (by decide)) g178_ hI178_ hF178_  (by have qc0 : (1 : Int32).toInt = 1 := (by decide); omega)
        · skip
          have b43x : zB a178_5 0 11 := by have q1 := b178_5; have q2 := b31x; simp only [z32lt, z32le, z32eq, Int32.reduceToInt, Int32.toInt_zero] at h187_31; constructor <;> omega
          have b44x : zB v31 1 12 := by have q1 := b178_5; have q2 := b31x; simp only [z32lt, z32le, z32eq, Int32.reduceToInt, Int32.toInt_zero] at h187_31; constructor <;> omega
          refine z_aload_n (pc := 190) C dX5_fewestBars_190 rfl ?_
          refine z_getR (pc := 191) C zf_X5_31 rfl rfl (by decide) dX5_fewestBars_191 ?_
          refine z_getR (pc := 194) C zf_X5_68 rfl rfl (by decide) dX5_fewestBars_194 ?_
          refine z_iload (pc := 197) C dX5_fewestBars_197 rfl ?_
          refine z_aald (pc := 199) C rfl ⟨rfl, by decide⟩ (by decide) (zIx b43x (by decide) (by decide)) dX5_fewestBars_199 ?_
          refine w_gr (by have hq := zN b43x (by decide); show 12 * 0 + a178_5.toNatClampNeg < 36; omega) (fun m45 h45x => ?_)
          refine z_getI (pc := 200) C zf_X5_102 rfl rfl h45x dX5_fewestBars_200 ?_
          refine w_gb 0 5 (hI178_ 11 _ 2) (fun v46 b46x => ?_)
          refine z_iload_n (pc := 203) C dX5_fewestBars_203 rfl ?_
          refine z_icmp_ne (pc := 204) 222 C dX5_fewestBars_204 (by decide) (fun h204_46 => ?_) (fun h204_46 => ?_)
          · skip
            refine z_iload (pc := 222) C dX5_fewestBars_222 rfl ?_
            exact ih8 a178_3 b178_3 a178_4 b178_4 a178_5 b43x a178_4 b178_4 g178_ hI178_ hF178_  (by omega)
          · skip
            refine z_iload (pc := 207) C dX5_fewestBars_207 rfl ?_
            refine z_aload_n (pc := 209) C dX5_fewestBars_209 rfl ?_
            refine z_getR (pc := 210) C zf_X5_28 rfl rfl (by decide) dX5_fewestBars_210 ?_
            refine z_iload (pc := 213) C dX5_fewestBars_213 rfl ?_
            refine z_iald (pc := 215) C rfl (by decide) (zIx b43x (by decide) (by decide)) dX5_fewestBars_215 ?_
            refine w_gb 0 2000 (hI178_ 17 _ _) (fun v48 b48x => ?_)
            refine z_mmin (pc := 216) C zk_X5_105 (Nat.le_of_ble_eq_true rfl) dX5_fewestBars_216 ?_
            refine w_gb 0 1000 (by have q9 := zmin_b b178_4 b48x; constructor <;> omega) (fun v49 b49x => ?_)
            refine z_goto (pc := 219) 224 C dX5_fewestBars_219 (by decide) ?_
            exact ih8 a178_3 b178_3 a178_4 b178_4 a178_5 b43x v49 b49x g178_ hI178_ hF178_  (by omega)
      · skip
        intro a224_3 b224_3 a224_4 b224_4 a224_5 b224_5 a224_s0 b224_s0 g224_ hI224_ hF224_ hM224_
        refine z_istore (pc := 224) C dX5_fewestBars_224 (by rw [hn]; decide) rfl ?_
        refine z_iinc (pc := 226) (v := 1) C dX5_fewestBars_226 rfl (by decide) (by rw [hn]; decide) rfl ?_
        obtain ⟨v50, hv50, e50⟩ : ∃ v : Int32, v = a224_5 + 1 ∧ v.toInt = a224_5.toInt + 1 := ⟨_, rfl, zadd_eb b224_5 (zB.of (x := 1) 1 (by decide)) (by decide) (by decide)⟩
        rw [← hv50]
        have b50x : zB v50 1 12 := by have q9 := b224_5; constructor <;> omega
        refine z_goto (pc := 229) 178 C dX5_fewestBars_229 (by decide) ?_
        exact ih7 a224_3 b224_3 a224_s0 b224_s0 v50 (zB.wk (a' := 0) (b' := 12) b50x (by decide) (by decide)) g224_ hI224_ hF224_  (by omega)
      · skip
        intro a267_3 b267_3 a267_4 b267_4 a267_5 b267_5 g267_ hI267_ hF267_ hM267_
        refine z_iconst (pc := 267) (v := 0) C dX5_fewestBars_267 (by decide) ?_
        exact ih10 a267_3 b267_3 a267_4 b267_4 a267_5 b267_5 0 (zB.wk (a' := 0) (b' := 1) (zB.of (x := 0) 0 (by decide)) (by decide) (by decide)) g267_ hI267_ hF267_  (by have qc0 : (0 : Int32).toInt = 0 := (by decide); omega)
      · skip
        intro a268_3 b268_3 a268_4 b268_4 a268_5 b268_5 a268_s0 b268_s0 g268_ hI268_ hF268_ hM268_
        refine z_istore (pc := 268) C dX5_fewestBars_268 (by rw [hn]; decide) rfl ?_
        refine z_iload (pc := 270) C dX5_fewestBars_270 rfl ?_
        refine z_if_eq (pc := 272) 288 C dX5_fewestBars_272 (by decide) (fun h272_50 => ?_) (fun h272_50 => ?_)
        · skip
          have b52x : zB a268_s0 0 0 := by have q1 := b268_s0; have q2 := (zB.of (x := 0) 0 (by decide)); simp only [z32lt, z32le, z32eq, Int32.reduceToInt, Int32.toInt_zero] at h272_50; constructor <;> omega
          exact ih11 a268_3 b268_3 a268_4 b268_4 a268_s0 (zB.wk (a' := 0) (b' := 1) b52x (by decide) (by decide)) g268_ hI268_ hF268_  (by omega)
        · skip
          have b53x : zB a268_s0 1 1 := by have q1 := b268_s0; have q2 := (zB.of (x := 0) 0 (by decide)); simp only [z32lt, z32le, z32eq, Int32.reduceToInt, Int32.toInt_zero] at h272_50; constructor <;> omega
          refine z_iload (pc := 275) C dX5_fewestBars_275 rfl ?_
          refine z_sipush (pc := 277) (v := 1000) C dX5_fewestBars_277 (by decide) ?_
          refine z_icmp_ge (pc := 280) 288 C dX5_fewestBars_280 (by decide) (fun h280_53 => ?_) (fun h280_53 => ?_)
          · skip
            have b55x : zB a268_4 1000 1000 := by have q1 := b268_4; have q2 := (zB.of (x := 1000) 1000 (by decide)); simp only [z32lt, z32le, z32eq, Int32.reduceToInt, Int32.toInt_zero] at h280_53; constructor <;> omega
            exact ih11 a268_3 b268_3 a268_4 (zB.wk (a' := 0) (b' := 1000) b55x (by decide) (by decide)) a268_s0 (zB.wk (a' := 0) (b' := 1) b53x (by decide) (by decide)) g268_ hI268_ hF268_  (by omega)
          · skip
            have b56x : zB a268_4 0 999 := by have q1 := b268_4; have q2 := (zB.of (x := 1000) 1000 (by decide)); simp only [z32lt, z32le, z32eq, Int32.reduceToInt, Int32.toInt_zero] at h280_53; constructor <;> omega
            refine z_iload (pc := 283) C dX5_fewestBars_283 rfl ?_
            refine z_goto (pc := 285) 290 C dX5_fewestBars_285 (by decide) ?_
            exact ih12 a268_3 b268_3 a268_4 (zB.wk (a' := 0) (b' := 1000) b56x (by decide) (by decide)) a268_s0 (zB.wk (a' := 0) (b' := 1) b53x (by decide) (by decide)) a268_4 (zB.wk (a' := (-4)) (b' := 999) b56x (by decide) (by decide)) g268_ hI268_ hF268_  (by omega)
      · skip
        intro a288_3 b288_3 a288_4 b288_4 a288_5 b288_5 g288_ hI288_ hF288_ hM288_
        refine z_bipush (pc := 288) (v := -4) C dX5_fewestBars_288 (by decide) ?_
        exact ih12 a288_3 b288_3 a288_4 b288_4 a288_5 b288_5 (-4) (zB.wk (a' := (-4)) (b' := 999) (zB.of (x := (-4)) (-4) (by decide)) (by decide) (by decide)) g288_ hI288_ hF288_  (by have qc0 : ((-4) : Int32).toInt = (-4) := (by decide); omega)
      · skip
        intro a290_3 b290_3 a290_4 b290_4 a290_5 b290_5 a290_s0 b290_s0 g290_ hI290_ hF290_ hM290_
        exact z_iret (pc := 290) C hr dX5_fewestBars_290 ⟨⟨_, rfl, b290_s0⟩, hI290_, hF290_⟩
  obtain ⟨J0, J1, J2, J3, J4, J5, J6, J7, J8, J9, J10, J11, J12⟩ := J 41169
  show Z X 0 [some (zr 13 0), some (zi a1), some (zi a2), none, none, none] [] f
  refine z_aload_n (pc := 0) C dX5_fewestBars_0 rfl ?_
  refine z_getR (pc := 1) C zf_X5_12 rfl rfl (by decide) dX5_fewestBars_1 ?_
  refine z_aload_n (pc := 4) C dX5_fewestBars_4 rfl ?_
  refine z_getR (pc := 5) C zf_X5_31 rfl rfl (by decide) dX5_fewestBars_5 ?_
  refine z_getR (pc := 8) C zf_X5_61 rfl rfl (by decide) dX5_fewestBars_8 ?_
  refine z_callV (pc := 11) C zk_X5_64 (w_X3_stand _ _ 2 (by decide) 0 (by decide) hI) rfl rfl (by decide) rfl rfl (Nat.le_of_ble_eq_true rfl) dX5_fewestBars_11 (fun r57 g57 q57 => ?_)
  obtain ⟨rfl, hI57, hF57q⟩ := q57
  have hF57 := zFr.tr hF hF57q (by decide)
  simp only [Option.toList, List.cons_append, List.nil_append]
  refine z_aload_n (pc := 14) C dX5_fewestBars_14 rfl ?_
  refine z_getR (pc := 15) C zf_X5_12 rfl rfl (by decide) dX5_fewestBars_15 ?_
  refine z_getI (pc := 18) C zf_X5_46 rfl rfl (by decide) dX5_fewestBars_18 ?_
  refine w_gb 0 5 (hI57 6 _ 1) (fun v58 b58x => ?_)
  refine z_iload_n (pc := 21) C dX5_fewestBars_21 rfl ?_
  refine z_icmp_ne (pc := 22) 45 C dX5_fewestBars_22 (by decide) (fun h22_58 => ?_) (fun h22_58 => ?_)
  · skip
    exact J0  g57 hI57 hF57  (by omega)
  · skip
    refine z_aload_n (pc := 25) C dX5_fewestBars_25 rfl ?_
    refine z_getR (pc := 26) C zf_X5_31 rfl rfl (by decide) dX5_fewestBars_26 ?_
    refine z_aload_n (pc := 29) C dX5_fewestBars_29 rfl ?_
    refine z_getR (pc := 30) C zf_X5_12 rfl rfl (by decide) dX5_fewestBars_30 ?_
    refine z_callV (pc := 33) C zk_X5_49 (w_X8_triedBy _ _ 2 (by decide) hI57) rfl rfl (by decide) rfl rfl (Nat.le_of_ble_eq_true rfl) dX5_fewestBars_33 (fun r60 g60 q60 => ?_)
    obtain ⟨⟨v60, rfl, b60x⟩, hI60, hF60q⟩ := q60
    obtain rfl := zFr_nil hF60q
    simp only [Option.toList, List.cons_append, List.nil_append]
    refine z_iload_n (pc := 36) C dX5_fewestBars_36 rfl ?_
    refine z_ishr (pc := 37) C dX5_fewestBars_37 ?_
    refine w_gb (-2147483648) 2147483647 (zB_any _) (fun v61 b61x => ?_)
    refine z_iconst (pc := 38) (v := 1) C dX5_fewestBars_38 (by decide) ?_
    refine z_iand (pc := 39) C dX5_fewestBars_39 ?_
    refine w_gb 0 1 (zand_b b61x (zB.of (x := 1) 1 (by decide)) (by decide)) (fun v62 b62x => ?_)
    refine z_if_eq (pc := 40) 45 C dX5_fewestBars_40 (by decide) (fun h40_62 => ?_) (fun h40_62 => ?_)
    · skip
      have b64x : zB v62 0 0 := by have q1 := b62x; have q2 := (zB.of (x := 0) 0 (by decide)); simp only [z32lt, z32le, z32eq, Int32.reduceToInt, Int32.toInt_zero] at h40_62; constructor <;> omega
      exact J0  g57 hI57 hF57  (by omega)
    · skip
      have b65x : zB v62 1 1 := by have q1 := b62x; have q2 := (zB.of (x := 0) 0 (by decide)); simp only [z32lt, z32le, z32eq, Int32.reduceToInt, Int32.toInt_zero] at h40_62; constructor <;> omega
      refine z_iconst (pc := 43) (v := 0) C dX5_fewestBars_43 (by decide) ?_
      exact z_iret (pc := 44) C hr dX5_fewestBars_44 ⟨⟨_, rfl, (zB.wk (a' := (-4)) (b' := 999) (zB.of (x := 0) 0 (by decide)) (by decide) (by decide))⟩, hI57, hF57⟩
