set_option maxRecDepth 100000 in
set_option maxHeartbeats 4000000 in
theorem w_J6_bitCount_0f7a4 (d : Nat) (f : zM) (a0 : Int32) (b0 : zB a0 (-2147483648) 2147483647) (hI : zInv f) : ZM d yJ6_bitCount_0f7a4 cJ6_bitCount_0f7a4 1 (some .int) [zi a0] f (fun r g => (∃ v, r = some (zi v) ∧ zB v 0 63) ∧ zInv g ∧ zFr [] f g) := by
  refine ZM.intro (by decide +kernel) (Nat.le_of_ble_eq_true rfl) ?_
  intro X C hr hn
  have hF : zFr [] f f := zFr.rf _ _
  show Z X 0 [some (zi a0)] [] f
  refine z_iload_n (pc := 0) C dJ6_bitCount_0f7a4_0 rfl ?_
  refine z_iload_n (pc := 1) C dJ6_bitCount_0f7a4_1 rfl ?_
  refine z_iconst (pc := 2) (v := 1) C dJ6_bitCount_0f7a4_2 (by decide) ?_
  refine z_iushr (pc := 3) C dJ6_bitCount_0f7a4_3 ?_
  refine w_gb (-2147483648) 2147483647 (zB_any _) (fun v1 b1x => ?_)
  refine z_ldcw (pc := 4) C zw_939 dJ6_bitCount_0f7a4_4 ?_
  refine z_iand (pc := 7) C dJ6_bitCount_0f7a4_7 ?_
  refine w_gb 0 1431655765 (zand_b b1x (zB.of (x := 1431655765) 1431655765 (by decide)) (by decide)) (fun v2 b2x => ?_)
  refine z_isub (pc := 8) C dJ6_bitCount_0f7a4_8 ?_
  refine w_gb (-2147483648) 2147483647 (zB_any _) (fun v3 b3x => ?_)
  refine z_istore_n (pc := 9) C dJ6_bitCount_0f7a4_9 (by rw [hn]; decide) rfl ?_
  refine z_iload_n (pc := 10) C dJ6_bitCount_0f7a4_10 rfl ?_
  refine z_ldcw (pc := 11) C zw_940 dJ6_bitCount_0f7a4_11 ?_
  refine z_iand (pc := 14) C dJ6_bitCount_0f7a4_14 ?_
  refine w_gb 0 858993459 (zand_b b3x (zB.of (x := 858993459) 858993459 (by decide)) (by decide)) (fun v4 b4x => ?_)
  refine z_iload_n (pc := 15) C dJ6_bitCount_0f7a4_15 rfl ?_
  refine z_iconst (pc := 16) (v := 2) C dJ6_bitCount_0f7a4_16 (by decide) ?_
  refine z_iushr (pc := 17) C dJ6_bitCount_0f7a4_17 ?_
  refine w_gb (-2147483648) 2147483647 (zB_any _) (fun v5 b5x => ?_)
  refine z_ldcw (pc := 18) C zw_940 dJ6_bitCount_0f7a4_18 ?_
  refine z_iand (pc := 21) C dJ6_bitCount_0f7a4_21 ?_
  refine w_gb 0 858993459 (zand_b b5x (zB.of (x := 858993459) 858993459 (by decide)) (by decide)) (fun v6 b6x => ?_)
  refine z_iadd (pc := 22) C dJ6_bitCount_0f7a4_22 ?_
  refine w_gp (fun v => v.toInt = v4.toInt + v6.toInt) (zadd_eb b4x b6x (by decide) (by decide)) (fun v7 e7 => ?_)
  have b7x : zB v7 0 1717986918 := by have q1 := b4x; have q2 := b6x; constructor <;> omega
  refine z_istore_n (pc := 23) C dJ6_bitCount_0f7a4_23 (by rw [hn]; decide) rfl ?_
  refine z_iload_n (pc := 24) C dJ6_bitCount_0f7a4_24 rfl ?_
  refine z_iload_n (pc := 25) C dJ6_bitCount_0f7a4_25 rfl ?_
  refine z_iconst (pc := 26) (v := 4) C dJ6_bitCount_0f7a4_26 (by decide) ?_
  refine z_iushr (pc := 27) C dJ6_bitCount_0f7a4_27 ?_
  refine w_gb (-2147483648) 2147483647 (zB_any _) (fun v8 b8x => ?_)
  refine z_iadd (pc := 28) C dJ6_bitCount_0f7a4_28 ?_
  refine w_gb (-2147483648) 2147483647 (zB_any _) (fun v9 b9x => ?_)
  refine z_ldcw (pc := 29) C zw_941 dJ6_bitCount_0f7a4_29 ?_
  refine z_iand (pc := 32) C dJ6_bitCount_0f7a4_32 ?_
  refine w_gb 0 252645135 (zand_b b9x (zB.of (x := 252645135) 252645135 (by decide)) (by decide)) (fun v10 b10x => ?_)
  refine z_istore_n (pc := 33) C dJ6_bitCount_0f7a4_33 (by rw [hn]; decide) rfl ?_
  refine z_iload_n (pc := 34) C dJ6_bitCount_0f7a4_34 rfl ?_
  refine z_iload_n (pc := 35) C dJ6_bitCount_0f7a4_35 rfl ?_
  refine z_bipush (pc := 36) (v := 8) C dJ6_bitCount_0f7a4_36 (by decide) ?_
  refine z_iushr (pc := 38) C dJ6_bitCount_0f7a4_38 ?_
  refine w_gb (-2147483648) 2147483647 (zB_any _) (fun v11 b11x => ?_)
  refine z_iadd (pc := 39) C dJ6_bitCount_0f7a4_39 ?_
  refine w_gb (-2147483648) 2147483647 (zB_any _) (fun v12 b12x => ?_)
  refine z_istore_n (pc := 40) C dJ6_bitCount_0f7a4_40 (by rw [hn]; decide) rfl ?_
  refine z_iload_n (pc := 41) C dJ6_bitCount_0f7a4_41 rfl ?_
  refine z_iload_n (pc := 42) C dJ6_bitCount_0f7a4_42 rfl ?_
  refine z_bipush (pc := 43) (v := 16) C dJ6_bitCount_0f7a4_43 (by decide) ?_
  refine z_iushr (pc := 45) C dJ6_bitCount_0f7a4_45 ?_
  refine w_gb (-2147483648) 2147483647 (zB_any _) (fun v13 b13x => ?_)
  refine z_iadd (pc := 46) C dJ6_bitCount_0f7a4_46 ?_
  refine w_gb (-2147483648) 2147483647 (zB_any _) (fun v14 b14x => ?_)
  refine z_istore_n (pc := 47) C dJ6_bitCount_0f7a4_47 (by rw [hn]; decide) rfl ?_
  refine z_iload_n (pc := 48) C dJ6_bitCount_0f7a4_48 rfl ?_
  refine z_bipush (pc := 49) (v := 63) C dJ6_bitCount_0f7a4_49 (by decide) ?_
  refine z_iand (pc := 51) C dJ6_bitCount_0f7a4_51 ?_
  refine w_gb 0 63 (zand_b b14x (zB.of (x := 63) 63 (by decide)) (by decide)) (fun v15 b15x => ?_)
  exact z_iret (pc := 52) C hr dJ6_bitCount_0f7a4_52 ⟨⟨_, rfl, b15x⟩, hI, hF⟩

set_option maxRecDepth 100000 in
set_option maxHeartbeats 4000000 in
theorem w_X5_relax (d : Nat) (f : zM) (a1 : Int32) (b1 : zB a1 0 2000) (a2 : Int32) (b2 : zB a2 0 7) (hI : zInv f) : ZM (d + 2) yX5_relax cX5_relax 7 (some .boolean) [zr 13 0, zi a1, zi a2] f (fun r g => (∃ v, r = some (zi v) ∧ zB v 0 1) ∧ zInv g ∧ zFr [(17, none)] f g) := by
  refine ZM.intro (by decide +kernel) (Nat.le_of_ble_eq_true rfl) ?_
  intro X C hr hn
  have hF : zFr [(17, none)] f f := zFr.rf _ _
  have J : ∀ t : Nat, (∀ a5_3 : Int32, zB a5_3 0 1 → ∀ a5_4 : Int32, zB a5_4 0 12 → ∀ g : zM, zInv g → zFr [(17, none)] f g → (1 + 4 * (12 - a5_4.toInt) : Int) < t → Z X 5 [some (zr 13 0), some (zi a1), some (zi a2), some (zi a5_3), some (zi a5_4), none, none] [] g) ∧ (∀ a89_3 : Int32, zB a89_3 0 1 → ∀ a89_4 : Int32, zB a89_4 0 11 → ∀ m89_5 : Nat, m89_5 < zcnt 11 → ∀ a89_6 : Int32, zB a89_6 0 2063 → ∀ g : zM, zInv g → zFr [(17, none)] f g → (0 + 4 * (12 - a89_4.toInt) : Int) < t → Z X 89 [some (zr 13 0), some (zi a1), some (zi a2), some (zi a89_3), some (zi a89_4), some (zr 11 m89_5), some (zi a89_6)] [] g) := by
    intro t
    induction t with
    | zero =>
      refine ⟨?_, ?_⟩ <;> (intros; exfalso; omega)
    | succ t ih =>
      obtain ⟨ih0, ih1⟩ := ih
      refine ⟨?_, ?_⟩
      · skip
        intro a5_3 b5_3 a5_4 b5_4 g5_ hI5_ hF5_ hM5_
        refine z_iload (pc := 5) C dX5_relax_5 rfl ?_
        refine z_aload_n (pc := 7) C dX5_relax_7 rfl ?_
        refine z_getR (pc := 8) C zf_X5_31 rfl rfl (by decide) dX5_relax_8 ?_
        refine z_getI (pc := 11) C zf_X5_76 rfl rfl (by decide) dX5_relax_11 ?_
        refine w_gb 0 12 (hI5_ 1 _ 7) (fun v1 b1x => ?_)
        refine z_icmp_ge (pc := 14) 95 C dX5_relax_14 (by decide) (fun h14_1 => ?_) (fun h14_1 => ?_)
        · skip
          refine z_iload_n (pc := 95) C dX5_relax_95 rfl ?_
          exact z_zret (pc := 96) C hr (z01 b5_3) dX5_relax_96 ⟨⟨_, rfl, b5_3⟩, hI5_, hF5_⟩
        · skip
          have b3x : zB a5_4 0 11 := by have q1 := b5_4; have q2 := b1x; simp only [z32lt, z32le, z32eq, Int32.reduceToInt, Int32.toInt_zero] at h14_1; constructor <;> omega
          have b4x : zB v1 1 12 := by have q1 := b5_4; have q2 := b1x; simp only [z32lt, z32le, z32eq, Int32.reduceToInt, Int32.toInt_zero] at h14_1; constructor <;> omega
          refine z_aload_n (pc := 17) C dX5_relax_17 rfl ?_
          refine z_getR (pc := 18) C zf_X5_31 rfl rfl (by decide) dX5_relax_18 ?_
          refine z_getR (pc := 21) C zf_X5_68 rfl rfl (by decide) dX5_relax_21 ?_
          refine z_iload (pc := 24) C dX5_relax_24 rfl ?_
          refine z_aald (pc := 26) C rfl ⟨rfl, by decide⟩ (by decide) (zIx b3x (by decide) (by decide)) dX5_relax_26 ?_
          refine w_gr (by have hq := zN b3x (by decide); show 12 * 0 + a5_4.toNatClampNeg < 36; omega) (fun m5 h5x => ?_)
          refine z_astore (pc := 27) C dX5_relax_27 (by rw [hn]; decide) rfl ?_
          refine z_iload_n (pc := 29) C dX5_relax_29 rfl ?_
          refine z_aload_n (pc := 30) C dX5_relax_30 rfl ?_
          refine z_getR (pc := 31) C zf_X5_31 rfl rfl (by decide) dX5_relax_31 ?_
          refine z_aload (pc := 34) C dX5_relax_34 rfl ?_
          refine z_aload_n (pc := 36) C dX5_relax_36 rfl ?_
          refine z_getR (pc := 37) C zf_X5_31 rfl rfl (by decide) dX5_relax_37 ?_
          refine z_getR (pc := 40) C zf_X5_111 rfl rfl (by decide) dX5_relax_40 ?_
          refine z_iload_n (pc := 43) C dX5_relax_43 rfl ?_
          refine z_aald (pc := 44) C rfl ⟨rfl, by decide⟩ (by decide) (zIx b2 (by decide) (by decide)) dX5_relax_44 ?_
          refine w_gr (by have hq := zN b2 (by decide); show 8 * 0 + a2.toNatClampNeg < 16; omega) (fun m6 h6x => ?_)
          refine z_callV (pc := 45) C zk_X5_124 (w_X8_barsAgainst _ _ m5 h5x m6 h6x hI5_) rfl rfl (by decide) rfl rfl (Nat.le_of_ble_eq_true rfl) dX5_relax_45 (fun r7 g7 q7 => ?_)
          obtain ⟨⟨v7, rfl, b7x⟩, hI7, hF7q⟩ := q7
          obtain rfl := zFr_nil hF7q
          simp only [Option.toList, List.cons_append, List.nil_append]
          refine z_callS (pc := 48) C zk_X5_128 (w_J6_bitCount_0f7a4 _ _ v7 (zB.wk (a' := (-2147483648)) (b' := 2147483647) b7x (by decide) (by decide)) hI5_) rfl rfl (Nat.le_of_ble_eq_true rfl) dX5_relax_48 (fun r8 g8 q8 => ?_)
          obtain ⟨⟨v8, rfl, b8x⟩, hI8, hF8q⟩ := q8
          obtain rfl := zFr_nil hF8q
          simp only [Option.toList, List.cons_append, List.nil_append]
          refine z_iadd (pc := 51) C dX5_relax_51 ?_
          refine w_gp (fun v => v.toInt = a1.toInt + v8.toInt) (zadd_eb b1 b8x (by decide) (by decide)) (fun v9 e9 => ?_)
          have b9x : zB v9 0 2063 := by have q1 := b1; have q2 := b8x; constructor <;> omega
          refine z_istore (pc := 52) C dX5_relax_52 (by rw [hn]; decide) rfl ?_
          refine z_iload (pc := 54) C dX5_relax_54 rfl ?_
          refine z_aload_n (pc := 56) C dX5_relax_56 rfl ?_
          refine z_getR (pc := 57) C zf_X5_28 rfl rfl (by decide) dX5_relax_57 ?_
          refine z_iload (pc := 60) C dX5_relax_60 rfl ?_
          refine z_iald (pc := 62) C rfl (by decide) (zIx b3x (by decide) (by decide)) dX5_relax_62 ?_
          refine w_gb 0 2000 (hI5_ 17 _ _) (fun v10 b10x => ?_)
          refine z_icmp_ge (pc := 63) 89 C dX5_relax_63 (by decide) (fun h63_10 => ?_) (fun h63_10 => ?_)
          · skip
            exact ih1 a5_3 b5_3 a5_4 b3x m5 h5x v9 b9x g5_ hI5_ hF5_  (by omega)
          · skip
            have b12x : zB v9 0 1999 := by have q1 := b9x; have q2 := b10x; simp only [z32lt, z32le, z32eq, Int32.reduceToInt, Int32.toInt_zero] at h63_10; constructor <;> omega
            have b13x : zB v10 1 2000 := by have q1 := b9x; have q2 := b10x; simp only [z32lt, z32le, z32eq, Int32.reduceToInt, Int32.toInt_zero] at h63_10; constructor <;> omega
            refine z_aload_n (pc := 66) C dX5_relax_66 rfl ?_
            refine z_getR (pc := 67) C zf_X5_12 rfl rfl (by decide) dX5_relax_67 ?_
            refine z_aload (pc := 70) C dX5_relax_70 rfl ?_
            refine z_callV (pc := 72) C zk_X5_79 (w_X3_goesBy _ _ 2 (by decide) m5 h5x hI5_) rfl rfl (by decide) rfl rfl (Nat.le_of_ble_eq_true rfl) dX5_relax_72 (fun r14 g14 q14 => ?_)
            obtain ⟨⟨v14, rfl, b14x⟩, hI14, hF14q⟩ := q14
            obtain rfl := zFr_nil hF14q
            simp only [Option.toList, List.cons_append, List.nil_append]
            refine z_if_eq (pc := 75) 89 C dX5_relax_75 (by decide) (fun h75_14 => ?_) (fun h75_14 => ?_)
            · skip
              have b16x : zB v14 0 0 := by have q1 := b14x; have q2 := (zB.of (x := 0) 0 (by decide)); simp only [z32lt, z32le, z32eq, Int32.reduceToInt, Int32.toInt_zero] at h75_14; constructor <;> omega
              exact ih1 a5_3 b5_3 a5_4 b3x m5 h5x v9 (zB.wk (a' := 0) (b' := 2063) b12x (by decide) (by decide)) g5_ hI5_ hF5_  (by omega)
            · skip
              have b17x : zB v14 1 255 := by have q1 := b14x; have q2 := (zB.of (x := 0) 0 (by decide)); simp only [z32lt, z32le, z32eq, Int32.reduceToInt, Int32.toInt_zero] at h75_14; constructor <;> omega
              refine z_aload_n (pc := 78) C dX5_relax_78 rfl ?_
              refine z_getR (pc := 79) C zf_X5_28 rfl rfl (by decide) dX5_relax_79 ?_
              refine z_iload (pc := 82) C dX5_relax_82 rfl ?_
              refine z_iload (pc := 84) C dX5_relax_84 rfl ?_
              refine z_iast (pc := 86) C rfl (by decide) (zIx b3x (by decide) (by decide)) dX5_relax_86 ?_
              refine w_mem hI5_ hF5_ (zB.wk (a' := 0) (b' := 2000) b12x (by decide) (by decide)) rfl (fun g18 hI18 hF18 => ?_)
              refine z_iconst (pc := 87) (v := 1) C dX5_relax_87 (by decide) ?_
              refine z_istore_n (pc := 88) C dX5_relax_88 (by rw [hn]; decide) rfl ?_
              exact ih1 1 (zB.wk (a' := 0) (b' := 1) (zB.of (x := 1) 1 (by decide)) (by decide) (by decide)) a5_4 b3x m5 h5x v9 (zB.wk (a' := 0) (b' := 2063) b12x (by decide) (by decide)) g18 hI18 hF18  (by have qc0 : (1 : Int32).toInt = 1 := (by decide); omega)
      · skip
        intro a89_3 b89_3 a89_4 b89_4 m89_5 h89_5 a89_6 b89_6 g89_ hI89_ hF89_ hM89_
        refine z_iinc (pc := 89) (v := 1) C dX5_relax_89 rfl (by decide) (by rw [hn]; decide) rfl ?_
        obtain ⟨v19, hv19, e19⟩ : ∃ v : Int32, v = a89_4 + 1 ∧ v.toInt = a89_4.toInt + 1 := ⟨_, rfl, zadd_eb b89_4 (zB.of (x := 1) 1 (by decide)) (by decide) (by decide)⟩
        rw [← hv19]
        have b19x : zB v19 1 12 := by have q9 := b89_4; constructor <;> omega
        refine z_goto (pc := 92) 5 C dX5_relax_92 (by decide) ?_
        refine w_mask [5, 6] ?_
        exact ih0 a89_3 b89_3 v19 (zB.wk (a' := 0) (b' := 12) b19x (by decide) (by decide)) g89_ hI89_ hF89_  (by omega)
  obtain ⟨J0, J1⟩ := J 65
  show Z X 0 [some (zr 13 0), some (zi a1), some (zi a2), none, none, none, none] [] f
  refine z_iconst (pc := 0) (v := 0) C dX5_relax_0 (by decide) ?_
  refine z_istore_n (pc := 1) C dX5_relax_1 (by rw [hn]; decide) rfl ?_
  refine z_iconst (pc := 2) (v := 0) C dX5_relax_2 (by decide) ?_
  refine z_istore (pc := 3) C dX5_relax_3 (by rw [hn]; decide) rfl ?_
  exact J0 0 (zB.wk (a' := 0) (b' := 1) (zB.of (x := 0) 0 (by decide)) (by decide) (by decide)) 0 (zB.wk (a' := 0) (b' := 12) (zB.of (x := 0) 0 (by decide)) (by decide) (by decide)) f hI hF  (by have qc0 : (0 : Int32).toInt = 0 := (by decide); omega)
