set_option maxRecDepth 100000 in
set_option maxHeartbeats 4000000 in
theorem w_X7_readLetters_0 (d : Nat) (f : zM) (a2 : Int32) (b2 : zB a2 0 1) (hI : zInv f) : ZMs (d + 4) yX7_readLetters cX7_readLetters 8 (some .int) [zr 18 0, zr 44 1, zi a2] f (fun r g => (∃ v, r = some (zi v) ∧ zB v 0 31) ∧ zInv g ∧ zFr [(18, some 6), (18, some 7)] f g ∧ (∀ v : Int32, r = some (zi v) → ((g 18 0 7).toInt = -1 → (f 18 0 7).toInt = -1))) := by
  refine ZMs.intro (by decide +kernel) (Nat.le_of_ble_eq_true rfl) ?_
  intro X C hr hn hT
  have hF : zFr [(18, some 6), (18, some 7)] f f := zFr.rf _ _
  have ct18_0_6 : zB (f 18 0 6) 0 120 := hI 18 0 6
  have ct18_0_7 : zB (f 18 0 7) (-1) 120 := hI 18 0 7
  have J : ∀ t : Nat, (∀ a5_3 : Int32, zB a5_3 0 31 → ∀ a5_4 : Int32, zB a5_4 0 5 → ∀ g : zM, zInv g → zFr [(18, some 6), (18, some 7)] f g → zB (g 18 0 6) 0 120 → zB (g 18 0 7) (-1) 120 → (((g 18 0 7).toInt = -1 → (f 18 0 7).toInt = -1)) → (4 + 7 * (5 - a5_4.toInt) : Int) < t → Z X 5 [some (zr 18 0), some (zr 44 1), some (zi a2), some (zi a5_3), some (zi a5_4), none, none, none] [] g) ∧ (∀ a37_3 : Int32, zB a37_3 0 31 → ∀ a37_4 : Int32, zB a37_4 0 4 → ∀ a37_5 : Int32, zB a37_5 (-1) 255 → ∀ a37_s0 : Int32, zB a37_s0 (-1) 4 → ∀ g : zM, zInv g → zFr [(18, some 6), (18, some 7)] f g → zB (g 18 0 6) 0 120 → zB (g 18 0 7) (-1) 120 → (((g 18 0 7).toInt = -1 → (f 18 0 7).toInt = -1)) → ((0 ≤ a37_s0.toInt → 0 ≤ (g 18 0 6).toInt ∧ (g 18 0 6).toInt ≤ 119)) → (3 + 7 * (5 - a37_4.toInt) : Int) < t → Z X 37 [some (zr 18 0), some (zr 44 1), some (zi a2), some (zi a37_3), some (zi a37_4), some (zi a37_5), none, none] [zi a37_s0] g) ∧ (∀ a70_3 : Int32, zB a70_3 0 31 → ∀ a70_4 : Int32, zB a70_4 0 4 → ∀ a70_5 : Int32, zB a70_5 (-1) 255 → ∀ a70_6 : Int32, zB a70_6 0 4 → ∀ a70_7 : Int32, zB a70_7 0 16 → ∀ g : zM, zInv g → zFr [(18, some 6), (18, some 7)] f g → zB (g 18 0 6) 0 119 → zB (g 18 0 7) (-1) 120 → (((g 18 0 7).toInt = -1 → (f 18 0 7).toInt = -1)) → (2 + 7 * (5 - a70_4.toInt) : Int) < t → Z X 70 [some (zr 18 0), some (zr 44 1), some (zi a2), some (zi a70_3), some (zi a70_4), some (zi a70_5), some (zi a70_6), some (zi a70_7)] [] g) ∧ (∀ a81_3 : Int32, zB a81_3 0 31 → ∀ a81_4 : Int32, zB a81_4 0 4 → ∀ a81_5 : Int32, zB a81_5 (-1) 255 → ∀ a81_6 : Int32, zB a81_6 0 4 → ∀ a81_7 : Int32, zB a81_7 0 16 → ∀ g : zM, zInv g → zFr [(18, some 6), (18, some 7)] f g → zB (g 18 0 6) 0 119 → zB (g 18 0 7) (-1) 120 → (((g 18 0 7).toInt = -1 → (f 18 0 7).toInt = -1)) → (1 + 7 * (5 - a81_4.toInt) : Int) < t → Z X 81 [some (zr 18 0), some (zr 44 1), some (zi a2), some (zi a81_3), some (zi a81_4), some (zi a81_5), some (zi a81_6), some (zi a81_7)] [] g) ∧ (∀ a102_3 : Int32, zB a102_3 0 31 → ∀ a102_4 : Int32, zB a102_4 0 5 → ∀ g : zM, zInv g → zFr [(18, some 6), (18, some 7)] f g → zB (g 18 0 6) 0 120 → zB (g 18 0 7) (-1) 120 → (((g 18 0 7).toInt = -1 → (f 18 0 7).toInt = -1)) → (0 : Int) < t → Z X 102 [some (zr 18 0), some (zr 44 1), some (zi a2), some (zi a102_3), some (zi a102_4), none, none, none] [] g) := by
    intro t
    induction t with
    | zero =>
      refine ⟨?_, ?_, ?_, ?_, ?_⟩ <;> (intros; exfalso; omega)
    | succ t ih =>
      obtain ⟨ih0, ih1, ih2, ih3, ih4⟩ := ih
      refine ⟨?_, ?_, ?_, ?_, ?_⟩
      · skip
        intro a5_3 b5_3 a5_4 b5_4 g5_ hI5_ hF5_ f5_18_0_6 f5_18_0_7 hR5_0 hM5_
        refine z_iload (pc := 5) C dX7_readLetters_5 rfl ?_
        refine z_aload_n (pc := 7) C dX7_readLetters_7 rfl ?_
        refine z_callT (pc := 8) C hT zk_X7_117 (t_J0_length_8abf5 _ _ 0 (by decide)) (by decide) rfl rfl rfl (Nat.le_of_ble_eq_true rfl) dX7_readLetters_8 (fun r8 g8 q8 => ?_)
        obtain ⟨rfl, hm8⟩ := q8
        obtain rfl := hm8.symm
        simp only [Option.toList, List.cons_append, List.nil_append]
        refine w_gb 5 5 (show (5 : Int) ≤ (nI (zLen.getD 0 0)).toInt ∧ (nI (zLen.getD 0 0)).toInt ≤ 5 from by decide) (fun v1 b1x => ?_)
        refine z_icmp_ge (pc := 11) 102 C dX7_readLetters_11 (by decide) (fun h11_1 => ?_) (fun h11_1 => ?_)
        · skip
          have b3x : zB a5_4 5 5 := by have q1 := b5_4; have q2 := b1x; simp only [z32lt, z32le, z32eq, Int32.reduceToInt, Int32.toInt_zero] at h11_1; constructor <;> omega
          exact ih4 a5_3 b5_3 a5_4 (zB.wk (a' := 0) (b' := 5) b3x (by decide) (by decide)) g5_ hI5_ hF5_ f5_18_0_6 f5_18_0_7 (by omega) (by omega)
        · skip
          have b4x : zB a5_4 0 4 := by have q1 := b5_4; have q2 := b1x; simp only [z32lt, z32le, z32eq, Int32.reduceToInt, Int32.toInt_zero] at h11_1; constructor <;> omega
          refine z_aload_n (pc := 14) C dX7_readLetters_14 rfl ?_
          refine z_callV (pc := 15) C zk_X7_52 (w_X7_next _ _  hI5_) rfl rfl (by decide) rfl rfl (Nat.le_of_ble_eq_true rfl) dX7_readLetters_15 (fun r5 g5 q5 => ?_)
          obtain ⟨⟨v5, rfl, b5x⟩, hI5, hF5q, hp5_0, hp5_1, hp5_2, hp5_3⟩ := q5
          have hp5_0 := hp5_0 _ rfl
          have hp5_1 := hp5_1 _ rfl
          have hp5_2 := hp5_2 _ rfl
          have hp5_3 := hp5_3 _ rfl
          have hF5 := zFr.tr hF5_ hF5q (by decide)
          simp only [Option.toList, List.cons_append, List.nil_append]
          have cr5_18_0_6 : zB (g5 18 0 6) 0 120 := hI5 18 0 6
          have ek5_18_0_7 : (g5 18 0 7).toInt = (g5_ 18 0 7).toInt := by rw [hF5q 18 0 7 rfl]
          have c5_18_0_7x : zB (g5 18 0 7) (-1) 120 := by have q9 := f5_18_0_7; constructor <;> omega
          refine z_istore (pc := 18) C dX7_readLetters_18 (by rw [hn]; decide) rfl ?_
          refine z_iload (pc := 20) C dX7_readLetters_20 rfl ?_
          refine z_iconst (pc := 22) (v := -1) C dX7_readLetters_22 (by decide) ?_
          refine z_icmp_ne (pc := 23) 30 C dX7_readLetters_23 (by decide) (fun h23_5 => ?_) (fun h23_5 => ?_)
          · skip
            have b7x : zB v5 0 255 := by have q1 := b5x; have q2 := (zB.of (x := (-1)) (-1) (by decide)); simp only [z32lt, z32le, z32eq, Int32.reduceToInt, Int32.toInt_zero] at h23_5; constructor <;> omega
            have c8x : zB (g5 18 0 6) 0 119 := by constructor <;> omega
            refine z_aload_n (pc := 30) C dX7_readLetters_30 rfl ?_
            refine z_iload (pc := 31) C dX7_readLetters_31 rfl ?_
            refine z_i2c (pc := 33) C dX7_readLetters_33 ?_
            refine w_gb 0 255 (zi2c_b b7x (by decide) (by decide)) (fun v9 b9x => ?_)
            refine z_callT (pc := 34) C hT zk_X7_121 (t_J0_indexOf_0f7a4 _ _ 0 (by decide) v9) (by decide) rfl rfl rfl (Nat.le_of_ble_eq_true rfl) dX7_readLetters_34 (fun r34 g34 q34 => ?_)
            obtain ⟨⟨v10, rfl, b10y⟩, hm34⟩ := q34
            obtain rfl := hm34.symm
            simp only [Option.toList, List.cons_append, List.nil_append]
            have b10x : zB v10 (-1) 4 := b10y
            exact ih1 a5_3 b5_3 a5_4 b4x v5 (zB.wk (a' := (-1)) (b' := 255) b7x (by decide) (by decide)) v10 b10x g5 hI5 hF5 (zB.wk c8x (by decide) (by decide)) c5_18_0_7x (by omega) (by omega) (by omega)
          · skip
            have b11x : zB v5 (-1) (-1) := by have q1 := b5x; have q2 := (zB.of (x := (-1)) (-1) (by decide)); simp only [z32lt, z32le, z32eq, Int32.reduceToInt, Int32.toInt_zero] at h23_5; constructor <;> omega
            refine z_iconst (pc := 26) (v := -1) C dX7_readLetters_26 (by decide) ?_
            refine z_goto (pc := 27) 37 C dX7_readLetters_27 (by decide) ?_
            exact ih1 a5_3 b5_3 a5_4 b4x v5 (zB.wk (a' := (-1)) (b' := 255) b11x (by decide) (by decide)) (-1) (zB.wk (a' := (-1)) (b' := 4) (zB.of (x := (-1)) (-1) (by decide)) (by decide) (by decide)) g5 hI5 hF5 cr5_18_0_6 c5_18_0_7x (by have qc0 : ((-1) : Int32).toInt = (-1) := (by decide); omega) (by have qc0 : ((-1) : Int32).toInt = (-1) := (by decide); omega) (by have qc0 : ((-1) : Int32).toInt = (-1) := (by decide); omega)
      · skip
        intro a37_3 b37_3 a37_4 b37_4 a37_5 b37_5 a37_s0 b37_s0 g37_ hI37_ hF37_ f37_18_0_6 f37_18_0_7 hR37_0 hR37_1 hM37_
        refine z_istore (pc := 37) C dX7_readLetters_37 (by rw [hn]; decide) rfl ?_
        refine z_iload (pc := 39) C dX7_readLetters_39 rfl ?_
        refine z_if_ge (pc := 41) 47 C dX7_readLetters_41 (by decide) (fun h41_11 => ?_) (fun h41_11 => ?_)
        · skip
          have b13x : zB a37_s0 0 4 := by have q1 := b37_s0; have q2 := (zB.of (x := 0) 0 (by decide)); simp only [z32lt, z32le, z32eq, Int32.reduceToInt, Int32.toInt_zero] at h41_11; constructor <;> omega
          have c14x : zB (g37_ 18 0 6) 0 119 := by constructor <;> omega
          refine z_iconst (pc := 47) (v := 1) C dX7_readLetters_47 (by decide) ?_
          refine z_iload (pc := 48) C dX7_readLetters_48 rfl ?_
          refine z_ishl (pc := 50) C dX7_readLetters_50 ?_
          refine w_gb 0 16 (zshl_b b13x 4 (by decide) (by decide)) (fun v15 b15x => ?_)
          refine z_istore (pc := 51) C dX7_readLetters_51 (by rw [hn]; decide) rfl ?_
          refine z_iload_n (pc := 53) C dX7_readLetters_53 rfl ?_
          refine z_iload (pc := 54) C dX7_readLetters_54 rfl ?_
          refine z_iand (pc := 56) C dX7_readLetters_56 ?_
          refine w_gp (fun v => zB v 0 16 ∧ v.toInt ≤ v15.toInt) (zand_r b37_3 b15x (by decide)) (fun v16 e16 => ?_)
          have b16x := e16.1
          have r16 := e16.2
          refine z_if_ne (pc := 57) 70 C dX7_readLetters_57 (by decide) (fun h57_16 => ?_) (fun h57_16 => ?_)
          · skip
            have b18x : zB v16 1 16 := by have q1 := b16x; have q2 := (zB.of (x := 0) 0 (by decide)); simp only [z32lt, z32le, z32eq, Int32.reduceToInt, Int32.toInt_zero] at h57_16; constructor <;> omega
            exact ih2 a37_3 b37_3 a37_4 b37_4 a37_5 b37_5 a37_s0 b13x v15 b15x g37_ hI37_ hF37_ c14x f37_18_0_7 (by omega) (by omega)
          · skip
            have b19x : zB v16 0 0 := by have q1 := b16x; have q2 := (zB.of (x := 0) 0 (by decide)); simp only [z32lt, z32le, z32eq, Int32.reduceToInt, Int32.toInt_zero] at h57_16; constructor <;> omega
            refine z_iload_n (pc := 60) C dX7_readLetters_60 rfl ?_
            refine z_if_eq (pc := 61) 81 C dX7_readLetters_61 (by decide) (fun h61_19 => ?_) (fun h61_19 => ?_)
            · skip
              have b21x : zB a2 0 0 := by have q1 := b2; have q2 := (zB.of (x := 0) 0 (by decide)); simp only [z32lt, z32le, z32eq, Int32.reduceToInt, Int32.toInt_zero] at h61_19; constructor <;> omega
              exact ih3 a37_3 b37_3 a37_4 b37_4 a37_5 b37_5 a37_s0 b13x v15 b15x g37_ hI37_ hF37_ c14x f37_18_0_7 (by omega) (by omega)
            · skip
              have b22x : zB a2 1 1 := by have q1 := b2; have q2 := (zB.of (x := 0) 0 (by decide)); simp only [z32lt, z32le, z32eq, Int32.reduceToInt, Int32.toInt_zero] at h61_19; constructor <;> omega
              refine z_iload (pc := 64) C dX7_readLetters_64 rfl ?_
              refine z_iload_n (pc := 66) C dX7_readLetters_66 rfl ?_
              refine z_icmp_ge (pc := 67) 81 C dX7_readLetters_67 (by decide) (fun h67_22 => ?_) (fun h67_22 => ?_)
              · skip
                have b24x : zB a37_3 0 16 := by have q1 := b15x; have q2 := b37_3; simp only [z32lt, z32le, z32eq, Int32.reduceToInt, Int32.toInt_zero] at h67_22; constructor <;> omega
                exact ih3 a37_3 (zB.wk (a' := 0) (b' := 31) b24x (by decide) (by decide)) a37_4 b37_4 a37_5 b37_5 a37_s0 b13x v15 b15x g37_ hI37_ hF37_ c14x f37_18_0_7 (by omega) (by omega)
              · skip
                have b25x : zB a37_3 1 31 := by have q1 := b15x; have q2 := b37_3; simp only [z32lt, z32le, z32eq, Int32.reduceToInt, Int32.toInt_zero] at h67_22; constructor <;> omega
                exact ih2 a37_3 (zB.wk (a' := 0) (b' := 31) b25x (by decide) (by decide)) a37_4 b37_4 a37_5 b37_5 a37_s0 b13x v15 b15x g37_ hI37_ hF37_ c14x f37_18_0_7 (by omega) (by omega)
        · skip
          have b26x : zB a37_s0 (-1) (-1) := by have q1 := b37_s0; have q2 := (zB.of (x := 0) 0 (by decide)); simp only [z32lt, z32le, z32eq, Int32.reduceToInt, Int32.toInt_zero] at h41_11; constructor <;> omega
          refine z_goto (pc := 44) 102 C dX7_readLetters_44 (by decide) ?_
          refine w_mask [5, 6] ?_
          exact ih4 a37_3 b37_3 a37_4 (zB.wk (a' := 0) (b' := 5) b37_4 (by decide) (by decide)) g37_ hI37_ hF37_ f37_18_0_6 f37_18_0_7 (by omega) (by omega)
      · skip
        intro a70_3 b70_3 a70_4 b70_4 a70_5 b70_5 a70_6 b70_6 a70_7 b70_7 g70_ hI70_ hF70_ f70_18_0_6 f70_18_0_7 hR70_0 hM70_
        refine z_aload_n (pc := 70) C dX7_readLetters_70 rfl ?_
        refine z_aload_n (pc := 71) C dX7_readLetters_71 rfl ?_
        refine z_getI (pc := 72) C zf_X7_33 rfl rfl (by decide) dX7_readLetters_72 ?_
        refine w_gp (fun v => v.toInt = (g70_ 18 0 6).toInt) rfl (fun v27 e27 => ?_)
        have b27x : zB v27 0 119 := by have q9 : zB (g70_ 18 0 6) 0 119 := f70_18_0_6; constructor <;> omega
        refine z_callV (pc := 75) C zk_X7_56 (w_X7_fail _ _ v27 (zB.wk (a' := 0) (b' := 120) b27x (by decide) (by decide)) hI70_) rfl rfl (by decide) rfl rfl (Nat.le_of_ble_eq_true rfl) dX7_readLetters_75 (fun r28 g28 q28 => ?_)
        obtain ⟨rfl, hI28, hF28q, hp28_0⟩ := q28
        have hF28 := zFr.tr hF70_ hF28q (by decide)
        simp only [Option.toList, List.cons_append, List.nil_append]
        have ek28_18_0_6 : (g28 18 0 6).toInt = (g70_ 18 0 6).toInt := by rw [hF28q 18 0 6 rfl]
        have c28_18_0_6x : zB (g28 18 0 6) 0 119 := by have q9 := f70_18_0_6; constructor <;> omega
        have cr28_18_0_7 : zB (g28 18 0 7) (-1) 120 := hI28 18 0 7
        refine z_goto (pc := 78) 102 C dX7_readLetters_78 (by decide) ?_
        refine w_mask [5, 6, 7] ?_
        exact ih4 a70_3 b70_3 a70_4 (zB.wk (a' := 0) (b' := 5) b70_4 (by decide) (by decide)) g28 hI28 hF28 (zB.wk c28_18_0_6x (by decide) (by decide)) cr28_18_0_7 (by omega) (by omega)
      · skip
        intro a81_3 b81_3 a81_4 b81_4 a81_5 b81_5 a81_6 b81_6 a81_7 b81_7 g81_ hI81_ hF81_ f81_18_0_6 f81_18_0_7 hR81_0 hM81_
        refine z_iload_n (pc := 81) C dX7_readLetters_81 rfl ?_
        refine z_iload (pc := 82) C dX7_readLetters_82 rfl ?_
        refine z_ior (pc := 84) C dX7_readLetters_84 ?_
        refine w_gb 0 31 (zor_b 5 b81_3 b81_7 (by decide) (by decide) (by decide) (by decide) (by decide)) (fun v29 b29x => ?_)
        refine z_istore_n (pc := 85) C dX7_readLetters_85 (by rw [hn]; decide) rfl ?_
        refine z_aload_n (pc := 86) C dX7_readLetters_86 rfl ?_
        refine z_dupr (pc := 87) C dX7_readLetters_87 ?_
        refine z_getI (pc := 88) C zf_X7_33 rfl rfl (by decide) dX7_readLetters_88 ?_
        refine w_gp (fun v => v.toInt = (g81_ 18 0 6).toInt) rfl (fun v30 e30 => ?_)
        have b30x : zB v30 0 119 := by have q9 : zB (g81_ 18 0 6) 0 119 := f81_18_0_6; constructor <;> omega
        refine z_iconst (pc := 91) (v := 1) C dX7_readLetters_91 (by decide) ?_
        refine z_iadd (pc := 92) C dX7_readLetters_92 ?_
        refine w_gp (fun v => v.toInt = v30.toInt + 1) (zadd_eb b30x (zB.of (x := 1) 1 (by decide)) (by decide) (by decide)) (fun v31 e31 => ?_)
        have b31x : zB v31 1 120 := by have q1 := b30x; have q2 := (zB.of (x := 1) 1 (by decide)); constructor <;> omega
        refine z_putI (pc := 93) C zf_X7_33 zp_7_6 rfl rfl (by decide) dX7_readLetters_93 ?_
        refine w_mem2 hI81_ hF81_ (zB.wk (a' := 0) (b' := 120) b31x (by decide) (by decide)) rfl (fun g32 hI32 hF32 hq32 hx32 => ?_)
        have ec32 : (g32 18 0 6).toInt = v31.toInt := by rw [hx32]
        have c32x : zB (g32 18 0 6) 1 120 := by have q9 := b31x; constructor <;> omega
        have ek32_18_0_7 : (g32 18 0 7).toInt = (g81_ 18 0 7).toInt := by rw [hq32 18 0 7 (by omega)]
        have c32_18_0_7x : zB (g32 18 0 7) (-1) 120 := by have q9 := f81_18_0_7; constructor <;> omega
        refine z_iinc (pc := 96) (v := 1) C dX7_readLetters_96 rfl (by decide) (by rw [hn]; decide) rfl ?_
        obtain ⟨v33, hv33, e33⟩ : ∃ v : Int32, v = a81_4 + 1 ∧ v.toInt = a81_4.toInt + 1 := ⟨_, rfl, zadd_eb b81_4 (zB.of (x := 1) 1 (by decide)) (by decide) (by decide)⟩
        rw [← hv33]
        have b33x : zB v33 1 5 := by have q9 := b81_4; constructor <;> omega
        refine z_goto (pc := 99) 5 C dX7_readLetters_99 (by decide) ?_
        refine w_mask [5, 6, 7] ?_
        exact ih0 v29 b29x v33 (zB.wk (a' := 0) (b' := 5) b33x (by decide) (by decide)) g32 hI32 hF32 (zB.wk c32x (by decide) (by decide)) c32_18_0_7x (by omega) (by omega)
      · skip
        intro a102_3 b102_3 a102_4 b102_4 g102_ hI102_ hF102_ f102_18_0_6 f102_18_0_7 hR102_0 hM102_
        refine z_iload_n (pc := 102) C dX7_readLetters_102 rfl ?_
        exact z_iret (pc := 103) C hr dX7_readLetters_103 ⟨⟨_, rfl, b102_3⟩, hI102_, hF102_, (by intro v hv; cases hv; omega)⟩
  obtain ⟨J0, J1, J2, J3, J4⟩ := J 58
  show Z X 0 [some (zr 18 0), some (zr 44 1), some (zi a2), none, none, none, none, none] [] f
  refine z_iconst (pc := 0) (v := 0) C dX7_readLetters_0 (by decide) ?_
  refine z_istore_n (pc := 1) C dX7_readLetters_1 (by rw [hn]; decide) rfl ?_
  refine z_iconst (pc := 2) (v := 0) C dX7_readLetters_2 (by decide) ?_
  refine z_istore (pc := 3) C dX7_readLetters_3 (by rw [hn]; decide) rfl ?_
  exact J0 0 (zB.wk (a' := 0) (b' := 31) (zB.of (x := 0) 0 (by decide)) (by decide) (by decide)) 0 (zB.wk (a' := 0) (b' := 5) (zB.of (x := 0) 0 (by decide)) (by decide) (by decide)) f hI hF ct18_0_6 ct18_0_7 (by have qc0 : (0 : Int32).toInt = 0 := (by decide); omega) (by have qc0 : (0 : Int32).toInt = 0 := (by decide); omega)

set_option maxRecDepth 100000 in
set_option maxHeartbeats 4000000 in
theorem w_X7_readLetters_1 (d : Nat) (f : zM) (a2 : Int32) (b2 : zB a2 0 1) (hI : zInv f) : ZMs (d + 4) yX7_readLetters cX7_readLetters 8 (some .int) [zr 18 0, zr 44 2, zi a2] f (fun r g => (∃ v, r = some (zi v) ∧ zB v 0 7) ∧ zInv g ∧ zFr [(18, some 6), (18, some 7)] f g ∧ (∀ v : Int32, r = some (zi v) → ((g 18 0 7).toInt = -1 → (f 18 0 7).toInt = -1))) := by
  refine ZMs.intro (by decide +kernel) (Nat.le_of_ble_eq_true rfl) ?_
  intro X C hr hn hT
  have hF : zFr [(18, some 6), (18, some 7)] f f := zFr.rf _ _
  have ct18_0_6 : zB (f 18 0 6) 0 120 := hI 18 0 6
  have ct18_0_7 : zB (f 18 0 7) (-1) 120 := hI 18 0 7
  have J : ∀ t : Nat, (∀ a5_3 : Int32, zB a5_3 0 7 → ∀ a5_4 : Int32, zB a5_4 0 3 → ∀ g : zM, zInv g → zFr [(18, some 6), (18, some 7)] f g → zB (g 18 0 6) 0 120 → zB (g 18 0 7) (-1) 120 → (((g 18 0 7).toInt = -1 → (f 18 0 7).toInt = -1)) → (4 + 7 * (3 - a5_4.toInt) : Int) < t → Z X 5 [some (zr 18 0), some (zr 44 2), some (zi a2), some (zi a5_3), some (zi a5_4), none, none, none] [] g) ∧ (∀ a37_3 : Int32, zB a37_3 0 7 → ∀ a37_4 : Int32, zB a37_4 0 2 → ∀ a37_5 : Int32, zB a37_5 (-1) 255 → ∀ a37_s0 : Int32, zB a37_s0 (-1) 2 → ∀ g : zM, zInv g → zFr [(18, some 6), (18, some 7)] f g → zB (g 18 0 6) 0 120 → zB (g 18 0 7) (-1) 120 → (((g 18 0 7).toInt = -1 → (f 18 0 7).toInt = -1)) → ((0 ≤ a37_s0.toInt → 0 ≤ (g 18 0 6).toInt ∧ (g 18 0 6).toInt ≤ 119)) → (3 + 7 * (3 - a37_4.toInt) : Int) < t → Z X 37 [some (zr 18 0), some (zr 44 2), some (zi a2), some (zi a37_3), some (zi a37_4), some (zi a37_5), none, none] [zi a37_s0] g) ∧ (∀ a70_3 : Int32, zB a70_3 0 7 → ∀ a70_4 : Int32, zB a70_4 0 2 → ∀ a70_5 : Int32, zB a70_5 (-1) 255 → ∀ a70_6 : Int32, zB a70_6 0 2 → ∀ a70_7 : Int32, zB a70_7 0 4 → ∀ g : zM, zInv g → zFr [(18, some 6), (18, some 7)] f g → zB (g 18 0 6) 0 119 → zB (g 18 0 7) (-1) 120 → (((g 18 0 7).toInt = -1 → (f 18 0 7).toInt = -1)) → (2 + 7 * (3 - a70_4.toInt) : Int) < t → Z X 70 [some (zr 18 0), some (zr 44 2), some (zi a2), some (zi a70_3), some (zi a70_4), some (zi a70_5), some (zi a70_6), some (zi a70_7)] [] g) ∧ (∀ a81_3 : Int32, zB a81_3 0 7 → ∀ a81_4 : Int32, zB a81_4 0 2 → ∀ a81_5 : Int32, zB a81_5 (-1) 255 → ∀ a81_6 : Int32, zB a81_6 0 2 → ∀ a81_7 : Int32, zB a81_7 0 4 → ∀ g : zM, zInv g → zFr [(18, some 6), (18, some 7)] f g → zB (g 18 0 6) 0 119 → zB (g 18 0 7) (-1) 120 → (((g 18 0 7).toInt = -1 → (f 18 0 7).toInt = -1)) → (1 + 7 * (3 - a81_4.toInt) : Int) < t → Z X 81 [some (zr 18 0), some (zr 44 2), some (zi a2), some (zi a81_3), some (zi a81_4), some (zi a81_5), some (zi a81_6), some (zi a81_7)] [] g) ∧ (∀ a102_3 : Int32, zB a102_3 0 7 → ∀ a102_4 : Int32, zB a102_4 0 3 → ∀ g : zM, zInv g → zFr [(18, some 6), (18, some 7)] f g → zB (g 18 0 6) 0 120 → zB (g 18 0 7) (-1) 120 → (((g 18 0 7).toInt = -1 → (f 18 0 7).toInt = -1)) → (0 : Int) < t → Z X 102 [some (zr 18 0), some (zr 44 2), some (zi a2), some (zi a102_3), some (zi a102_4), none, none, none] [] g) := by
    intro t
    induction t with
    | zero =>
      refine ⟨?_, ?_, ?_, ?_, ?_⟩ <;> (intros; exfalso; omega)
    | succ t ih =>
      obtain ⟨ih0, ih1, ih2, ih3, ih4⟩ := ih
      refine ⟨?_, ?_, ?_, ?_, ?_⟩
      · skip
        intro a5_3 b5_3 a5_4 b5_4 g5_ hI5_ hF5_ f5_18_0_6 f5_18_0_7 hR5_0 hM5_
        refine z_iload (pc := 5) C dX7_readLetters_5 rfl ?_
        refine z_aload_n (pc := 7) C dX7_readLetters_7 rfl ?_
        refine z_callT (pc := 8) C hT zk_X7_117 (t_J0_length_8abf5 _ _ 1 (by decide)) (by decide) rfl rfl rfl (Nat.le_of_ble_eq_true rfl) dX7_readLetters_8 (fun r8 g8 q8 => ?_)
        obtain ⟨rfl, hm8⟩ := q8
        obtain rfl := hm8.symm
        simp only [Option.toList, List.cons_append, List.nil_append]
        refine w_gb 3 3 (show (3 : Int) ≤ (nI (zLen.getD 1 0)).toInt ∧ (nI (zLen.getD 1 0)).toInt ≤ 3 from by decide) (fun v1 b1x => ?_)
        refine z_icmp_ge (pc := 11) 102 C dX7_readLetters_11 (by decide) (fun h11_1 => ?_) (fun h11_1 => ?_)
        · skip
          have b3x : zB a5_4 3 3 := by have q1 := b5_4; have q2 := b1x; simp only [z32lt, z32le, z32eq, Int32.reduceToInt, Int32.toInt_zero] at h11_1; constructor <;> omega
          exact ih4 a5_3 b5_3 a5_4 (zB.wk (a' := 0) (b' := 3) b3x (by decide) (by decide)) g5_ hI5_ hF5_ f5_18_0_6 f5_18_0_7 (by omega) (by omega)
        · skip
          have b4x : zB a5_4 0 2 := by have q1 := b5_4; have q2 := b1x; simp only [z32lt, z32le, z32eq, Int32.reduceToInt, Int32.toInt_zero] at h11_1; constructor <;> omega
          refine z_aload_n (pc := 14) C dX7_readLetters_14 rfl ?_
          refine z_callV (pc := 15) C zk_X7_52 (w_X7_next _ _  hI5_) rfl rfl (by decide) rfl rfl (Nat.le_of_ble_eq_true rfl) dX7_readLetters_15 (fun r5 g5 q5 => ?_)
          obtain ⟨⟨v5, rfl, b5x⟩, hI5, hF5q, hp5_0, hp5_1, hp5_2, hp5_3⟩ := q5
          have hp5_0 := hp5_0 _ rfl
          have hp5_1 := hp5_1 _ rfl
          have hp5_2 := hp5_2 _ rfl
          have hp5_3 := hp5_3 _ rfl
          have hF5 := zFr.tr hF5_ hF5q (by decide)
          simp only [Option.toList, List.cons_append, List.nil_append]
          have cr5_18_0_6 : zB (g5 18 0 6) 0 120 := hI5 18 0 6
          have ek5_18_0_7 : (g5 18 0 7).toInt = (g5_ 18 0 7).toInt := by rw [hF5q 18 0 7 rfl]
          have c5_18_0_7x : zB (g5 18 0 7) (-1) 120 := by have q9 := f5_18_0_7; constructor <;> omega
          refine z_istore (pc := 18) C dX7_readLetters_18 (by rw [hn]; decide) rfl ?_
          refine z_iload (pc := 20) C dX7_readLetters_20 rfl ?_
          refine z_iconst (pc := 22) (v := -1) C dX7_readLetters_22 (by decide) ?_
          refine z_icmp_ne (pc := 23) 30 C dX7_readLetters_23 (by decide) (fun h23_5 => ?_) (fun h23_5 => ?_)
          · skip
            have b7x : zB v5 0 255 := by have q1 := b5x; have q2 := (zB.of (x := (-1)) (-1) (by decide)); simp only [z32lt, z32le, z32eq, Int32.reduceToInt, Int32.toInt_zero] at h23_5; constructor <;> omega
            have c8x : zB (g5 18 0 6) 0 119 := by constructor <;> omega
            refine z_aload_n (pc := 30) C dX7_readLetters_30 rfl ?_
            refine z_iload (pc := 31) C dX7_readLetters_31 rfl ?_
            refine z_i2c (pc := 33) C dX7_readLetters_33 ?_
            refine w_gb 0 255 (zi2c_b b7x (by decide) (by decide)) (fun v9 b9x => ?_)
            refine z_callT (pc := 34) C hT zk_X7_121 (t_J0_indexOf_0f7a4 _ _ 1 (by decide) v9) (by decide) rfl rfl rfl (Nat.le_of_ble_eq_true rfl) dX7_readLetters_34 (fun r34 g34 q34 => ?_)
            obtain ⟨⟨v10, rfl, b10y⟩, hm34⟩ := q34
            obtain rfl := hm34.symm
            simp only [Option.toList, List.cons_append, List.nil_append]
            have b10x : zB v10 (-1) 2 := b10y
            exact ih1 a5_3 b5_3 a5_4 b4x v5 (zB.wk (a' := (-1)) (b' := 255) b7x (by decide) (by decide)) v10 b10x g5 hI5 hF5 (zB.wk c8x (by decide) (by decide)) c5_18_0_7x (by omega) (by omega) (by omega)
          · skip
            have b11x : zB v5 (-1) (-1) := by have q1 := b5x; have q2 := (zB.of (x := (-1)) (-1) (by decide)); simp only [z32lt, z32le, z32eq, Int32.reduceToInt, Int32.toInt_zero] at h23_5; constructor <;> omega
            refine z_iconst (pc := 26) (v := -1) C dX7_readLetters_26 (by decide) ?_
            refine z_goto (pc := 27) 37 C dX7_readLetters_27 (by decide) ?_
            exact ih1 a5_3 b5_3 a5_4 b4x v5 (zB.wk (a' := (-1)) (b' := 255) b11x (by decide) (by decide)) (-1) (zB.wk (a' := (-1)) (b' := 2) (zB.of (x := (-1)) (-1) (by decide)) (by decide) (by decide)) g5 hI5 hF5 cr5_18_0_6 c5_18_0_7x (by have qc0 : ((-1) : Int32).toInt = (-1) := (by decide); omega) (by have qc0 : ((-1) : Int32).toInt = (-1) := (by decide); omega) (by have qc0 : ((-1) : Int32).toInt = (-1) := (by decide); omega)
      · skip
        intro a37_3 b37_3 a37_4 b37_4 a37_5 b37_5 a37_s0 b37_s0 g37_ hI37_ hF37_ f37_18_0_6 f37_18_0_7 hR37_0 hR37_1 hM37_
        refine z_istore (pc := 37) C dX7_readLetters_37 (by rw [hn]; decide) rfl ?_
        refine z_iload (pc := 39) C dX7_readLetters_39 rfl ?_
        refine z_if_ge (pc := 41) 47 C dX7_readLetters_41 (by decide) (fun h41_11 => ?_) (fun h41_11 => ?_)
        · skip
          have b13x : zB a37_s0 0 2 := by have q1 := b37_s0; have q2 := (zB.of (x := 0) 0 (by decide)); simp only [z32lt, z32le, z32eq, Int32.reduceToInt, Int32.toInt_zero] at h41_11; constructor <;> omega
          have c14x : zB (g37_ 18 0 6) 0 119 := by constructor <;> omega
          refine z_iconst (pc := 47) (v := 1) C dX7_readLetters_47 (by decide) ?_
          refine z_iload (pc := 48) C dX7_readLetters_48 rfl ?_
          refine z_ishl (pc := 50) C dX7_readLetters_50 ?_
          refine w_gb 0 4 (zshl_b b13x 2 (by decide) (by decide)) (fun v15 b15x => ?_)
          refine z_istore (pc := 51) C dX7_readLetters_51 (by rw [hn]; decide) rfl ?_
          refine z_iload_n (pc := 53) C dX7_readLetters_53 rfl ?_
          refine z_iload (pc := 54) C dX7_readLetters_54 rfl ?_
          refine z_iand (pc := 56) C dX7_readLetters_56 ?_
          refine w_gp (fun v => zB v 0 4 ∧ v.toInt ≤ v15.toInt) (zand_r b37_3 b15x (by decide)) (fun v16 e16 => ?_)
          have b16x := e16.1
          have r16 := e16.2
          refine z_if_ne (pc := 57) 70 C dX7_readLetters_57 (by decide) (fun h57_16 => ?_) (fun h57_16 => ?_)
          · skip
            have b18x : zB v16 1 4 := by have q1 := b16x; have q2 := (zB.of (x := 0) 0 (by decide)); simp only [z32lt, z32le, z32eq, Int32.reduceToInt, Int32.toInt_zero] at h57_16; constructor <;> omega
            exact ih2 a37_3 b37_3 a37_4 b37_4 a37_5 b37_5 a37_s0 b13x v15 b15x g37_ hI37_ hF37_ c14x f37_18_0_7 (by omega) (by omega)
          · skip
            have b19x : zB v16 0 0 := by have q1 := b16x; have q2 := (zB.of (x := 0) 0 (by decide)); simp only [z32lt, z32le, z32eq, Int32.reduceToInt, Int32.toInt_zero] at h57_16; constructor <;> omega
            refine z_iload_n (pc := 60) C dX7_readLetters_60 rfl ?_
            refine z_if_eq (pc := 61) 81 C dX7_readLetters_61 (by decide) (fun h61_19 => ?_) (fun h61_19 => ?_)
            · skip
              have b21x : zB a2 0 0 := by have q1 := b2; have q2 := (zB.of (x := 0) 0 (by decide)); simp only [z32lt, z32le, z32eq, Int32.reduceToInt, Int32.toInt_zero] at h61_19; constructor <;> omega
              exact ih3 a37_3 b37_3 a37_4 b37_4 a37_5 b37_5 a37_s0 b13x v15 b15x g37_ hI37_ hF37_ c14x f37_18_0_7 (by omega) (by omega)
            · skip
              have b22x : zB a2 1 1 := by have q1 := b2; have q2 := (zB.of (x := 0) 0 (by decide)); simp only [z32lt, z32le, z32eq, Int32.reduceToInt, Int32.toInt_zero] at h61_19; constructor <;> omega
              refine z_iload (pc := 64) C dX7_readLetters_64 rfl ?_
              refine z_iload_n (pc := 66) C dX7_readLetters_66 rfl ?_
              refine z_icmp_ge (pc := 67) 81 C dX7_readLetters_67 (by decide) (fun h67_22 => ?_) (fun h67_22 => ?_)
              · skip
                have b24x : zB a37_3 0 4 := by have q1 := b15x; have q2 := b37_3; simp only [z32lt, z32le, z32eq, Int32.reduceToInt, Int32.toInt_zero] at h67_22; constructor <;> omega
                exact ih3 a37_3 (zB.wk (a' := 0) (b' := 7) b24x (by decide) (by decide)) a37_4 b37_4 a37_5 b37_5 a37_s0 b13x v15 b15x g37_ hI37_ hF37_ c14x f37_18_0_7 (by omega) (by omega)
              · skip
                have b25x : zB a37_3 1 7 := by have q1 := b15x; have q2 := b37_3; simp only [z32lt, z32le, z32eq, Int32.reduceToInt, Int32.toInt_zero] at h67_22; constructor <;> omega
                exact ih2 a37_3 (zB.wk (a' := 0) (b' := 7) b25x (by decide) (by decide)) a37_4 b37_4 a37_5 b37_5 a37_s0 b13x v15 b15x g37_ hI37_ hF37_ c14x f37_18_0_7 (by omega) (by omega)
        · skip
          have b26x : zB a37_s0 (-1) (-1) := by have q1 := b37_s0; have q2 := (zB.of (x := 0) 0 (by decide)); simp only [z32lt, z32le, z32eq, Int32.reduceToInt, Int32.toInt_zero] at h41_11; constructor <;> omega
          refine z_goto (pc := 44) 102 C dX7_readLetters_44 (by decide) ?_
          refine w_mask [5, 6] ?_
          exact ih4 a37_3 b37_3 a37_4 (zB.wk (a' := 0) (b' := 3) b37_4 (by decide) (by decide)) g37_ hI37_ hF37_ f37_18_0_6 f37_18_0_7 (by omega) (by omega)
      · skip
        intro a70_3 b70_3 a70_4 b70_4 a70_5 b70_5 a70_6 b70_6 a70_7 b70_7 g70_ hI70_ hF70_ f70_18_0_6 f70_18_0_7 hR70_0 hM70_
        refine z_aload_n (pc := 70) C dX7_readLetters_70 rfl ?_
        refine z_aload_n (pc := 71) C dX7_readLetters_71 rfl ?_
        refine z_getI (pc := 72) C zf_X7_33 rfl rfl (by decide) dX7_readLetters_72 ?_
        refine w_gp (fun v => v.toInt = (g70_ 18 0 6).toInt) rfl (fun v27 e27 => ?_)
        have b27x : zB v27 0 119 := by have q9 : zB (g70_ 18 0 6) 0 119 := f70_18_0_6; constructor <;> omega
        refine z_callV (pc := 75) C zk_X7_56 (w_X7_fail _ _ v27 (zB.wk (a' := 0) (b' := 120) b27x (by decide) (by decide)) hI70_) rfl rfl (by decide) rfl rfl (Nat.le_of_ble_eq_true rfl) dX7_readLetters_75 (fun r28 g28 q28 => ?_)
        obtain ⟨rfl, hI28, hF28q, hp28_0⟩ := q28
        have hF28 := zFr.tr hF70_ hF28q (by decide)
        simp only [Option.toList, List.cons_append, List.nil_append]
        have ek28_18_0_6 : (g28 18 0 6).toInt = (g70_ 18 0 6).toInt := by rw [hF28q 18 0 6 rfl]
        have c28_18_0_6x : zB (g28 18 0 6) 0 119 := by have q9 := f70_18_0_6; constructor <;> omega
        have cr28_18_0_7 : zB (g28 18 0 7) (-1) 120 := hI28 18 0 7
        refine z_goto (pc := 78) 102 C dX7_readLetters_78 (by decide) ?_
        refine w_mask [5, 6, 7] ?_
        exact ih4 a70_3 b70_3 a70_4 (zB.wk (a' := 0) (b' := 3) b70_4 (by decide) (by decide)) g28 hI28 hF28 (zB.wk c28_18_0_6x (by decide) (by decide)) cr28_18_0_7 (by omega) (by omega)
      · skip
        intro a81_3 b81_3 a81_4 b81_4 a81_5 b81_5 a81_6 b81_6 a81_7 b81_7 g81_ hI81_ hF81_ f81_18_0_6 f81_18_0_7 hR81_0 hM81_
        refine z_iload_n (pc := 81) C dX7_readLetters_81 rfl ?_
        refine z_iload (pc := 82) C dX7_readLetters_82 rfl ?_
        refine z_ior (pc := 84) C dX7_readLetters_84 ?_
        refine w_gb 0 7 (zor_b 3 b81_3 b81_7 (by decide) (by decide) (by decide) (by decide) (by decide)) (fun v29 b29x => ?_)
        refine z_istore_n (pc := 85) C dX7_readLetters_85 (by rw [hn]; decide) rfl ?_
        refine z_aload_n (pc := 86) C dX7_readLetters_86 rfl ?_
        refine z_dupr (pc := 87) C dX7_readLetters_87 ?_
        refine z_getI (pc := 88) C zf_X7_33 rfl rfl (by decide) dX7_readLetters_88 ?_
        refine w_gp (fun v => v.toInt = (g81_ 18 0 6).toInt) rfl (fun v30 e30 => ?_)
        have b30x : zB v30 0 119 := by have q9 : zB (g81_ 18 0 6) 0 119 := f81_18_0_6; constructor <;> omega
        refine z_iconst (pc := 91) (v := 1) C dX7_readLetters_91 (by decide) ?_
        refine z_iadd (pc := 92) C dX7_readLetters_92 ?_
        refine w_gp (fun v => v.toInt = v30.toInt + 1) (zadd_eb b30x (zB.of (x := 1) 1 (by decide)) (by decide) (by decide)) (fun v31 e31 => ?_)
        have b31x : zB v31 1 120 := by have q1 := b30x; have q2 := (zB.of (x := 1) 1 (by decide)); constructor <;> omega
        refine z_putI (pc := 93) C zf_X7_33 zp_7_6 rfl rfl (by decide) dX7_readLetters_93 ?_
        refine w_mem2 hI81_ hF81_ (zB.wk (a' := 0) (b' := 120) b31x (by decide) (by decide)) rfl (fun g32 hI32 hF32 hq32 hx32 => ?_)
        have ec32 : (g32 18 0 6).toInt = v31.toInt := by rw [hx32]
        have c32x : zB (g32 18 0 6) 1 120 := by have q9 := b31x; constructor <;> omega
        have ek32_18_0_7 : (g32 18 0 7).toInt = (g81_ 18 0 7).toInt := by rw [hq32 18 0 7 (by omega)]
        have c32_18_0_7x : zB (g32 18 0 7) (-1) 120 := by have q9 := f81_18_0_7; constructor <;> omega
        refine z_iinc (pc := 96) (v := 1) C dX7_readLetters_96 rfl (by decide) (by rw [hn]; decide) rfl ?_
        obtain ⟨v33, hv33, e33⟩ : ∃ v : Int32, v = a81_4 + 1 ∧ v.toInt = a81_4.toInt + 1 := ⟨_, rfl, zadd_eb b81_4 (zB.of (x := 1) 1 (by decide)) (by decide) (by decide)⟩
        rw [← hv33]
        have b33x : zB v33 1 3 := by have q9 := b81_4; constructor <;> omega
        refine z_goto (pc := 99) 5 C dX7_readLetters_99 (by decide) ?_
        refine w_mask [5, 6, 7] ?_
        exact ih0 v29 b29x v33 (zB.wk (a' := 0) (b' := 3) b33x (by decide) (by decide)) g32 hI32 hF32 (zB.wk c32x (by decide) (by decide)) c32_18_0_7x (by omega) (by omega)
      · skip
        intro a102_3 b102_3 a102_4 b102_4 g102_ hI102_ hF102_ f102_18_0_6 f102_18_0_7 hR102_0 hM102_
        refine z_iload_n (pc := 102) C dX7_readLetters_102 rfl ?_
        exact z_iret (pc := 103) C hr dX7_readLetters_103 ⟨⟨_, rfl, b102_3⟩, hI102_, hF102_, (by intro v hv; cases hv; omega)⟩
  obtain ⟨J0, J1, J2, J3, J4⟩ := J 44
  show Z X 0 [some (zr 18 0), some (zr 44 2), some (zi a2), none, none, none, none, none] [] f
  refine z_iconst (pc := 0) (v := 0) C dX7_readLetters_0 (by decide) ?_
  refine z_istore_n (pc := 1) C dX7_readLetters_1 (by rw [hn]; decide) rfl ?_
  refine z_iconst (pc := 2) (v := 0) C dX7_readLetters_2 (by decide) ?_
  refine z_istore (pc := 3) C dX7_readLetters_3 (by rw [hn]; decide) rfl ?_
  exact J0 0 (zB.wk (a' := 0) (b' := 7) (zB.of (x := 0) 0 (by decide)) (by decide) (by decide)) 0 (zB.wk (a' := 0) (b' := 3) (zB.of (x := 0) 0 (by decide)) (by decide) (by decide)) f hI hF ct18_0_6 ct18_0_7 (by have qc0 : (0 : Int32).toInt = 0 := (by decide); omega) (by have qc0 : (0 : Int32).toInt = 0 := (by decide); omega)

set_option maxRecDepth 100000 in
set_option maxHeartbeats 4000000 in
theorem w_X7_readPromises (d : Nat) (f : zM)  (hI : zInv f) : ZMs (d + 5) yX7_readPromises cX7_readPromises 2 (some .int) [zr 18 0] f (fun r g => (∃ v, r = some (zi v) ∧ zB v 0 7) ∧ zInv g ∧ zFr [(18, some 6), (18, some 7)] f g ∧ (∀ v : Int32, r = some (zi v) → ((g 18 0 7).toInt = -1 → (f 18 0 7).toInt = -1))) := by
  refine ZMs.intro (by decide +kernel) (Nat.le_of_ble_eq_true rfl) ?_
  intro X C hr hn hT
  have hF : zFr [(18, some 6), (18, some 7)] f f := zFr.rf _ _
  have ct18_0_7 : zB (f 18 0 7) (-1) 120 := hI 18 0 7
  have J : ∀ t : Nat, (∀ a20_1 : Int32, zB a20_1 0 7 → ∀ g : zM, zInv g → zFr [(18, some 6), (18, some 7)] f g → zB (g 18 0 7) (-1) 120 → (((g 18 0 7).toInt = -1 → (f 18 0 7).toInt = -1)) → (0 : Int) < t → Z X 20 [some (zr 18 0), some (zi a20_1)] [] g) := by
    intro t
    induction t with
    | zero =>
      intros; exfalso; omega
    | succ t ih =>
      have ih0 := ih
      intro a20_1 b20_1 g20_ hI20_ hF20_ f20_18_0_7 hR20_0 hM20_
      refine z_iload_n (pc := 20) C dX7_readPromises_20 rfl ?_
      exact z_iret (pc := 21) C hr dX7_readPromises_21 ⟨⟨_, rfl, b20_1⟩, hI20_, hF20_, (by intro v hv; cases hv; omega)⟩
  have J0 := J 12
  show Z X 0 [some (zr 18 0), none] [] f
  refine z_aload_n (pc := 0) C dX7_readPromises_0 rfl ?_
  refine z_ldcT (pc := 1) (i := 1) (tx := "") C hT (Or.inr ⟨rfl, rfl⟩) dX7_readPromises_1 ?_
  refine z_iconst (pc := 3) (v := 1) C dX7_readPromises_3 (by decide) ?_
  refine z_callVS (pc := 4) C hT zk_X7_91 (w_X7_readLetters_1 _ _ 1 (zB.wk (a' := 0) (b' := 1) (zB.of (x := 1) 1 (by decide)) (by decide) (by decide)) hI) rfl rfl (by decide) rfl rfl (Nat.le_of_ble_eq_true rfl) dX7_readPromises_4 (fun r1 g1 q1 => ?_)
  have qa1_1 : (1 : Int32).toInt = 1 := by decide
  obtain ⟨⟨v1, rfl, b1x⟩, hI1, hF1q, hp1_0⟩ := q1
  have hp1_0 := hp1_0 _ rfl
  have hF1 := zFr.tr hF hF1q (by decide)
  simp only [Option.toList, List.cons_append, List.nil_append]
  have cr1_18_0_7 : zB (g1 18 0 7) (-1) 120 := hI1 18 0 7
  refine z_istore_n (pc := 7) C dX7_readPromises_7 (by rw [hn]; decide) rfl ?_
  refine z_iload_n (pc := 8) C dX7_readPromises_8 rfl ?_
  refine z_if_ne (pc := 9) 20 C dX7_readPromises_9 (by decide) (fun h9_1 => ?_) (fun h9_1 => ?_)
  · skip
    have b3x : zB v1 1 7 := by have q1 := b1x; have q2 := (zB.of (x := 0) 0 (by decide)); simp only [z32lt, z32le, z32eq, Int32.reduceToInt, Int32.toInt_zero] at h9_1; constructor <;> omega
    exact J0 v1 (zB.wk (a' := 0) (b' := 7) b3x (by decide) (by decide)) g1 hI1 hF1 cr1_18_0_7 (by omega) (by omega)
  · skip
    have b4x : zB v1 0 0 := by have q1 := b1x; have q2 := (zB.of (x := 0) 0 (by decide)); simp only [z32lt, z32le, z32eq, Int32.reduceToInt, Int32.toInt_zero] at h9_1; constructor <;> omega
    refine z_aload_n (pc := 12) C dX7_readPromises_12 rfl ?_
    refine z_aload_n (pc := 13) C dX7_readPromises_13 rfl ?_
    refine z_getI (pc := 14) C zf_X7_33 rfl rfl (by decide) dX7_readPromises_14 ?_
    refine w_gb 0 120 (hI1 18 _ 6) (fun v5 b5x => ?_)
    refine z_callV (pc := 17) C zk_X7_56 (w_X7_fail _ _ v5 b5x hI1) rfl rfl (by decide) rfl rfl (Nat.le_of_ble_eq_true rfl) dX7_readPromises_17 (fun r6 g6 q6 => ?_)
    obtain ⟨rfl, hI6, hF6q, hp6_0⟩ := q6
    have hF6 := zFr.tr hF1 hF6q (by decide)
    simp only [Option.toList, List.cons_append, List.nil_append]
    have cr6_18_0_7 : zB (g6 18 0 7) (-1) 120 := hI6 18 0 7
    exact J0 v1 (zB.wk (a' := 0) (b' := 7) b4x (by decide) (by decide)) g6 hI6 hF6 cr6_18_0_7 (by omega) (by omega)

set_option maxRecDepth 100000 in
set_option maxHeartbeats 4000000 in
theorem w_X7_readPaper (d : Nat) (f : zM) (a1 : Int32) (b1 : zB a1 0 5) (hI : zInv f) : ZMs (d + 6) yX7_readPaper cX7_readPaper 9 none [zr 18 0, zi a1] f (fun r g => r = none ∧ zInv g ∧ zFr [(11, some 0), (11, some 1), (11, some 2), (11, some 3), (11, some 4), (11, some 5), (11, some 6), (11, some 7), (18, some 5), (18, some 6), (18, some 7)] f g ∧ (((g 18 0 7).toInt = -1 → (f 18 0 7).toInt = -1))) := by
  refine ZMs.intro (by decide +kernel) (Nat.le_of_ble_eq_true rfl) ?_
  intro X C hr hn hT
  have hF : zFr [(11, some 0), (11, some 1), (11, some 2), (11, some 3), (11, some 4), (11, some 5), (11, some 6), (11, some 7), (18, some 5), (18, some 6), (18, some 7)] f f := zFr.rf _ _
  have ct18_0_7 : zB (f 18 0 7) (-1) 120 := hI 18 0 7
  have ct18_0_5 : zB (f 18 0 5) 0 12 := hI 18 0 5
  have J : ∀ t : Nat, (∀ a38_2 : Int32, zB a38_2 0 5 → ∀ a38_3 : Int32, zB a38_3 0 1 → ∀ a38_4 : Int32, zB a38_4 (-2147483648) 1000 → ∀ g : zM, zInv g → zFr [(11, some 0), (11, some 1), (11, some 2), (11, some 3), (11, some 4), (11, some 5), (11, some 6), (11, some 7), (18, some 5), (18, some 6), (18, some 7)] f g → zB (g 18 0 5) 0 12 → zB (g 18 0 7) (-1) 120 → (((g 18 0 7).toInt = -1 → (f 18 0 7).toInt = -1)) → (((g 18 0 7).toInt = -1 → 1 ≤ a38_4.toInt ∧ a38_4.toInt ≤ 40)) → (4 : Int) < t → Z X 38 [some (zr 18 0), some (zi a1), some (zi a38_2), some (zi a38_3), some (zi a38_4), none, none, none, none] [] g) ∧ (∀ a67_2 : Int32, zB a67_2 0 5 → ∀ a67_3 : Int32, zB a67_3 0 1 → ∀ a67_4 : Int32, zB a67_4 (-2147483648) 1000 → ∀ a67_5 : Int32, zB a67_5 0 31 → ∀ a67_s0 : Int32, zB a67_s0 (-2147483648) 1000 → ∀ g : zM, zInv g → zFr [(11, some 0), (11, some 1), (11, some 2), (11, some 3), (11, some 4), (11, some 5), (11, some 6), (11, some 7), (18, some 5), (18, some 6), (18, some 7)] f g → zB (g 18 0 5) 0 12 → zB (g 18 0 7) (-1) 120 → (((g 18 0 7).toInt = -1 → (f 18 0 7).toInt = -1)) → (((g 18 0 7).toInt = -1 → 1 ≤ a67_4.toInt ∧ a67_4.toInt ≤ 40)) → (((g 18 0 7).toInt = -1 → 0 ≤ a67_s0.toInt ∧ a67_s0.toInt ≤ 99)) → (3 : Int) < t → Z X 67 [some (zr 18 0), some (zi a1), some (zi a67_2), some (zi a67_3), some (zi a67_4), some (zi a67_5), none, none, none] [zi a67_s0] g) ∧ (∀ a86_2 : Int32, zB a86_2 0 5 → ∀ a86_3 : Int32, zB a86_3 0 1 → ∀ a86_4 : Int32, zB a86_4 (-2147483648) 1000 → ∀ a86_5 : Int32, zB a86_5 0 31 → ∀ a86_6 : Int32, zB a86_6 (-2147483648) 1000 → ∀ a86_s0 : Int32, zB a86_s0 0 7 → ∀ g : zM, zInv g → zFr [(11, some 0), (11, some 1), (11, some 2), (11, some 3), (11, some 4), (11, some 5), (11, some 6), (11, some 7), (18, some 5), (18, some 6), (18, some 7)] f g → zB (g 18 0 5) 0 12 → zB (g 18 0 7) (-1) 120 → (((g 18 0 7).toInt = -1 → (f 18 0 7).toInt = -1)) → (((g 18 0 7).toInt = -1 → 1 ≤ a86_4.toInt ∧ a86_4.toInt ≤ 40)) → (((g 18 0 7).toInt = -1 → 0 ≤ a86_6.toInt ∧ a86_6.toInt ≤ 99)) → (2 : Int) < t → Z X 86 [some (zr 18 0), some (zi a1), some (zi a86_2), some (zi a86_3), some (zi a86_4), some (zi a86_5), some (zi a86_6), none, none] [zi a86_s0] g) ∧ (∀ a134_2 : Int32, zB a134_2 0 5 → ∀ a134_3 : Int32, zB a134_3 0 1 → ∀ a134_4 : Int32, zB a134_4 (-2147483648) 1000 → ∀ a134_5 : Int32, zB a134_5 0 31 → ∀ a134_6 : Int32, zB a134_6 (-2147483648) 1000 → ∀ a134_7 : Int32, zB a134_7 0 7 → ∀ m134_8 : Nat, m134_8 < zcnt 11 → ∀ m134_s0 : Nat, m134_s0 < zcnt 11 → ∀ a134_s1 : Int32, zB a134_s1 0 2 → ∀ g : zM, zInv g → zFr [(11, some 0), (11, some 1), (11, some 2), (11, some 3), (11, some 4), (11, some 5), (11, some 6), (11, some 7), (18, some 5), (18, some 6), (18, some 7)] f g → zB (g 18 0 5) 0 11 → zB (g 18 0 7) (-1) (-1) → (((g 18 0 7).toInt = -1 → (f 18 0 7).toInt = -1)) → (((g 18 0 7).toInt = -1 → 1 ≤ a134_4.toInt ∧ a134_4.toInt ≤ 40)) → (((g 18 0 7).toInt = -1 → 0 ≤ a134_6.toInt ∧ a134_6.toInt ≤ 99)) → (1 : Int) < t → Z X 134 [some (zr 18 0), some (zi a1), some (zi a134_2), some (zi a134_3), some (zi a134_4), some (zi a134_5), some (zi a134_6), some (zi a134_7), some (zr 11 m134_8)] [zi a134_s1, zr 11 m134_s0] g) ∧ (∀ a161_2 : Int32, zB a161_2 0 5 → ∀ a161_3 : Int32, zB a161_3 0 1 → ∀ a161_4 : Int32, zB a161_4 (-2147483648) 1000 → ∀ a161_5 : Int32, zB a161_5 0 31 → ∀ a161_6 : Int32, zB a161_6 (-2147483648) 1000 → ∀ a161_7 : Int32, zB a161_7 0 7 → ∀ g : zM, zInv g → zFr [(11, some 0), (11, some 1), (11, some 2), (11, some 3), (11, some 4), (11, some 5), (11, some 6), (11, some 7), (18, some 5), (18, some 6), (18, some 7)] f g → zB (g 18 0 5) 0 12 → zB (g 18 0 7) (-1) 120 → (((g 18 0 7).toInt = -1 → (f 18 0 7).toInt = -1)) → (0 : Int) < t → Z X 161 [some (zr 18 0), some (zi a1), some (zi a161_2), some (zi a161_3), some (zi a161_4), some (zi a161_5), some (zi a161_6), some (zi a161_7), none] [] g) := by
    intro t
    induction t with
    | zero =>
      refine ⟨?_, ?_, ?_, ?_, ?_⟩ <;> (intros; exfalso; omega)
    | succ t ih =>
      obtain ⟨ih0, ih1, ih2, ih3, ih4⟩ := ih
      refine ⟨?_, ?_, ?_, ?_, ?_⟩
      · skip
        intro a38_2 b38_2 a38_3 b38_3 a38_4 b38_4 g38_ hI38_ hF38_ f38_18_0_5 f38_18_0_7 hR38_0 hR38_1 hM38_
        refine z_aload_n (pc := 38) C dX7_readPaper_38 rfl ?_
        refine z_ldcT (pc := 39) (i := 0) (tx := "") C hT (Or.inl ⟨rfl, rfl⟩) dX7_readPaper_39 ?_
        refine z_iconst (pc := 41) (v := 0) C dX7_readPaper_41 (by decide) ?_
        refine z_callVS (pc := 42) C hT zk_X7_91 (w_X7_readLetters_0 _ _ 0 (zB.wk (a' := 0) (b' := 1) (zB.of (x := 0) 0 (by decide)) (by decide) (by decide)) hI38_) rfl rfl (by decide) rfl rfl (Nat.le_of_ble_eq_true rfl) dX7_readPaper_42 (fun r1 g1 q1 => ?_)
        have qa1_0 : (0 : Int32).toInt = 0 := by decide
        obtain ⟨⟨v1, rfl, b1x⟩, hI1, hF1q, hp1_0⟩ := q1
        have hp1_0 := hp1_0 _ rfl
        have hF1 := zFr.tr hF38_ hF1q (by decide)
        simp only [Option.toList, List.cons_append, List.nil_append]
        have cr1_18_0_7 : zB (g1 18 0 7) (-1) 120 := hI1 18 0 7
        have ek1_18_0_5 : (g1 18 0 5).toInt = (g38_ 18 0 5).toInt := by rw [hF1q 18 0 5 rfl]
        have c1_18_0_5x : zB (g1 18 0 5) 0 12 := by have q9 := f38_18_0_5; constructor <;> omega
        refine z_istore (pc := 45) C dX7_readPaper_45 (by rw [hn]; decide) rfl ?_
        refine z_aload_n (pc := 47) C dX7_readPaper_47 rfl ?_
        refine z_bipush (pc := 48) (v := 116) C dX7_readPaper_48 (by decide) ?_
        refine z_callV (pc := 50) C zk_X7_48 (w_X7_takes _ _ 116 (zB.wk (a' := 1) (b' := 126) (zB.of (x := 116) 116 (by decide)) (by decide) (by decide)) hI1) rfl rfl (by decide) rfl rfl (Nat.le_of_ble_eq_true rfl) dX7_readPaper_50 (fun r2 g2 q2 => ?_)
        obtain ⟨⟨v2, rfl, b2x⟩, hI2, hF2q⟩ := q2
        have hF2 := zFr.tr hF1 hF2q (by decide)
        simp only [Option.toList, List.cons_append, List.nil_append]
        have ek2_18_0_7 : (g2 18 0 7).toInt = (g1 18 0 7).toInt := by rw [hF2q 18 0 7 rfl]
        have c2_18_0_7x : zB (g2 18 0 7) (-1) 120 := by have q9 := cr1_18_0_7; constructor <;> omega
        have ek2_18_0_5 : (g2 18 0 5).toInt = (g1 18 0 5).toInt := by rw [hF2q 18 0 5 rfl]
        have c2_18_0_5x : zB (g2 18 0 5) 0 12 := by have q9 := c1_18_0_5x; constructor <;> omega
        refine z_if_eq (pc := 53) 66 C dX7_readPaper_53 (by decide) (fun h53_2 => ?_) (fun h53_2 => ?_)
        · skip
          have b4x : zB v2 0 0 := by have q1 := b2x; have q2 := (zB.of (x := 0) 0 (by decide)); simp only [z32lt, z32le, z32eq, Int32.reduceToInt, Int32.toInt_zero] at h53_2; constructor <;> omega
          refine z_iconst (pc := 66) (v := 0) C dX7_readPaper_66 (by decide) ?_
          exact ih1 a38_2 b38_2 a38_3 b38_3 a38_4 b38_4 v1 b1x 0 (zB.wk (a' := (-2147483648)) (b' := 1000) (zB.of (x := 0) 0 (by decide)) (by decide) (by decide)) g2 hI2 hF2 c2_18_0_5x c2_18_0_7x (by have qc0 : (0 : Int32).toInt = 0 := (by decide); omega) (by have qc0 : (0 : Int32).toInt = 0 := (by decide); omega) (by have qc0 : (0 : Int32).toInt = 0 := (by decide); omega) (by have qc0 : (0 : Int32).toInt = 0 := (by decide); omega)
        · skip
          have b5x : zB v2 1 1 := by have q1 := b2x; have q2 := (zB.of (x := 0) 0 (by decide)); simp only [z32lt, z32le, z32eq, Int32.reduceToInt, Int32.toInt_zero] at h53_2; constructor <;> omega
          refine z_aload_n (pc := 56) C dX7_readPaper_56 rfl ?_
          refine z_iconst (pc := 57) (v := 1) C dX7_readPaper_57 (by decide) ?_
          refine z_bipush (pc := 58) (v := 99) C dX7_readPaper_58 (by decide) ?_
          refine z_callV (pc := 60) C zk_X7_73 (w_X7_readNumber _ _ 1 (zB.wk (a' := (-2147483648)) (b' := 1000) (zB.of (x := 1) 1 (by decide)) (by decide) (by decide)) 99 (zB.wk (a' := 0) (b' := 99) (zB.of (x := 99) 99 (by decide)) (by decide) (by decide)) hI2) rfl rfl (by decide) rfl rfl (Nat.le_of_ble_eq_true rfl) dX7_readPaper_60 (fun r6 g6 q6 => ?_)
          have qa6_1 : (1 : Int32).toInt = 1 := by decide
          have qa6_99 : (99 : Int32).toInt = 99 := by decide
          obtain ⟨⟨v6, rfl, b6x⟩, hI6, hF6q, hp6_0, hp6_1⟩ := q6
          have hp6_0 := hp6_0 _ rfl
          have hp6_1 := hp6_1 _ rfl
          have hF6 := zFr.tr hF2 hF6q (by decide)
          simp only [Option.toList, List.cons_append, List.nil_append]
          have cr6_18_0_7 : zB (g6 18 0 7) (-1) 120 := hI6 18 0 7
          have ek6_18_0_5 : (g6 18 0 5).toInt = (g2 18 0 5).toInt := by rw [hF6q 18 0 5 rfl]
          have c6_18_0_5x : zB (g6 18 0 5) 0 12 := by have q9 := c2_18_0_5x; constructor <;> omega
          refine z_goto (pc := 63) 67 C dX7_readPaper_63 (by decide) ?_
          exact ih1 a38_2 b38_2 a38_3 b38_3 a38_4 b38_4 v1 b1x v6 b6x g6 hI6 hF6 c6_18_0_5x cr6_18_0_7 (by omega) (by omega) (by omega) (by omega)
      · skip
        intro a67_2 b67_2 a67_3 b67_3 a67_4 b67_4 a67_5 b67_5 a67_s0 b67_s0 g67_ hI67_ hF67_ f67_18_0_5 f67_18_0_7 hR67_0 hR67_1 hR67_2 hM67_
        refine z_istore (pc := 67) C dX7_readPaper_67 (by rw [hn]; decide) rfl ?_
        refine z_aload_n (pc := 69) C dX7_readPaper_69 rfl ?_
        refine z_bipush (pc := 70) (v := 43) C dX7_readPaper_70 (by decide) ?_
        refine z_callV (pc := 72) C zk_X7_48 (w_X7_takes _ _ 43 (zB.wk (a' := 1) (b' := 126) (zB.of (x := 43) 43 (by decide)) (by decide) (by decide)) hI67_) rfl rfl (by decide) rfl rfl (Nat.le_of_ble_eq_true rfl) dX7_readPaper_72 (fun r7 g7 q7 => ?_)
        obtain ⟨⟨v7, rfl, b7x⟩, hI7, hF7q⟩ := q7
        have hF7 := zFr.tr hF67_ hF7q (by decide)
        simp only [Option.toList, List.cons_append, List.nil_append]
        have ek7_18_0_7 : (g7 18 0 7).toInt = (g67_ 18 0 7).toInt := by rw [hF7q 18 0 7 rfl]
        have c7_18_0_7x : zB (g7 18 0 7) (-1) 120 := by have q9 := f67_18_0_7; constructor <;> omega
        have ek7_18_0_5 : (g7 18 0 5).toInt = (g67_ 18 0 5).toInt := by rw [hF7q 18 0 5 rfl]
        have c7_18_0_5x : zB (g7 18 0 5) 0 12 := by have q9 := f67_18_0_5; constructor <;> omega
        refine z_if_eq (pc := 75) 85 C dX7_readPaper_75 (by decide) (fun h75_7 => ?_) (fun h75_7 => ?_)
        · skip
          have b9x : zB v7 0 0 := by have q1 := b7x; have q2 := (zB.of (x := 0) 0 (by decide)); simp only [z32lt, z32le, z32eq, Int32.reduceToInt, Int32.toInt_zero] at h75_7; constructor <;> omega
          refine z_iconst (pc := 85) (v := 0) C dX7_readPaper_85 (by decide) ?_
          exact ih2 a67_2 b67_2 a67_3 b67_3 a67_4 b67_4 a67_5 b67_5 a67_s0 b67_s0 0 (zB.wk (a' := 0) (b' := 7) (zB.of (x := 0) 0 (by decide)) (by decide) (by decide)) g7 hI7 hF7 c7_18_0_5x c7_18_0_7x (by have qc0 : (0 : Int32).toInt = 0 := (by decide); omega) (by have qc0 : (0 : Int32).toInt = 0 := (by decide); omega) (by have qc0 : (0 : Int32).toInt = 0 := (by decide); omega) (by have qc0 : (0 : Int32).toInt = 0 := (by decide); omega)
        · skip
          have b10x : zB v7 1 1 := by have q1 := b7x; have q2 := (zB.of (x := 0) 0 (by decide)); simp only [z32lt, z32le, z32eq, Int32.reduceToInt, Int32.toInt_zero] at h75_7; constructor <;> omega
          refine z_aload_n (pc := 78) C dX7_readPaper_78 rfl ?_
          refine z_callVS (pc := 79) C hT zk_X7_95 (w_X7_readPromises _ _  hI7) rfl rfl (by decide) rfl rfl (Nat.le_of_ble_eq_true rfl) dX7_readPaper_79 (fun r11 g11 q11 => ?_)
          obtain ⟨⟨v11, rfl, b11x⟩, hI11, hF11q, hp11_0⟩ := q11
          have hp11_0 := hp11_0 _ rfl
          have hF11 := zFr.tr hF7 hF11q (by decide)
          simp only [Option.toList, List.cons_append, List.nil_append]
          have cr11_18_0_7 : zB (g11 18 0 7) (-1) 120 := hI11 18 0 7
          have ek11_18_0_5 : (g11 18 0 5).toInt = (g7 18 0 5).toInt := by rw [hF11q 18 0 5 rfl]
          have c11_18_0_5x : zB (g11 18 0 5) 0 12 := by have q9 := c7_18_0_5x; constructor <;> omega
          refine z_goto (pc := 82) 86 C dX7_readPaper_82 (by decide) ?_
          exact ih2 a67_2 b67_2 a67_3 b67_3 a67_4 b67_4 a67_5 b67_5 a67_s0 b67_s0 v11 b11x g11 hI11 hF11 c11_18_0_5x cr11_18_0_7 (by omega) (by omega) (by omega) (by omega)
      · skip
        intro a86_2 b86_2 a86_3 b86_3 a86_4 b86_4 a86_5 b86_5 a86_6 b86_6 a86_s0 b86_s0 g86_ hI86_ hF86_ f86_18_0_5 f86_18_0_7 hR86_0 hR86_1 hR86_2 hM86_
        refine z_istore (pc := 86) C dX7_readPaper_86 (by rw [hn]; decide) rfl ?_
        refine z_aload_n (pc := 88) C dX7_readPaper_88 rfl ?_
        refine z_getI (pc := 89) C zf_X7_36 rfl rfl (by decide) dX7_readPaper_89 ?_
        refine w_gp (fun v => v.toInt = (g86_ 18 0 7).toInt) rfl (fun v12 e12 => ?_)
        have b12x : zB v12 (-1) 120 := by have q9 : zB (g86_ 18 0 7) (-1) 120 := f86_18_0_7; constructor <;> omega
        refine z_iconst (pc := 92) (v := -1) C dX7_readPaper_92 (by decide) ?_
        refine z_icmp_ne (pc := 93) 161 C dX7_readPaper_93 (by decide) (fun h93_12 => ?_) (fun h93_12 => ?_)
        · skip
          have b14x : zB v12 0 120 := by have q1 := b12x; have q2 := (zB.of (x := (-1)) (-1) (by decide)); simp only [z32lt, z32le, z32eq, Int32.reduceToInt, Int32.toInt_zero] at h93_12; constructor <;> omega
          have c15x : zB (g86_ 18 0 7) 0 120 := by constructor <;> omega
          exact ih4 a86_2 b86_2 a86_3 b86_3 a86_4 b86_4 a86_5 b86_5 a86_6 b86_6 a86_s0 b86_s0 g86_ hI86_ hF86_ f86_18_0_5 (zB.wk c15x (by decide) (by decide)) (by omega) (by omega)
        · skip
          have b16x : zB v12 (-1) (-1) := by have q1 := b12x; have q2 := (zB.of (x := (-1)) (-1) (by decide)); simp only [z32lt, z32le, z32eq, Int32.reduceToInt, Int32.toInt_zero] at h93_12; constructor <;> omega
          have c17x : zB (g86_ 18 0 7) (-1) (-1) := by constructor <;> omega
          refine z_aload_n (pc := 96) C dX7_readPaper_96 rfl ?_
          refine z_getI (pc := 97) C zf_X7_42 rfl rfl (by decide) dX7_readPaper_97 ?_
          refine w_gp (fun v => v.toInt = (g86_ 18 0 5).toInt) rfl (fun v18 e18 => ?_)
          have b18x : zB v18 0 12 := by have q9 : zB (g86_ 18 0 5) 0 12 := f86_18_0_5; constructor <;> omega
          refine z_bipush (pc := 100) (v := 12) C dX7_readPaper_100 (by decide) ?_
          refine z_icmp_ge (pc := 102) 161 C dX7_readPaper_102 (by decide) (fun h102_18 => ?_) (fun h102_18 => ?_)
          · skip
            have b20x : zB v18 12 12 := by have q1 := b18x; have q2 := (zB.of (x := 12) 12 (by decide)); simp only [z32lt, z32le, z32eq, Int32.reduceToInt, Int32.toInt_zero] at h102_18; constructor <;> omega
            have c21x : zB (g86_ 18 0 5) 12 12 := by constructor <;> omega
            exact ih4 a86_2 b86_2 a86_3 b86_3 a86_4 b86_4 a86_5 b86_5 a86_6 b86_6 a86_s0 b86_s0 g86_ hI86_ hF86_ (zB.wk c21x (by decide) (by decide)) (zB.wk c17x (by decide) (by decide)) (by omega) (by omega)
          · skip
            have b22x : zB v18 0 11 := by have q1 := b18x; have q2 := (zB.of (x := 12) 12 (by decide)); simp only [z32lt, z32le, z32eq, Int32.reduceToInt, Int32.toInt_zero] at h102_18; constructor <;> omega
            have c23x : zB (g86_ 18 0 5) 0 11 := by constructor <;> omega
            refine z_aload_n (pc := 105) C dX7_readPaper_105 rfl ?_
            refine z_getR (pc := 106) C zf_X7_23 rfl rfl (by decide) dX7_readPaper_106 ?_
            refine z_aload_n (pc := 109) C dX7_readPaper_109 rfl ?_
            refine z_getI (pc := 110) C zf_X7_42 rfl rfl (by decide) dX7_readPaper_110 ?_
            refine w_gp (fun v => v.toInt = (g86_ 18 0 5).toInt) rfl (fun v24 e24 => ?_)
            have b24x : zB v24 0 11 := by have q9 : zB (g86_ 18 0 5) 0 11 := c23x; constructor <;> omega
            refine z_aald (pc := 113) C rfl ⟨rfl, by decide⟩ (by decide) (zIx b24x (by decide) (by decide)) dX7_readPaper_113 ?_
            refine w_gr (by have hq := zN b24x (by decide); show 24 + v24.toNatClampNeg < 36; omega) (fun m25 h25x => ?_)
            refine z_astore (pc := 114) C dX7_readPaper_114 (by rw [hn]; decide) rfl ?_
            refine z_aload (pc := 116) C dX7_readPaper_116 rfl ?_
            refine z_iload_n (pc := 118) C dX7_readPaper_118 rfl ?_
            refine z_iload_n (pc := 119) C dX7_readPaper_119 rfl ?_
            refine z_callV (pc := 120) C zk_X7_98 (w_X4_lead _ _ m25 h25x a1 b1 a86_2 b86_2 hI86_) rfl rfl h25x rfl rfl (Nat.le_of_ble_eq_true rfl) dX7_readPaper_120 (fun r26 g26 q26 => ?_)
            obtain ⟨rfl, hI26, hF26q⟩ := q26
            have hF26 := zFr.tr hF86_ hF26q (by decide)
            simp only [Option.toList, List.cons_append, List.nil_append]
            have ek26_18_0_7 : (g26 18 0 7).toInt = (g86_ 18 0 7).toInt := by rw [hF26q 18 0 7 rfl]
            have c26_18_0_7x : zB (g26 18 0 7) (-1) (-1) := by have q9 := c17x; constructor <;> omega
            have ek26_18_0_5 : (g26 18 0 5).toInt = (g86_ 18 0 5).toInt := by rw [hF26q 18 0 5 rfl]
            have c26_18_0_5x : zB (g26 18 0 5) 0 11 := by have q9 := c23x; constructor <;> omega
            refine z_aload (pc := 123) C dX7_readPaper_123 rfl ?_
            refine z_iload_n (pc := 125) C dX7_readPaper_125 rfl ?_
            refine z_if_eq (pc := 126) 133 C dX7_readPaper_126 (by decide) (fun h126_26 => ?_) (fun h126_26 => ?_)
            · skip
              have b28x : zB a86_3 0 0 := by have q1 := b86_3; have q2 := (zB.of (x := 0) 0 (by decide)); simp only [z32lt, z32le, z32eq, Int32.reduceToInt, Int32.toInt_zero] at h126_26; constructor <;> omega
              refine z_iconst (pc := 133) (v := 2) C dX7_readPaper_133 (by decide) ?_
              exact ih3 a86_2 b86_2 a86_3 (zB.wk (a' := 0) (b' := 1) b28x (by decide) (by decide)) a86_4 b86_4 a86_5 b86_5 a86_6 b86_6 a86_s0 b86_s0 m25 h25x m25 h25x 2 (zB.wk (a' := 0) (b' := 2) (zB.of (x := 2) 2 (by decide)) (by decide) (by decide)) g26 hI26 hF26 c26_18_0_5x c26_18_0_7x (by have qc0 : (2 : Int32).toInt = 2 := (by decide); omega) (by have qc0 : (2 : Int32).toInt = 2 := (by decide); omega) (by have qc0 : (2 : Int32).toInt = 2 := (by decide); omega) (by have qc0 : (2 : Int32).toInt = 2 := (by decide); omega)
            · skip
              have b29x : zB a86_3 1 1 := by have q1 := b86_3; have q2 := (zB.of (x := 0) 0 (by decide)); simp only [z32lt, z32le, z32eq, Int32.reduceToInt, Int32.toInt_zero] at h126_26; constructor <;> omega
              refine z_iconst (pc := 129) (v := 0) C dX7_readPaper_129 (by decide) ?_
              refine z_goto (pc := 130) 134 C dX7_readPaper_130 (by decide) ?_
              exact ih3 a86_2 b86_2 a86_3 (zB.wk (a' := 0) (b' := 1) b29x (by decide) (by decide)) a86_4 b86_4 a86_5 b86_5 a86_6 b86_6 a86_s0 b86_s0 m25 h25x m25 h25x 0 (zB.wk (a' := 0) (b' := 2) (zB.of (x := 0) 0 (by decide)) (by decide) (by decide)) g26 hI26 hF26 c26_18_0_5x c26_18_0_7x (by have qc0 : (0 : Int32).toInt = 0 := (by decide); omega) (by have qc0 : (0 : Int32).toInt = 0 := (by decide); omega) (by have qc0 : (0 : Int32).toInt = 0 := (by decide); omega) (by have qc0 : (0 : Int32).toInt = 0 := (by decide); omega)
      · skip
        intro a134_2 b134_2 a134_3 b134_3 a134_4 b134_4 a134_5 b134_5 a134_6 b134_6 a134_7 b134_7 m134_8 h134_8 m134_s0 h134_s0 a134_s1 b134_s1 g134_ hI134_ hF134_ f134_18_0_5 f134_18_0_7 hR134_0 hR134_1 hR134_2 hM134_
        refine z_iload (pc := 134) C dX7_readPaper_134 rfl ?_
        refine z_iconst (pc := 136) (v := 0) C dX7_readPaper_136 (by decide) ?_
        refine z_callV (pc := 137) C zk_X7_102 (w_X4_become _ _ m134_s0 h134_s0 a134_s1 b134_s1 a134_4 (show zB a134_4 0 40 from by constructor <;> omega) 0 (zB.wk (a' := (-2147483648)) (b' := 2147483647) (zB.of (x := 0) 0 (by decide)) (by decide) (by decide)) hI134_) rfl rfl h134_s0 rfl rfl (Nat.le_of_ble_eq_true rfl) dX7_readPaper_137 (fun r30 g30 q30 => ?_)
        obtain ⟨rfl, hI30, hF30q⟩ := q30
        have hF30 := zFr.tr hF134_ hF30q (by decide)
        simp only [Option.toList, List.cons_append, List.nil_append]
        have ek30_18_0_7 : (g30 18 0 7).toInt = (g134_ 18 0 7).toInt := by rw [hF30q 18 0 7 rfl]
        have c30_18_0_7x : zB (g30 18 0 7) (-1) (-1) := by have q9 := f134_18_0_7; constructor <;> omega
        have ek30_18_0_5 : (g30 18 0 5).toInt = (g134_ 18 0 5).toInt := by rw [hF30q 18 0 5 rfl]
        have c30_18_0_5x : zB (g30 18 0 5) 0 11 := by have q9 := f134_18_0_5; constructor <;> omega
        refine z_aload (pc := 140) C dX7_readPaper_140 rfl ?_
        refine z_iload (pc := 142) C dX7_readPaper_142 rfl ?_
        refine z_iload (pc := 144) C dX7_readPaper_144 rfl ?_
        refine z_iload (pc := 146) C dX7_readPaper_146 rfl ?_
        refine z_callV (pc := 148) C zk_X7_106 (w_X4_rule _ _ m134_8 h134_8 a134_5 b134_5 a134_6 (show zB a134_6 0 99 from by constructor <;> omega) a134_7 b134_7 hI30) rfl rfl h134_8 rfl rfl (Nat.le_of_ble_eq_true rfl) dX7_readPaper_148 (fun r31 g31 q31 => ?_)
        obtain ⟨rfl, hI31, hF31q⟩ := q31
        have hF31 := zFr.tr hF30 hF31q (by decide)
        simp only [Option.toList, List.cons_append, List.nil_append]
        have ek31_18_0_7 : (g31 18 0 7).toInt = (g30 18 0 7).toInt := by rw [hF31q 18 0 7 rfl]
        have c31_18_0_7x : zB (g31 18 0 7) (-1) (-1) := by have q9 := c30_18_0_7x; constructor <;> omega
        have ek31_18_0_5 : (g31 18 0 5).toInt = (g30 18 0 5).toInt := by rw [hF31q 18 0 5 rfl]
        have c31_18_0_5x : zB (g31 18 0 5) 0 11 := by have q9 := c30_18_0_5x; constructor <;> omega
        refine z_aload_n (pc := 151) C dX7_readPaper_151 rfl ?_
        refine z_dupr (pc := 152) C dX7_readPaper_152 ?_
        refine z_getI (pc := 153) C zf_X7_42 rfl rfl (by decide) dX7_readPaper_153 ?_
        refine w_gp (fun v => v.toInt = (g31 18 0 5).toInt) rfl (fun v32 e32 => ?_)
        have b32x : zB v32 0 11 := by have q9 : zB (g31 18 0 5) 0 11 := c31_18_0_5x; constructor <;> omega
        refine z_iconst (pc := 156) (v := 1) C dX7_readPaper_156 (by decide) ?_
        refine z_iadd (pc := 157) C dX7_readPaper_157 ?_
        refine w_gp (fun v => v.toInt = v32.toInt + 1) (zadd_eb b32x (zB.of (x := 1) 1 (by decide)) (by decide) (by decide)) (fun v33 e33 => ?_)
        have b33x : zB v33 1 12 := by have q1 := b32x; have q2 := (zB.of (x := 1) 1 (by decide)); constructor <;> omega
        refine z_putI (pc := 158) C zf_X7_42 zp_7_5 rfl rfl (by decide) dX7_readPaper_158 ?_
        refine w_mem2 hI31 hF31 (zB.wk (a' := 0) (b' := 12) b33x (by decide) (by decide)) rfl (fun g34 hI34 hF34 hq34 hx34 => ?_)
        have ek34_18_0_7 : (g34 18 0 7).toInt = (g31 18 0 7).toInt := by rw [hq34 18 0 7 (by omega)]
        have c34_18_0_7x : zB (g34 18 0 7) (-1) (-1) := by have q9 := c31_18_0_7x; constructor <;> omega
        have ec34 : (g34 18 0 5).toInt = v33.toInt := by rw [hx34]
        have c34x : zB (g34 18 0 5) 1 12 := by have q9 := b33x; constructor <;> omega
        refine w_mask [8] ?_
        exact ih4 a134_2 b134_2 a134_3 b134_3 a134_4 b134_4 a134_5 b134_5 a134_6 b134_6 a134_7 b134_7 g34 hI34 hF34 (zB.wk c34x (by decide) (by decide)) (zB.wk c34_18_0_7x (by decide) (by decide)) (by omega) (by omega)
      · skip
        intro a161_2 b161_2 a161_3 b161_3 a161_4 b161_4 a161_5 b161_5 a161_6 b161_6 a161_7 b161_7 g161_ hI161_ hF161_ f161_18_0_5 f161_18_0_7 hR161_0 hM161_
        exact z_vret (pc := 161) C hr dX7_readPaper_161 ⟨rfl, hI161_, hF161_, (by omega)⟩
  obtain ⟨J0, J1, J2, J3, J4⟩ := J 16
  show Z X 0 [some (zr 18 0), some (zi a1), none, none, none, none, none, none, none] [] f
  refine z_aload_n (pc := 0) C dX7_readPaper_0 rfl ?_
  refine z_iload_n (pc := 1) C dX7_readPaper_1 rfl ?_
  refine z_callV (pc := 2) C zk_X7_60 (w_X7_readLand _ _ a1 (zB.wk (a' := (-4)) (b' := 5) b1 (by decide) (by decide)) hI) rfl rfl (by decide) rfl rfl (Nat.le_of_ble_eq_true rfl) dX7_readPaper_2 (fun r35 g35 q35 => ?_)
  obtain ⟨⟨v35, rfl, b35x⟩, hI35, hF35q, hp35_0⟩ := q35
  have hp35_0 := hp35_0 _ rfl
  have hF35 := zFr.tr hF hF35q (by decide)
  simp only [Option.toList, List.cons_append, List.nil_append]
  have cr35_18_0_7 : zB (g35 18 0 7) (-1) 120 := hI35 18 0 7
  have ek35_18_0_5 : (g35 18 0 5).toInt = (f 18 0 5).toInt := by rw [hF35q 18 0 5 rfl]
  have c35_18_0_5x : zB (g35 18 0 5) 0 12 := by have q9 := ct18_0_5; constructor <;> omega
  refine z_istore_n (pc := 5) C dX7_readPaper_5 (by rw [hn]; decide) rfl ?_
  refine z_aload_n (pc := 6) C dX7_readPaper_6 rfl ?_
  refine z_bipush (pc := 7) (v := 121) C dX7_readPaper_7 (by decide) ?_
  refine z_callV (pc := 9) C zk_X7_48 (w_X7_takes _ _ 121 (zB.wk (a' := 1) (b' := 126) (zB.of (x := 121) 121 (by decide)) (by decide) (by decide)) hI35) rfl rfl (by decide) rfl rfl (Nat.le_of_ble_eq_true rfl) dX7_readPaper_9 (fun r36 g36 q36 => ?_)
  obtain ⟨⟨v36, rfl, b36x⟩, hI36, hF36q⟩ := q36
  have hF36 := zFr.tr hF35 hF36q (by decide)
  simp only [Option.toList, List.cons_append, List.nil_append]
  have ek36_18_0_7 : (g36 18 0 7).toInt = (g35 18 0 7).toInt := by rw [hF36q 18 0 7 rfl]
  have c36_18_0_7x : zB (g36 18 0 7) (-1) 120 := by have q9 := cr35_18_0_7; constructor <;> omega
  have ek36_18_0_5 : (g36 18 0 5).toInt = (g35 18 0 5).toInt := by rw [hF36q 18 0 5 rfl]
  have c36_18_0_5x : zB (g36 18 0 5) 0 12 := by have q9 := c35_18_0_5x; constructor <;> omega
  refine z_istore_n (pc := 12) C dX7_readPaper_12 (by rw [hn]; decide) rfl ?_
  refine z_iconst (pc := 13) (v := 1) C dX7_readPaper_13 (by decide) ?_
  refine z_istore (pc := 14) C dX7_readPaper_14 (by rw [hn]; decide) rfl ?_
  refine z_iload_n (pc := 16) C dX7_readPaper_16 rfl ?_
  refine z_if_eq (pc := 17) 32 C dX7_readPaper_17 (by decide) (fun h17_36 => ?_) (fun h17_36 => ?_)
  · skip
    have b38x : zB v36 0 0 := by have q1 := b36x; have q2 := (zB.of (x := 0) 0 (by decide)); simp only [z32lt, z32le, z32eq, Int32.reduceToInt, Int32.toInt_zero] at h17_36; constructor <;> omega
    refine z_aload_n (pc := 32) C dX7_readPaper_32 rfl ?_
    refine z_bipush (pc := 33) (v := 42) C dX7_readPaper_33 (by decide) ?_
    refine z_callV (pc := 35) C zk_X7_77 (w_X7_need _ _ 42 (zB.wk (a' := 1) (b' := 126) (zB.of (x := 42) 42 (by decide)) (by decide) (by decide)) hI36) rfl rfl (by decide) rfl rfl (Nat.le_of_ble_eq_true rfl) dX7_readPaper_35 (fun r39 g39 q39 => ?_)
    have qa39_42 : (42 : Int32).toInt = 42 := by decide
    obtain ⟨rfl, hI39, hF39q, hp39_0⟩ := q39
    have hF39 := zFr.tr hF36 hF39q (by decide)
    simp only [Option.toList, List.cons_append, List.nil_append]
    have cr39_18_0_7 : zB (g39 18 0 7) (-1) 120 := hI39 18 0 7
    have ek39_18_0_5 : (g39 18 0 5).toInt = (g36 18 0 5).toInt := by rw [hF39q 18 0 5 rfl]
    have c39_18_0_5x : zB (g39 18 0 5) 0 12 := by have q9 := c36_18_0_5x; constructor <;> omega
    exact J0 v35 b35x v36 (zB.wk (a' := 0) (b' := 1) b38x (by decide) (by decide)) 1 (zB.wk (a' := (-2147483648)) (b' := 1000) (zB.of (x := 1) 1 (by decide)) (by decide) (by decide)) g39 hI39 hF39 c39_18_0_5x cr39_18_0_7 (by have qc0 : (1 : Int32).toInt = 1 := (by decide); omega) (by have qc0 : (1 : Int32).toInt = 1 := (by decide); omega) (by have qc0 : (1 : Int32).toInt = 1 := (by decide); omega)
  · skip
    have b40x : zB v36 1 1 := by have q1 := b36x; have q2 := (zB.of (x := 0) 0 (by decide)); simp only [z32lt, z32le, z32eq, Int32.reduceToInt, Int32.toInt_zero] at h17_36; constructor <;> omega
    refine z_aload_n (pc := 20) C dX7_readPaper_20 rfl ?_
    refine z_iconst (pc := 21) (v := 1) C dX7_readPaper_21 (by decide) ?_
    refine z_bipush (pc := 22) (v := 40) C dX7_readPaper_22 (by decide) ?_
    refine z_callV (pc := 24) C zk_X7_73 (w_X7_readNumber _ _ 1 (zB.wk (a' := (-2147483648)) (b' := 1000) (zB.of (x := 1) 1 (by decide)) (by decide) (by decide)) 40 (zB.wk (a' := 0) (b' := 99) (zB.of (x := 40) 40 (by decide)) (by decide) (by decide)) hI36) rfl rfl (by decide) rfl rfl (Nat.le_of_ble_eq_true rfl) dX7_readPaper_24 (fun r41 g41 q41 => ?_)
    have qa41_1 : (1 : Int32).toInt = 1 := by decide
    have qa41_40 : (40 : Int32).toInt = 40 := by decide
    obtain ⟨⟨v41, rfl, b41x⟩, hI41, hF41q, hp41_0, hp41_1⟩ := q41
    have hp41_0 := hp41_0 _ rfl
    have hp41_1 := hp41_1 _ rfl
    have hF41 := zFr.tr hF36 hF41q (by decide)
    simp only [Option.toList, List.cons_append, List.nil_append]
    have cr41_18_0_7 : zB (g41 18 0 7) (-1) 120 := hI41 18 0 7
    have ek41_18_0_5 : (g41 18 0 5).toInt = (g36 18 0 5).toInt := by rw [hF41q 18 0 5 rfl]
    have c41_18_0_5x : zB (g41 18 0 5) 0 12 := by have q9 := c36_18_0_5x; constructor <;> omega
    refine z_istore (pc := 27) C dX7_readPaper_27 (by rw [hn]; decide) rfl ?_
    refine z_goto (pc := 29) 38 C dX7_readPaper_29 (by decide) ?_
    exact J0 v35 b35x v36 (zB.wk (a' := 0) (b' := 1) b40x (by decide) (by decide)) v41 b41x g41 hI41 hF41 c41_18_0_5x cr41_18_0_7 (by omega) (by omega) (by omega)

set_option maxRecDepth 100000 in
set_option maxHeartbeats 4000000 in
theorem w_X7_readClause (d : Nat) (f : zM)  (hI : zInv f) : ZMs (d + 7) yX7_readClause cX7_readClause 2 none [zr 18 0] f (fun r g => r = none ∧ zInv g ∧ zFr [(7, some 0), (7, some 1), (7, some 2), (7, some 3), (7, some 4), (7, some 5), (11, some 0), (11, some 1), (11, some 2), (11, some 3), (11, some 4), (11, some 5), (11, some 6), (11, some 7), (18, some 4), (18, some 5), (18, some 6), (18, some 7)] f g ∧ (((g 18 0 7).toInt = -1 → (f 18 0 7).toInt = -1))) := by
  refine ZMs.intro (by decide +kernel) (Nat.le_of_ble_eq_true rfl) ?_
  intro X C hr hn hT
  have hF : zFr [(7, some 0), (7, some 1), (7, some 2), (7, some 3), (7, some 4), (7, some 5), (11, some 0), (11, some 1), (11, some 2), (11, some 3), (11, some 4), (11, some 5), (11, some 6), (11, some 7), (18, some 4), (18, some 5), (18, some 6), (18, some 7)] f f := zFr.rf _ _
  have ct18_0_7 : zB (f 18 0 7) (-1) 120 := hI 18 0 7
  have J : ∀ t : Nat, (∀ a49_1 : Int32, zB a49_1 0 5 → ∀ g : zM, zInv g → zFr [(7, some 0), (7, some 1), (7, some 2), (7, some 3), (7, some 4), (7, some 5), (11, some 0), (11, some 1), (11, some 2), (11, some 3), (11, some 4), (11, some 5), (11, some 6), (11, some 7), (18, some 4), (18, some 5), (18, some 6), (18, some 7)] f g → zB (g 18 0 7) (-1) 120 → (((g 18 0 7).toInt = -1 → (f 18 0 7).toInt = -1)) → (0 : Int) < t → Z X 49 [some (zr 18 0), some (zi a49_1)] [] g) := by
    intro t
    induction t with
    | zero =>
      intros; exfalso; omega
    | succ t ih =>
      have ih0 := ih
      intro a49_1 b49_1 g49_ hI49_ hF49_ f49_18_0_7 hR49_0 hM49_
      exact z_vret (pc := 49) C hr dX7_readClause_49 ⟨rfl, hI49_, hF49_, (by omega)⟩
  have J0 := J 12
  show Z X 0 [some (zr 18 0), none] [] f
  refine z_aload_n (pc := 0) C dX7_readClause_0 rfl ?_
  refine z_bipush (pc := 1) (v := -4) C dX7_readClause_1 (by decide) ?_
  refine z_callV (pc := 3) C zk_X7_60 (w_X7_readLand _ _ (-4) (zB.wk (a' := (-4)) (b' := 5) (zB.of (x := (-4)) (-4) (by decide)) (by decide) (by decide)) hI) rfl rfl (by decide) rfl rfl (Nat.le_of_ble_eq_true rfl) dX7_readClause_3 (fun r1 g1 q1 => ?_)
  have qa1_m4 : ((-4) : Int32).toInt = (-4) := by decide
  obtain ⟨⟨v1, rfl, b1x⟩, hI1, hF1q, hp1_0⟩ := q1
  have hp1_0 := hp1_0 _ rfl
  have hF1 := zFr.tr hF hF1q (by decide)
  simp only [Option.toList, List.cons_append, List.nil_append]
  have cr1_18_0_7 : zB (g1 18 0 7) (-1) 120 := hI1 18 0 7
  refine z_istore_n (pc := 6) C dX7_readClause_6 (by rw [hn]; decide) rfl ?_
  refine z_aload_n (pc := 7) C dX7_readClause_7 rfl ?_
  refine z_bipush (pc := 8) (v := 58) C dX7_readClause_8 (by decide) ?_
  refine z_callV (pc := 10) C zk_X7_48 (w_X7_takes _ _ 58 (zB.wk (a' := 1) (b' := 126) (zB.of (x := 58) 58 (by decide)) (by decide) (by decide)) hI1) rfl rfl (by decide) rfl rfl (Nat.le_of_ble_eq_true rfl) dX7_readClause_10 (fun r2 g2 q2 => ?_)
  obtain ⟨⟨v2, rfl, b2x⟩, hI2, hF2q⟩ := q2
  have hF2 := zFr.tr hF1 hF2q (by decide)
  simp only [Option.toList, List.cons_append, List.nil_append]
  have ek2_18_0_7 : (g2 18 0 7).toInt = (g1 18 0 7).toInt := by rw [hF2q 18 0 7 rfl]
  have c2_18_0_7x : zB (g2 18 0 7) (-1) 120 := by have q9 := cr1_18_0_7; constructor <;> omega
  refine z_if_eq (pc := 13) 24 C dX7_readClause_13 (by decide) (fun h13_2 => ?_) (fun h13_2 => ?_)
  · skip
    have b4x : zB v2 0 0 := by have q1 := b2x; have q2 := (zB.of (x := 0) 0 (by decide)); simp only [z32lt, z32le, z32eq, Int32.reduceToInt, Int32.toInt_zero] at h13_2; constructor <;> omega
    refine z_aload_n (pc := 24) C dX7_readClause_24 rfl ?_
    refine z_bipush (pc := 25) (v := 62) C dX7_readClause_25 (by decide) ?_
    refine z_callV (pc := 27) C zk_X7_48 (w_X7_takes _ _ 62 (zB.wk (a' := 1) (b' := 126) (zB.of (x := 62) 62 (by decide)) (by decide) (by decide)) hI2) rfl rfl (by decide) rfl rfl (Nat.le_of_ble_eq_true rfl) dX7_readClause_27 (fun r5 g5 q5 => ?_)
    obtain ⟨⟨v5, rfl, b5x⟩, hI5, hF5q⟩ := q5
    have hF5 := zFr.tr hF2 hF5q (by decide)
    simp only [Option.toList, List.cons_append, List.nil_append]
    have ek5_18_0_7 : (g5 18 0 7).toInt = (g2 18 0 7).toInt := by rw [hF5q 18 0 7 rfl]
    have c5_18_0_7x : zB (g5 18 0 7) (-1) 120 := by have q9 := c2_18_0_7x; constructor <;> omega
    refine z_if_eq (pc := 30) 41 C dX7_readClause_30 (by decide) (fun h30_5 => ?_) (fun h30_5 => ?_)
    · skip
      have b7x : zB v5 0 0 := by have q1 := b5x; have q2 := (zB.of (x := 0) 0 (by decide)); simp only [z32lt, z32le, z32eq, Int32.reduceToInt, Int32.toInt_zero] at h30_5; constructor <;> omega
      refine z_aload_n (pc := 41) C dX7_readClause_41 rfl ?_
      refine z_aload_n (pc := 42) C dX7_readClause_42 rfl ?_
      refine z_getI (pc := 43) C zf_X7_33 rfl rfl (by decide) dX7_readClause_43 ?_
      refine w_gb 0 120 (hI5 18 _ 6) (fun v8 b8x => ?_)
      refine z_callV (pc := 46) C zk_X7_56 (w_X7_fail _ _ v8 b8x hI5) rfl rfl (by decide) rfl rfl (Nat.le_of_ble_eq_true rfl) dX7_readClause_46 (fun r9 g9 q9 => ?_)
      obtain ⟨rfl, hI9, hF9q, hp9_0⟩ := q9
      have hF9 := zFr.tr hF5 hF9q (by decide)
      simp only [Option.toList, List.cons_append, List.nil_append]
      have cr9_18_0_7 : zB (g9 18 0 7) (-1) 120 := hI9 18 0 7
      exact J0 v1 b1x g9 hI9 hF9 cr9_18_0_7 (by omega) (by omega)
    · skip
      have b10x : zB v5 1 1 := by have q1 := b5x; have q2 := (zB.of (x := 0) 0 (by decide)); simp only [z32lt, z32le, z32eq, Int32.reduceToInt, Int32.toInt_zero] at h30_5; constructor <;> omega
      refine z_aload_n (pc := 33) C dX7_readClause_33 rfl ?_
      refine z_iload_n (pc := 34) C dX7_readClause_34 rfl ?_
      refine z_callVS (pc := 35) C hT zk_X7_67 (w_X7_readPaper _ _ v1 b1x hI5) rfl rfl (by decide) rfl rfl (Nat.le_of_ble_eq_true rfl) dX7_readClause_35 (fun r11 g11 q11 => ?_)
      obtain ⟨rfl, hI11, hF11q, hp11_0⟩ := q11
      have hF11 := zFr.tr hF5 hF11q (by decide)
      simp only [Option.toList, List.cons_append, List.nil_append]
      have cr11_18_0_7 : zB (g11 18 0 7) (-1) 120 := hI11 18 0 7
      refine z_goto (pc := 38) 49 C dX7_readClause_38 (by decide) ?_
      exact J0 v1 b1x g11 hI11 hF11 cr11_18_0_7 (by omega) (by omega)
  · skip
    have b12x : zB v2 1 1 := by have q1 := b2x; have q2 := (zB.of (x := 0) 0 (by decide)); simp only [z32lt, z32le, z32eq, Int32.reduceToInt, Int32.toInt_zero] at h13_2; constructor <;> omega
    refine z_aload_n (pc := 16) C dX7_readClause_16 rfl ?_
    refine z_iload_n (pc := 17) C dX7_readClause_17 rfl ?_
    refine z_callV (pc := 18) C zk_X7_64 (w_X7_readCrime _ _ v1 b1x hI2) rfl rfl (by decide) rfl rfl (Nat.le_of_ble_eq_true rfl) dX7_readClause_18 (fun r13 g13 q13 => ?_)
    obtain ⟨rfl, hI13, hF13q, hp13_0, hp13_1⟩ := q13
    have hF13 := zFr.tr hF2 hF13q (by decide)
    simp only [Option.toList, List.cons_append, List.nil_append]
    have cr13_18_0_7 : zB (g13 18 0 7) (-1) 120 := hI13 18 0 7
    refine z_goto (pc := 21) 49 C dX7_readClause_21 (by decide) ?_
    exact J0 v1 b1x g13 hI13 hF13 cr13_18_0_7 (by omega) (by omega)

set_option maxRecDepth 100000 in
set_option maxHeartbeats 4000000 in
theorem w_X7_parse (d : Nat) (f : zM)  (hI : zInv f) : ZMs (d + 8) yX7_parse cX7_parse 2 (some .int) [zr 18 0] f (fun r g => (∃ v, r = some (zi v) ∧ zB v (-140) 12) ∧ zInv g ∧ zFr [(7, some 0), (7, some 1), (7, some 2), (7, some 3), (7, some 4), (7, some 5), (11, some 0), (11, some 1), (11, some 2), (11, some 3), (11, some 4), (11, some 5), (11, some 6), (11, some 7), (18, some 4), (18, some 5), (18, some 6), (18, some 7)] f g) := by
  refine ZMs.intro (by decide +kernel) (Nat.le_of_ble_eq_true rfl) ?_
  intro X C hr hn hT
  have hF : zFr [(7, some 0), (7, some 1), (7, some 2), (7, some 3), (7, some 4), (7, some 5), (11, some 0), (11, some 1), (11, some 2), (11, some 3), (11, some 4), (11, some 5), (11, some 6), (11, some 7), (18, some 4), (18, some 5), (18, some 6), (18, some 7)] f f := zFr.rf _ _
  have J : ∀ t : Nat, (∀ a22_1 : Int32, zB a22_1 0 11 → ∀ g : zM, zInv g → zFr [(7, some 0), (7, some 1), (7, some 2), (7, some 3), (7, some 4), (7, some 5), (11, some 0), (11, some 1), (11, some 2), (11, some 3), (11, some 4), (11, some 5), (11, some 6), (11, some 7), (18, some 4), (18, some 5), (18, some 6), (18, some 7)] f g → (3 + 6 * (11 - a22_1.toInt) : Int) < t → Z X 22 [some (zr 18 0), some (zi a22_1)] [] g) ∧ (∀ a52_1 : Int32, zB a52_1 1 12 → ∀ g : zM, zInv g → zFr [(7, some 0), (7, some 1), (7, some 2), (7, some 3), (7, some 4), (7, some 5), (11, some 0), (11, some 1), (11, some 2), (11, some 3), (11, some 4), (11, some 5), (11, some 6), (11, some 7), (18, some 4), (18, some 5), (18, some 6), (18, some 7)] f g → (2 : Int) < t → Z X 52 [some (zr 18 0), some (zi a52_1)] [] g) ∧ (∀ a68_1 : Int32, zB a68_1 1 12 → ∀ g : zM, zInv g → zFr [(7, some 0), (7, some 1), (7, some 2), (7, some 3), (7, some 4), (7, some 5), (11, some 0), (11, some 1), (11, some 2), (11, some 3), (11, some 4), (11, some 5), (11, some 6), (11, some 7), (18, some 4), (18, some 5), (18, some 6), (18, some 7)] f g → (1 : Int) < t → Z X 68 [some (zr 18 0), some (zi a68_1)] [] g) ∧ (∀ a87_1 : Int32, zB a87_1 1 12 → ∀ a87_s0 : Int32, zB a87_s0 (-140) 12 → ∀ g : zM, zInv g → zFr [(7, some 0), (7, some 1), (7, some 2), (7, some 3), (7, some 4), (7, some 5), (11, some 0), (11, some 1), (11, some 2), (11, some 3), (11, some 4), (11, some 5), (11, some 6), (11, some 7), (18, some 4), (18, some 5), (18, some 6), (18, some 7)] f g → (0 : Int) < t → Z X 87 [some (zr 18 0), some (zi a87_1)] [zi a87_s0] g) := by
    intro t
    induction t with
    | zero =>
      refine ⟨?_, ?_, ?_, ?_⟩ <;> (intros; exfalso; omega)
    | succ t ih =>
      obtain ⟨ih0, ih1, ih2, ih3⟩ := ih
      refine ⟨?_, ?_, ?_, ?_⟩
      · skip
        intro a22_1 b22_1 g22_ hI22_ hF22_ hM22_
        refine z_aload_n (pc := 22) C dX7_parse_22 rfl ?_
        refine z_callVS (pc := 23) C hT zk_X7_45 (w_X7_readClause _ _  hI22_) rfl rfl (by decide) rfl rfl (Nat.le_of_ble_eq_true rfl) dX7_parse_23 (fun r1 g1 q1 => ?_)
        obtain ⟨rfl, hI1, hF1q, hp1_0⟩ := q1
        have hF1 := zFr.tr hF22_ hF1q (by decide)
        simp only [Option.toList, List.cons_append, List.nil_append]
        refine z_iinc (pc := 26) (v := 1) C dX7_parse_26 rfl (by decide) (by rw [hn]; decide) rfl ?_
        obtain ⟨v2, hv2, e2⟩ : ∃ v : Int32, v = a22_1 + 1 ∧ v.toInt = a22_1.toInt + 1 := ⟨_, rfl, zadd_eb b22_1 (zB.of (x := 1) 1 (by decide)) (by decide) (by decide)⟩
        rw [← hv2]
        have b2x : zB v2 1 12 := by have q9 := b22_1; constructor <;> omega
        refine z_iload_n (pc := 29) C dX7_parse_29 rfl ?_
        refine z_bipush (pc := 30) (v := 12) C dX7_parse_30 (by decide) ?_
        refine z_icmp_ge (pc := 32) 52 C dX7_parse_32 (by decide) (fun h32_2 => ?_) (fun h32_2 => ?_)
        · skip
          have b4x : zB v2 12 12 := by have q1 := b2x; have q2 := (zB.of (x := 12) 12 (by decide)); simp only [z32lt, z32le, z32eq, Int32.reduceToInt, Int32.toInt_zero] at h32_2; constructor <;> omega
          exact ih1 v2 (zB.wk (a' := 1) (b' := 12) b4x (by decide) (by decide)) g1 hI1 hF1  (by omega)
        · skip
          have b5x : zB v2 1 11 := by have q1 := b2x; have q2 := (zB.of (x := 12) 12 (by decide)); simp only [z32lt, z32le, z32eq, Int32.reduceToInt, Int32.toInt_zero] at h32_2; constructor <;> omega
          refine z_aload_n (pc := 35) C dX7_parse_35 rfl ?_
          refine z_getI (pc := 36) C zf_X7_36 rfl rfl (by decide) dX7_parse_36 ?_
          refine w_gb (-1) 120 (hI1 18 _ 7) (fun v6 b6x => ?_)
          refine z_iconst (pc := 39) (v := -1) C dX7_parse_39 (by decide) ?_
          refine z_icmp_ne (pc := 40) 52 C dX7_parse_40 (by decide) (fun h40_6 => ?_) (fun h40_6 => ?_)
          · skip
            have b8x : zB v6 0 120 := by have q1 := b6x; have q2 := (zB.of (x := (-1)) (-1) (by decide)); simp only [z32lt, z32le, z32eq, Int32.reduceToInt, Int32.toInt_zero] at h40_6; constructor <;> omega
            exact ih1 v2 (zB.wk (a' := 1) (b' := 12) b5x (by decide) (by decide)) g1 hI1 hF1  (by omega)
          · skip
            have b9x : zB v6 (-1) (-1) := by have q1 := b6x; have q2 := (zB.of (x := (-1)) (-1) (by decide)); simp only [z32lt, z32le, z32eq, Int32.reduceToInt, Int32.toInt_zero] at h40_6; constructor <;> omega
            refine z_aload_n (pc := 43) C dX7_parse_43 rfl ?_
            refine z_bipush (pc := 44) (v := 59) C dX7_parse_44 (by decide) ?_
            refine z_callV (pc := 46) C zk_X7_48 (w_X7_takes _ _ 59 (zB.wk (a' := 1) (b' := 126) (zB.of (x := 59) 59 (by decide)) (by decide) (by decide)) hI1) rfl rfl (by decide) rfl rfl (Nat.le_of_ble_eq_true rfl) dX7_parse_46 (fun r10 g10 q10 => ?_)
            obtain ⟨⟨v10, rfl, b10x⟩, hI10, hF10q⟩ := q10
            have hF10 := zFr.tr hF1 hF10q (by decide)
            simp only [Option.toList, List.cons_append, List.nil_append]
            refine z_if_ne (pc := 49) 22 C dX7_parse_49 (by decide) (fun h49_10 => ?_) (fun h49_10 => ?_)
            · skip
              have b12x : zB v10 1 1 := by have q1 := b10x; have q2 := (zB.of (x := 0) 0 (by decide)); simp only [z32lt, z32le, z32eq, Int32.reduceToInt, Int32.toInt_zero] at h49_10; constructor <;> omega
              exact ih0 v2 (zB.wk (a' := 0) (b' := 11) b5x (by decide) (by decide)) g10 hI10 hF10  (by omega)
            · skip
              have b13x : zB v10 0 0 := by have q1 := b10x; have q2 := (zB.of (x := 0) 0 (by decide)); simp only [z32lt, z32le, z32eq, Int32.reduceToInt, Int32.toInt_zero] at h49_10; constructor <;> omega
              exact ih1 v2 (zB.wk (a' := 1) (b' := 12) b5x (by decide) (by decide)) g10 hI10 hF10  (by omega)
      · skip
        intro a52_1 b52_1 g52_ hI52_ hF52_ hM52_
        refine z_aload_n (pc := 52) C dX7_parse_52 rfl ?_
        refine z_callV (pc := 53) C zk_X7_52 (w_X7_next _ _  hI52_) rfl rfl (by decide) rfl rfl (Nat.le_of_ble_eq_true rfl) dX7_parse_53 (fun r14 g14 q14 => ?_)
        obtain ⟨⟨v14, rfl, b14x⟩, hI14, hF14q, hp14_0, hp14_1, hp14_2, hp14_3⟩ := q14
        have hp14_0 := hp14_0 _ rfl
        have hp14_1 := hp14_1 _ rfl
        have hp14_2 := hp14_2 _ rfl
        have hp14_3 := hp14_3 _ rfl
        have hF14 := zFr.tr hF52_ hF14q (by decide)
        simp only [Option.toList, List.cons_append, List.nil_append]
        refine z_iconst (pc := 56) (v := -1) C dX7_parse_56 (by decide) ?_
        refine z_icmp_eq (pc := 57) 68 C dX7_parse_57 (by decide) (fun h57_14 => ?_) (fun h57_14 => ?_)
        · skip
          have b16x : zB v14 (-1) (-1) := by have q1 := b14x; have q2 := (zB.of (x := (-1)) (-1) (by decide)); simp only [z32lt, z32le, z32eq, Int32.reduceToInt, Int32.toInt_zero] at h57_14; constructor <;> omega
          exact ih2 a52_1 b52_1 g14 hI14 hF14  (by omega)
        · skip
          have b17x : zB v14 0 255 := by have q1 := b14x; have q2 := (zB.of (x := (-1)) (-1) (by decide)); simp only [z32lt, z32le, z32eq, Int32.reduceToInt, Int32.toInt_zero] at h57_14; constructor <;> omega
          refine z_aload_n (pc := 60) C dX7_parse_60 rfl ?_
          refine z_aload_n (pc := 61) C dX7_parse_61 rfl ?_
          refine z_getI (pc := 62) C zf_X7_33 rfl rfl (by decide) dX7_parse_62 ?_
          refine w_gb 0 120 (hI14 18 _ 6) (fun v18 b18x => ?_)
          refine z_callV (pc := 65) C zk_X7_56 (w_X7_fail _ _ v18 b18x hI14) rfl rfl (by decide) rfl rfl (Nat.le_of_ble_eq_true rfl) dX7_parse_65 (fun r19 g19 q19 => ?_)
          obtain ⟨rfl, hI19, hF19q, hp19_0⟩ := q19
          have hF19 := zFr.tr hF14 hF19q (by decide)
          simp only [Option.toList, List.cons_append, List.nil_append]
          exact ih2 a52_1 b52_1 g19 hI19 hF19  (by omega)
      · skip
        intro a68_1 b68_1 g68_ hI68_ hF68_ hM68_
        refine z_aload_n (pc := 68) C dX7_parse_68 rfl ?_
        refine z_getI (pc := 69) C zf_X7_36 rfl rfl (by decide) dX7_parse_69 ?_
        refine w_gb (-1) 120 (hI68_ 18 _ 7) (fun v20 b20x => ?_)
        refine z_iconst (pc := 72) (v := -1) C dX7_parse_72 (by decide) ?_
        refine z_icmp_ne (pc := 73) 80 C dX7_parse_73 (by decide) (fun h73_20 => ?_) (fun h73_20 => ?_)
        · skip
          have b22x : zB v20 0 120 := by have q1 := b20x; have q2 := (zB.of (x := (-1)) (-1) (by decide)); simp only [z32lt, z32le, z32eq, Int32.reduceToInt, Int32.toInt_zero] at h73_20; constructor <;> omega
          refine z_bipush (pc := 80) (v := -20) C dX7_parse_80 (by decide) ?_
          refine z_aload_n (pc := 82) C dX7_parse_82 rfl ?_
          refine z_getI (pc := 83) C zf_X7_36 rfl rfl (by decide) dX7_parse_83 ?_
          refine w_gb (-1) 120 (hI68_ 18 _ 7) (fun v23 b23x => ?_)
          refine z_isub (pc := 86) C dX7_parse_86 ?_
          refine w_gp (fun v => v.toInt = (-20) - v23.toInt) (zsub_eb (zB.of (x := (-20)) (-20) (by decide)) b23x (by decide) (by decide)) (fun v24 e24 => ?_)
          have b24x : zB v24 (-140) (-19) := by have q1 := (zB.of (x := (-20)) (-20) (by decide)); have q2 := b23x; constructor <;> omega
          exact ih3 a68_1 b68_1 v24 (zB.wk (a' := (-140)) (b' := 12) b24x (by decide) (by decide)) g68_ hI68_ hF68_  (by omega)
        · skip
          have b25x : zB v20 (-1) (-1) := by have q1 := b20x; have q2 := (zB.of (x := (-1)) (-1) (by decide)); simp only [z32lt, z32le, z32eq, Int32.reduceToInt, Int32.toInt_zero] at h73_20; constructor <;> omega
          refine z_iload_n (pc := 76) C dX7_parse_76 rfl ?_
          refine z_goto (pc := 77) 87 C dX7_parse_77 (by decide) ?_
          exact ih3 a68_1 b68_1 a68_1 (zB.wk (a' := (-140)) (b' := 12) b68_1 (by decide) (by decide)) g68_ hI68_ hF68_  (by omega)
      · skip
        intro a87_1 b87_1 a87_s0 b87_s0 g87_ hI87_ hF87_ hM87_
        exact z_iret (pc := 87) C hr dX7_parse_87 ⟨⟨_, rfl, b87_s0⟩, hI87_, hF87_⟩
  obtain ⟨J0, J1, J2, J3⟩ := J 87
  show Z X 0 [some (zr 18 0), none] [] f
  refine z_aload_n (pc := 0) C dX7_parse_0 rfl ?_
  refine z_iconst (pc := 1) (v := 0) C dX7_parse_1 (by decide) ?_
  refine z_putI (pc := 2) C zf_X7_33 zp_7_6 rfl rfl (by decide) dX7_parse_2 ?_
  refine w_mem hI hF (zB.wk (a' := 0) (b' := 120) (zB.of (x := 0) 0 (by decide)) (by decide) (by decide)) rfl (fun g26 hI26 hF26 => ?_)
  refine z_aload_n (pc := 5) C dX7_parse_5 rfl ?_
  refine z_iconst (pc := 6) (v := -1) C dX7_parse_6 (by decide) ?_
  refine z_putI (pc := 7) C zf_X7_36 zp_7_7 rfl rfl (by decide) dX7_parse_7 ?_
  refine w_mem hI26 hF26 (zB.wk (a' := (-1)) (b' := 120) (zB.of (x := (-1)) (-1) (by decide)) (by decide) (by decide)) rfl (fun g27 hI27 hF27 => ?_)
  refine z_aload_n (pc := 10) C dX7_parse_10 rfl ?_
  refine z_iconst (pc := 11) (v := 0) C dX7_parse_11 (by decide) ?_
  refine z_putI (pc := 12) C zf_X7_39 zp_7_4 rfl rfl (by decide) dX7_parse_12 ?_
  refine w_mem hI27 hF27 (zB.wk (a' := 0) (b' := 12) (zB.of (x := 0) 0 (by decide)) (by decide) (by decide)) rfl (fun g28 hI28 hF28 => ?_)
  refine z_aload_n (pc := 15) C dX7_parse_15 rfl ?_
  refine z_iconst (pc := 16) (v := 0) C dX7_parse_16 (by decide) ?_
  refine z_putI (pc := 17) C zf_X7_42 zp_7_5 rfl rfl (by decide) dX7_parse_17 ?_
  refine w_mem hI28 hF28 (zB.wk (a' := 0) (b' := 12) (zB.of (x := 0) 0 (by decide)) (by decide) (by decide)) rfl (fun g29 hI29 hF29 => ?_)
  refine z_iconst (pc := 20) (v := 0) C dX7_parse_20 (by decide) ?_
  refine z_istore_n (pc := 21) C dX7_parse_21 (by rw [hn]; decide) rfl ?_
  exact J0 0 (zB.wk (a' := 0) (b' := 11) (zB.of (x := 0) 0 (by decide)) (by decide) (by decide)) g29 hI29 hF29  (by have qc0 : (0 : Int32).toInt = 0 := (by decide); omega)

set_option maxRecDepth 100000 in
set_option maxHeartbeats 4000000 in
theorem w_X9_world (d : Nat) (f : zM)  (hI : zInv f) : ZMs (d + 9) yX9_world cX9_world 3 (some .int) [zr 0 0] f (fun r g => (∃ v, r = some (zi v) ∧ zB v (-140) 12) ∧ zInv g ∧ zFr [(1, some 5), (1, some 7), (7, some 0), (7, some 1), (7, some 2), (7, some 3), (7, some 4), (7, some 5), (8, some 5), (8, some 6), (8, some 7), (9, none), (10, none), (11, some 0), (11, some 1), (11, some 2), (11, some 3), (11, some 4), (11, some 5), (11, some 6), (11, some 7), (18, some 3), (18, some 4), (18, some 5), (18, some 6), (18, some 7)] f g) := by
  refine ZMs.intro (by decide +kernel) (Nat.le_of_ble_eq_true rfl) ?_
  intro X C hr hn hT
  have hF : zFr [(1, some 5), (1, some 7), (7, some 0), (7, some 1), (7, some 2), (7, some 3), (7, some 4), (7, some 5), (8, some 5), (8, some 6), (8, some 7), (9, none), (10, none), (11, some 0), (11, some 1), (11, some 2), (11, some 3), (11, some 4), (11, some 5), (11, some 6), (11, some 7), (18, some 3), (18, some 4), (18, some 5), (18, some 6), (18, some 7)] f f := zFr.rf _ _
  have ct1_0_5 : zB (f 1 0 5) 0 24 := hI 1 0 5
  have ct18_0_4 : zB (f 18 0 4) 0 12 := hI 18 0 4
  have ct1_0_7 : zB (f 1 0 7) 0 12 := hI 1 0 7
  have ct18_0_5 : zB (f 18 0 5) 0 12 := hI 18 0 5
  have J : ∀ t : Nat, (∀ a62_1 : Int32, zB a62_1 0 12 → ∀ g : zM, zInv g → zFr [(1, some 5), (1, some 7), (7, some 0), (7, some 1), (7, some 2), (7, some 3), (7, some 4), (7, some 5), (8, some 5), (8, some 6), (8, some 7), (9, none), (10, none), (11, some 0), (11, some 1), (11, some 2), (11, some 3), (11, some 4), (11, some 5), (11, some 6), (11, some 7), (18, some 3), (18, some 4), (18, some 5), (18, some 6), (18, some 7)] f g → zB (g 1 0 5) 0 24 → zB (g 1 0 7) 0 12 → zB (g 18 0 4) 0 12 → zB (g 18 0 5) 0 12 → (977 : Int) < t → Z X 62 [some (zr 0 0), some (zi a62_1), none] [] g) ∧ (∀ a67_1 : Int32, zB a67_1 0 12 → ∀ a67_2 : Int32, zB a67_2 0 12 → ∀ g : zM, zInv g → zFr [(1, some 5), (1, some 7), (7, some 0), (7, some 1), (7, some 2), (7, some 3), (7, some 4), (7, some 5), (8, some 5), (8, some 6), (8, some 7), (9, none), (10, none), (11, some 0), (11, some 1), (11, some 2), (11, some 3), (11, some 4), (11, some 5), (11, some 6), (11, some 7), (18, some 3), (18, some 4), (18, some 5), (18, some 6), (18, some 7)] f g → zB (g 1 0 5) 0 24 → zB (g 1 0 7) 0 12 → zB (g 18 0 4) 0 12 → zB (g 18 0 5) 0 12 → ((g 1 0 5).toInt + (g 18 0 4).toInt - a67_2.toInt ≤ 24) → ((g 1 0 7).toInt + (g 18 0 5).toInt ≤ 12) → (66 + 70 * (12 - a67_2.toInt) : Int) < t → Z X 67 [some (zr 0 0), some (zi a67_1), some (zi a67_2)] [] g) ∧ (∀ a121_1 : Int32, zB a121_1 0 12 → ∀ a121_2 : Int32, zB a121_2 0 12 → ∀ g : zM, zInv g → zFr [(1, some 5), (1, some 7), (7, some 0), (7, some 1), (7, some 2), (7, some 3), (7, some 4), (7, some 5), (8, some 5), (8, some 6), (8, some 7), (9, none), (10, none), (11, some 0), (11, some 1), (11, some 2), (11, some 3), (11, some 4), (11, some 5), (11, some 6), (11, some 7), (18, some 3), (18, some 4), (18, some 5), (18, some 6), (18, some 7)] f g → zB (g 1 0 5) 0 24 → zB (g 1 0 7) 0 12 → zB (g 18 0 4) 0 12 → zB (g 18 0 5) 0 12 → ((g 1 0 7).toInt + (g 18 0 5).toInt - a121_2.toInt ≤ 12) → (0 + 5 * (12 - a121_2.toInt) : Int) < t → Z X 121 [some (zr 0 0), some (zi a121_1), some (zi a121_2)] [] g) := by
    intro t
    induction t with
    | zero =>
      refine ⟨?_, ?_, ?_⟩ <;> (intros; exfalso; omega)
    | succ t ih =>
      obtain ⟨ih0, ih1, ih2⟩ := ih
      refine ⟨?_, ?_, ?_⟩
      · skip
        intro a62_1 b62_1 g62_ hI62_ hF62_ f62_1_0_5 f62_1_0_7 f62_18_0_4 f62_18_0_5 hM62_
        refine z_bipush (pc := 62) (v := -3) C dX9_world_62 (by decide) ?_
        exact z_iret (pc := 64) C hr dX9_world_64 ⟨⟨_, rfl, (zB.wk (a' := (-140)) (b' := 12) (zB.of (x := (-3)) (-3) (by decide)) (by decide) (by decide))⟩, hI62_, hF62_⟩
      · skip
        intro a67_1 b67_1 a67_2 b67_2 g67_ hI67_ hF67_ f67_1_0_5 f67_1_0_7 f67_18_0_4 f67_18_0_5 hR67_0 hR67_1 hM67_
        refine z_iload_n (pc := 67) C dX9_world_67 rfl ?_
        refine z_aload_n (pc := 68) C dX9_world_68 rfl ?_
        refine z_getR (pc := 69) C zf_X9_31 rfl rfl (by decide) dX9_world_69 ?_
        refine z_getI (pc := 72) C zf_X9_118 rfl rfl (by decide) dX9_world_72 ?_
        refine w_gp (fun v => v.toInt = (g67_ 18 0 4).toInt) rfl (fun v1 e1 => ?_)
        have b1x : zB v1 0 12 := by have q9 : zB (g67_ 18 0 4) 0 12 := f67_18_0_4; constructor <;> omega
        refine z_icmp_ge (pc := 75) 119 C dX9_world_75 (by decide) (fun h75_1 => ?_) (fun h75_1 => ?_)
        · skip
          have rr3 : a67_2.toInt ≥ v1.toInt := by simp only [z32lt, z32le, z32eq] at h75_1; omega
          refine z_iconst (pc := 119) (v := 0) C dX9_world_119 (by decide) ?_
          refine z_istore_n (pc := 120) C dX9_world_120 (by rw [hn]; decide) rfl ?_
          exact ih2 a67_1 b67_1 0 (zB.wk (a' := 0) (b' := 12) (zB.of (x := 0) 0 (by decide)) (by decide) (by decide)) g67_ hI67_ hF67_ f67_1_0_5 f67_1_0_7 f67_18_0_4 f67_18_0_5 (by have qc0 : (0 : Int32).toInt = 0 := (by decide); omega) (by have qc0 : (0 : Int32).toInt = 0 := (by decide); omega)
        · skip
          have rr4 : a67_2.toInt < v1.toInt := by simp only [z32lt, z32le, z32eq] at h75_1; omega
          have b5x : zB a67_2 0 11 := by have q1 := b67_2; have q2 := b1x; simp only [z32lt, z32le, z32eq, Int32.reduceToInt, Int32.toInt_zero] at h75_1; constructor <;> omega
          have b6x : zB v1 1 12 := by have q1 := b67_2; have q2 := b1x; simp only [z32lt, z32le, z32eq, Int32.reduceToInt, Int32.toInt_zero] at h75_1; constructor <;> omega
          have c7x : zB (g67_ 18 0 4) 1 12 := by constructor <;> omega
          have c8x : zB (g67_ 1 0 5) 0 23 := by constructor <;> omega
          refine z_aload_n (pc := 78) C dX9_world_78 rfl ?_
          refine z_getR (pc := 79) C zf_X9_10 rfl rfl (by decide) dX9_world_79 ?_
          refine z_getR (pc := 82) C zf_X9_54 rfl rfl (by decide) dX9_world_82 ?_
          refine z_aload_n (pc := 85) C dX9_world_85 rfl ?_
          refine z_getR (pc := 86) C zf_X9_10 rfl rfl (by decide) dX9_world_86 ?_
          refine z_getI (pc := 89) C zf_X9_50 rfl rfl (by decide) dX9_world_89 ?_
          refine w_gp (fun v => v.toInt = (g67_ 1 0 5).toInt) rfl (fun v9 e9 => ?_)
          have b9x : zB v9 0 23 := by have q9 : zB (g67_ 1 0 5) 0 23 := c8x; constructor <;> omega
          refine z_aald (pc := 92) C rfl ⟨rfl, by decide⟩ (by decide) (zIx b9x (by decide) (by decide)) dX9_world_92 ?_
          refine w_gr (by have hq := zN b9x (by decide); show 24 * 0 + v9.toNatClampNeg < 60; omega) (fun m10 h10x => ?_)
          refine z_aload_n (pc := 93) C dX9_world_93 rfl ?_
          refine z_getR (pc := 94) C zf_X9_31 rfl rfl (by decide) dX9_world_94 ?_
          refine z_getR (pc := 97) C zf_X9_123 rfl rfl (by decide) dX9_world_97 ?_
          refine z_iload_n (pc := 100) C dX9_world_100 rfl ?_
          refine z_aald (pc := 101) C rfl ⟨rfl, by decide⟩ (by decide) (zIx b5x (by decide) (by decide)) dX9_world_101 ?_
          refine w_gr (by have hq := zN b5x (by decide); show 48 + a67_2.toNatClampNeg < 60; omega) (fun m11 h11x => ?_)
          refine z_callV (pc := 102) C zk_X9_124 (w_X0_copy _ _ m10 h10x m11 h11x hI67_) rfl rfl h10x rfl rfl (Nat.le_of_ble_eq_true rfl) dX9_world_102 (fun r12 g12 q12 => ?_)
          obtain ⟨rfl, hI12, hF12q⟩ := q12
          have hF12 := zFr.tr hF67_ hF12q (by decide)
          simp only [Option.toList, List.cons_append, List.nil_append]
          have ek12_1_0_5 : (g12 1 0 5).toInt = (g67_ 1 0 5).toInt := by rw [hF12q 1 0 5 rfl]
          have c12_1_0_5x : zB (g12 1 0 5) 0 23 := by have q9 := c8x; constructor <;> omega
          have ek12_18_0_4 : (g12 18 0 4).toInt = (g67_ 18 0 4).toInt := by rw [hF12q 18 0 4 rfl]
          have c12_18_0_4x : zB (g12 18 0 4) 1 12 := by have q9 := c7x; constructor <;> omega
          have ek12_1_0_7 : (g12 1 0 7).toInt = (g67_ 1 0 7).toInt := by rw [hF12q 1 0 7 rfl]
          have c12_1_0_7x : zB (g12 1 0 7) 0 12 := by have q9 := f67_1_0_7; constructor <;> omega
          have ek12_18_0_5 : (g12 18 0 5).toInt = (g67_ 18 0 5).toInt := by rw [hF12q 18 0 5 rfl]
          have c12_18_0_5x : zB (g12 18 0 5) 0 12 := by have q9 := f67_18_0_5; constructor <;> omega
          refine z_aload_n (pc := 105) C dX9_world_105 rfl ?_
          refine z_getR (pc := 106) C zf_X9_10 rfl rfl (by decide) dX9_world_106 ?_
          refine z_callV (pc := 109) C zk_X9_64 (w_X8_takeCrime _ _ c12_1_0_5x hI12) rfl rfl (by decide) rfl rfl (Nat.le_of_ble_eq_true rfl) dX9_world_109 (fun r13 g13 q13 => ?_)
          obtain ⟨⟨v13, rfl, b13x⟩, hI13, hF13q, hp13_0⟩ := q13
          have hp13_0 := hp13_0 _ rfl
          have hF13 := zFr.tr hF12 hF13q (by decide)
          simp only [Option.toList, List.cons_append, List.nil_append]
          have cr13_1_0_5 : zB (g13 1 0 5) 0 24 := hI13 1 0 5
          have ek13_18_0_4 : (g13 18 0 4).toInt = (g12 18 0 4).toInt := by rw [hF13q 18 0 4 rfl]
          have c13_18_0_4x : zB (g13 18 0 4) 1 12 := by have q9 := c12_18_0_4x; constructor <;> omega
          have ek13_1_0_7 : (g13 1 0 7).toInt = (g12 1 0 7).toInt := by rw [hF13q 1 0 7 rfl]
          have c13_1_0_7x : zB (g13 1 0 7) 0 12 := by have q9 := c12_1_0_7x; constructor <;> omega
          have ek13_18_0_5 : (g13 18 0 5).toInt = (g12 18 0 5).toInt := by rw [hF13q 18 0 5 rfl]
          have c13_18_0_5x : zB (g13 18 0 5) 0 12 := by have q9 := c12_18_0_5x; constructor <;> omega
          refine z_pop (pc := 112) C dX9_world_112 ?_
          refine z_iinc (pc := 113) (v := 1) C dX9_world_113 rfl (by decide) (by rw [hn]; decide) rfl ?_
          obtain ⟨v14, hv14, e14⟩ : ∃ v : Int32, v = a67_2 + 1 ∧ v.toInt = a67_2.toInt + 1 := ⟨_, rfl, zadd_eb b5x (zB.of (x := 1) 1 (by decide)) (by decide) (by decide)⟩
          rw [← hv14]
          have b14x : zB v14 1 12 := by have q9 := b5x; constructor <;> omega
          refine z_goto (pc := 116) 67 C dX9_world_116 (by decide) ?_
          exact ih1 a67_1 b67_1 v14 (zB.wk (a' := 0) (b' := 12) b14x (by decide) (by decide)) g13 hI13 hF13 cr13_1_0_5 c13_1_0_7x (zB.wk c13_18_0_4x (by decide) (by decide)) c13_18_0_5x (by omega) (by omega) (by omega)
      · skip
        intro a121_1 b121_1 a121_2 b121_2 g121_ hI121_ hF121_ f121_1_0_5 f121_1_0_7 f121_18_0_4 f121_18_0_5 hR121_0 hM121_
        refine z_iload_n (pc := 121) C dX9_world_121 rfl ?_
        refine z_aload_n (pc := 122) C dX9_world_122 rfl ?_
        refine z_getR (pc := 123) C zf_X9_31 rfl rfl (by decide) dX9_world_123 ?_
        refine z_getI (pc := 126) C zf_X9_122 rfl rfl (by decide) dX9_world_126 ?_
        refine w_gp (fun v => v.toInt = (g121_ 18 0 5).toInt) rfl (fun v15 e15 => ?_)
        have b15x : zB v15 0 12 := by have q9 : zB (g121_ 18 0 5) 0 12 := f121_18_0_5; constructor <;> omega
        refine z_icmp_ge (pc := 129) 173 C dX9_world_129 (by decide) (fun h129_15 => ?_) (fun h129_15 => ?_)
        · skip
          have rr17 : a121_2.toInt ≥ v15.toInt := by simp only [z32lt, z32le, z32eq] at h129_15; omega
          refine z_iload_n (pc := 173) C dX9_world_173 rfl ?_
          exact z_iret (pc := 174) C hr dX9_world_174 ⟨⟨_, rfl, (zB.wk (a' := (-140)) (b' := 12) b121_1 (by decide) (by decide))⟩, hI121_, hF121_⟩
        · skip
          have rr18 : a121_2.toInt < v15.toInt := by simp only [z32lt, z32le, z32eq] at h129_15; omega
          have b19x : zB a121_2 0 11 := by have q1 := b121_2; have q2 := b15x; simp only [z32lt, z32le, z32eq, Int32.reduceToInt, Int32.toInt_zero] at h129_15; constructor <;> omega
          have b20x : zB v15 1 12 := by have q1 := b121_2; have q2 := b15x; simp only [z32lt, z32le, z32eq, Int32.reduceToInt, Int32.toInt_zero] at h129_15; constructor <;> omega
          have c21x : zB (g121_ 18 0 5) 1 12 := by constructor <;> omega
          have c22x : zB (g121_ 1 0 7) 0 11 := by constructor <;> omega
          refine z_aload_n (pc := 132) C dX9_world_132 rfl ?_
          refine z_getR (pc := 133) C zf_X9_10 rfl rfl (by decide) dX9_world_133 ?_
          refine z_getR (pc := 136) C zf_X9_90 rfl rfl (by decide) dX9_world_136 ?_
          refine z_aload_n (pc := 139) C dX9_world_139 rfl ?_
          refine z_getR (pc := 140) C zf_X9_10 rfl rfl (by decide) dX9_world_140 ?_
          refine z_getI (pc := 143) C zf_X9_119 rfl rfl (by decide) dX9_world_143 ?_
          refine w_gp (fun v => v.toInt = (g121_ 1 0 7).toInt) rfl (fun v23 e23 => ?_)
          have b23x : zB v23 0 11 := by have q9 : zB (g121_ 1 0 7) 0 11 := c22x; constructor <;> omega
          refine z_aald (pc := 146) C rfl ⟨rfl, by decide⟩ (by decide) (zIx b23x (by decide) (by decide)) dX9_world_146 ?_
          refine w_gr (by have hq := zN b23x (by decide); show 12 * 0 + v23.toNatClampNeg < 36; omega) (fun m24 h24x => ?_)
          refine z_aload_n (pc := 147) C dX9_world_147 rfl ?_
          refine z_getR (pc := 148) C zf_X9_31 rfl rfl (by decide) dX9_world_148 ?_
          refine z_getR (pc := 151) C zf_X9_128 rfl rfl (by decide) dX9_world_151 ?_
          refine z_iload_n (pc := 154) C dX9_world_154 rfl ?_
          refine z_aald (pc := 155) C rfl ⟨rfl, by decide⟩ (by decide) (zIx b19x (by decide) (by decide)) dX9_world_155 ?_
          refine w_gr (by have hq := zN b19x (by decide); show 24 + a121_2.toNatClampNeg < 36; omega) (fun m25 h25x => ?_)
          refine z_callV (pc := 156) C zk_X9_129 (w_X4_copy _ _ m24 h24x m25 h25x hI121_) rfl rfl h24x rfl rfl (Nat.le_of_ble_eq_true rfl) dX9_world_156 (fun r26 g26 q26 => ?_)
          obtain ⟨rfl, hI26, hF26q⟩ := q26
          have hF26 := zFr.tr hF121_ hF26q (by decide)
          simp only [Option.toList, List.cons_append, List.nil_append]
          have ek26_1_0_5 : (g26 1 0 5).toInt = (g121_ 1 0 5).toInt := by rw [hF26q 1 0 5 rfl]
          have c26_1_0_5x : zB (g26 1 0 5) 0 24 := by have q9 := f121_1_0_5; constructor <;> omega
          have ek26_18_0_4 : (g26 18 0 4).toInt = (g121_ 18 0 4).toInt := by rw [hF26q 18 0 4 rfl]
          have c26_18_0_4x : zB (g26 18 0 4) 0 12 := by have q9 := f121_18_0_4; constructor <;> omega
          have ek26_1_0_7 : (g26 1 0 7).toInt = (g121_ 1 0 7).toInt := by rw [hF26q 1 0 7 rfl]
          have c26_1_0_7x : zB (g26 1 0 7) 0 11 := by have q9 := c22x; constructor <;> omega
          have ek26_18_0_5 : (g26 18 0 5).toInt = (g121_ 18 0 5).toInt := by rw [hF26q 18 0 5 rfl]
          have c26_18_0_5x : zB (g26 18 0 5) 1 12 := by have q9 := c21x; constructor <;> omega
          refine z_aload_n (pc := 159) C dX9_world_159 rfl ?_
          refine z_getR (pc := 160) C zf_X9_10 rfl rfl (by decide) dX9_world_160 ?_
          refine z_callV (pc := 163) C zk_X9_132 (w_X8_takePaper _ _ c26_1_0_7x hI26) rfl rfl (by decide) rfl rfl (Nat.le_of_ble_eq_true rfl) dX9_world_163 (fun r27 g27 q27 => ?_)
          obtain ⟨⟨v27, rfl, b27x⟩, hI27, hF27q, hp27_0⟩ := q27
          have hp27_0 := hp27_0 _ rfl
          have hF27 := zFr.tr hF26 hF27q (by decide)
          simp only [Option.toList, List.cons_append, List.nil_append]
          have ek27_1_0_5 : (g27 1 0 5).toInt = (g26 1 0 5).toInt := by rw [hF27q 1 0 5 rfl]
          have c27_1_0_5x : zB (g27 1 0 5) 0 24 := by have q9 := c26_1_0_5x; constructor <;> omega
          have ek27_18_0_4 : (g27 18 0 4).toInt = (g26 18 0 4).toInt := by rw [hF27q 18 0 4 rfl]
          have c27_18_0_4x : zB (g27 18 0 4) 0 12 := by have q9 := c26_18_0_4x; constructor <;> omega
          have cr27_1_0_7 : zB (g27 1 0 7) 0 12 := hI27 1 0 7
          have ek27_18_0_5 : (g27 18 0 5).toInt = (g26 18 0 5).toInt := by rw [hF27q 18 0 5 rfl]
          have c27_18_0_5x : zB (g27 18 0 5) 1 12 := by have q9 := c26_18_0_5x; constructor <;> omega
          refine z_pop (pc := 166) C dX9_world_166 ?_
          refine z_iinc (pc := 167) (v := 1) C dX9_world_167 rfl (by decide) (by rw [hn]; decide) rfl ?_
          obtain ⟨v28, hv28, e28⟩ : ∃ v : Int32, v = a121_2 + 1 ∧ v.toInt = a121_2.toInt + 1 := ⟨_, rfl, zadd_eb b19x (zB.of (x := 1) 1 (by decide)) (by decide) (by decide)⟩
          rw [← hv28]
          have b28x : zB v28 1 12 := by have q9 := b19x; constructor <;> omega
          refine z_goto (pc := 170) 121 C dX9_world_170 (by decide) ?_
          exact ih2 a121_1 b121_1 v28 (zB.wk (a' := 0) (b' := 12) b28x (by decide) (by decide)) g27 hI27 hF27 c27_1_0_5x cr27_1_0_7 c27_18_0_4x (zB.wk c27_18_0_5x (by decide) (by decide)) (by omega) (by omega)
  obtain ⟨J0, J1, J2⟩ := J 989
  show Z X 0 [some (zr 0 0), none, none] [] f
  refine z_aload_n (pc := 0) C dX9_world_0 rfl ?_
  refine z_getR (pc := 1) C zf_X9_31 rfl rfl (by decide) dX9_world_1 ?_
  refine z_callVS (pc := 4) C hT zk_X9_115 (w_X7_parse _ _  hI) rfl rfl (by decide) rfl rfl (Nat.le_of_ble_eq_true rfl) dX9_world_4 (fun r29 g29 q29 => ?_)
  obtain ⟨⟨v29, rfl, b29x⟩, hI29, hF29q⟩ := q29
  have hF29 := zFr.tr hF hF29q (by decide)
  simp only [Option.toList, List.cons_append, List.nil_append]
  have ek29_1_0_5 : (g29 1 0 5).toInt = (f 1 0 5).toInt := by rw [hF29q 1 0 5 rfl]
  have c29_1_0_5x : zB (g29 1 0 5) 0 24 := by have q9 := ct1_0_5; constructor <;> omega
  have cr29_18_0_4 : zB (g29 18 0 4) 0 12 := hI29 18 0 4
  have ek29_1_0_7 : (g29 1 0 7).toInt = (f 1 0 7).toInt := by rw [hF29q 1 0 7 rfl]
  have c29_1_0_7x : zB (g29 1 0 7) 0 12 := by have q9 := ct1_0_7; constructor <;> omega
  have cr29_18_0_5 : zB (g29 18 0 5) 0 12 := hI29 18 0 5
  refine z_istore_n (pc := 7) C dX9_world_7 (by rw [hn]; decide) rfl ?_
  refine z_aload_n (pc := 8) C dX9_world_8 rfl ?_
  refine z_getR (pc := 9) C zf_X9_31 rfl rfl (by decide) dX9_world_9 ?_
  refine z_iconst (pc := 12) (v := 0) C dX9_world_12 (by decide) ?_
  refine z_putI (pc := 13) C zf_X9_108 zp_7_3 rfl rfl (by decide) dX9_world_13 ?_
  refine w_mem2 hI29 hF29 (zB.wk (a' := 0) (b' := 120) (zB.of (x := 0) 0 (by decide)) (by decide) (by decide)) rfl (fun g30 hI30 hF30 hq30 hx30 => ?_)
  have ek30_1_0_5 : (g30 1 0 5).toInt = (g29 1 0 5).toInt := by rw [hq30 1 0 5 (by omega)]
  have c30_1_0_5x : zB (g30 1 0 5) 0 24 := by have q9 := c29_1_0_5x; constructor <;> omega
  have ek30_18_0_4 : (g30 18 0 4).toInt = (g29 18 0 4).toInt := by rw [hq30 18 0 4 (by omega)]
  have c30_18_0_4x : zB (g30 18 0 4) 0 12 := by have q9 := cr29_18_0_4; constructor <;> omega
  have ek30_1_0_7 : (g30 1 0 7).toInt = (g29 1 0 7).toInt := by rw [hq30 1 0 7 (by omega)]
  have c30_1_0_7x : zB (g30 1 0 7) 0 12 := by have q9 := c29_1_0_7x; constructor <;> omega
  have ek30_18_0_5 : (g30 18 0 5).toInt = (g29 18 0 5).toInt := by rw [hq30 18 0 5 (by omega)]
  have c30_18_0_5x : zB (g30 18 0 5) 0 12 := by have q9 := cr29_18_0_5; constructor <;> omega
  refine z_iload_n (pc := 16) C dX9_world_16 rfl ?_
  refine z_if_ge (pc := 17) 22 C dX9_world_17 (by decide) (fun h17_30 => ?_) (fun h17_30 => ?_)
  · skip
    have b32x : zB v29 0 12 := by have q1 := b29x; have q2 := (zB.of (x := 0) 0 (by decide)); simp only [z32lt, z32le, z32eq, Int32.reduceToInt, Int32.toInt_zero] at h17_30; constructor <;> omega
    refine z_aload_n (pc := 22) C dX9_world_22 rfl ?_
    refine z_getR (pc := 23) C zf_X9_10 rfl rfl (by decide) dX9_world_23 ?_
    refine z_getI (pc := 26) C zf_X9_50 rfl rfl (by decide) dX9_world_26 ?_
    refine w_gp (fun v => v.toInt = (g30 1 0 5).toInt) rfl (fun v33 e33 => ?_)
    have b33x : zB v33 0 24 := by have q9 : zB (g30 1 0 5) 0 24 := c30_1_0_5x; constructor <;> omega
    refine z_aload_n (pc := 29) C dX9_world_29 rfl ?_
    refine z_getR (pc := 30) C zf_X9_31 rfl rfl (by decide) dX9_world_30 ?_
    refine z_getI (pc := 33) C zf_X9_118 rfl rfl (by decide) dX9_world_33 ?_
    refine w_gp (fun v => v.toInt = (g30 18 0 4).toInt) rfl (fun v34 e34 => ?_)
    have b34x : zB v34 0 12 := by have q9 : zB (g30 18 0 4) 0 12 := c30_18_0_4x; constructor <;> omega
    refine z_iadd (pc := 36) C dX9_world_36 ?_
    refine w_gp (fun v => v.toInt = v33.toInt + v34.toInt) (zadd_eb b33x b34x (by decide) (by decide)) (fun v35 e35 => ?_)
    have b35x : zB v35 0 36 := by have q1 := b33x; have q2 := b34x; constructor <;> omega
    refine z_bipush (pc := 37) (v := 24) C dX9_world_37 (by decide) ?_
    refine z_icmp_gt (pc := 39) 62 C dX9_world_39 (by decide) (fun h39_35 => ?_) (fun h39_35 => ?_)
    · skip
      have b37x : zB v35 25 36 := by have q1 := b35x; have q2 := (zB.of (x := 24) 24 (by decide)); simp only [z32lt, z32le, z32eq, Int32.reduceToInt, Int32.toInt_zero] at h39_35; constructor <;> omega
      exact J0 v29 b32x g30 hI30 hF30 c30_1_0_5x c30_1_0_7x c30_18_0_4x c30_18_0_5x (by omega)
    · skip
      have b38x : zB v35 0 24 := by have q1 := b35x; have q2 := (zB.of (x := 24) 24 (by decide)); simp only [z32lt, z32le, z32eq, Int32.reduceToInt, Int32.toInt_zero] at h39_35; constructor <;> omega
      refine z_aload_n (pc := 42) C dX9_world_42 rfl ?_
      refine z_getR (pc := 43) C zf_X9_10 rfl rfl (by decide) dX9_world_43 ?_
      refine z_getI (pc := 46) C zf_X9_119 rfl rfl (by decide) dX9_world_46 ?_
      refine w_gp (fun v => v.toInt = (g30 1 0 7).toInt) rfl (fun v39 e39 => ?_)
      have b39x : zB v39 0 12 := by have q9 : zB (g30 1 0 7) 0 12 := c30_1_0_7x; constructor <;> omega
      refine z_aload_n (pc := 49) C dX9_world_49 rfl ?_
      refine z_getR (pc := 50) C zf_X9_31 rfl rfl (by decide) dX9_world_50 ?_
      refine z_getI (pc := 53) C zf_X9_122 rfl rfl (by decide) dX9_world_53 ?_
      refine w_gp (fun v => v.toInt = (g30 18 0 5).toInt) rfl (fun v40 e40 => ?_)
      have b40x : zB v40 0 12 := by have q9 : zB (g30 18 0 5) 0 12 := c30_18_0_5x; constructor <;> omega
      refine z_iadd (pc := 56) C dX9_world_56 ?_
      refine w_gp (fun v => v.toInt = v39.toInt + v40.toInt) (zadd_eb b39x b40x (by decide) (by decide)) (fun v41 e41 => ?_)
      have b41x : zB v41 0 24 := by have q1 := b39x; have q2 := b40x; constructor <;> omega
      refine z_bipush (pc := 57) (v := 12) C dX9_world_57 (by decide) ?_
      refine z_icmp_le (pc := 59) 65 C dX9_world_59 (by decide) (fun h59_41 => ?_) (fun h59_41 => ?_)
      · skip
        have b43x : zB v41 0 12 := by have q1 := b41x; have q2 := (zB.of (x := 12) 12 (by decide)); simp only [z32lt, z32le, z32eq, Int32.reduceToInt, Int32.toInt_zero] at h59_41; constructor <;> omega
        refine z_iconst (pc := 65) (v := 0) C dX9_world_65 (by decide) ?_
        refine z_istore_n (pc := 66) C dX9_world_66 (by rw [hn]; decide) rfl ?_
        exact J1 v29 b32x 0 (zB.wk (a' := 0) (b' := 12) (zB.of (x := 0) 0 (by decide)) (by decide) (by decide)) g30 hI30 hF30 c30_1_0_5x c30_1_0_7x c30_18_0_4x c30_18_0_5x (by have qc0 : (0 : Int32).toInt = 0 := (by decide); omega) (by have qc0 : (0 : Int32).toInt = 0 := (by decide); omega) (by have qc0 : (0 : Int32).toInt = 0 := (by decide); omega)
      · skip
        have b44x : zB v41 13 24 := by have q1 := b41x; have q2 := (zB.of (x := 12) 12 (by decide)); simp only [z32lt, z32le, z32eq, Int32.reduceToInt, Int32.toInt_zero] at h59_41; constructor <;> omega
        exact J0 v29 b32x g30 hI30 hF30 c30_1_0_5x c30_1_0_7x c30_18_0_4x c30_18_0_5x (by omega)
  · skip
    have b45x : zB v29 (-140) (-1) := by have q1 := b29x; have q2 := (zB.of (x := 0) 0 (by decide)); simp only [z32lt, z32le, z32eq, Int32.reduceToInt, Int32.toInt_zero] at h17_30; constructor <;> omega
    refine z_iload_n (pc := 20) C dX9_world_20 rfl ?_
    exact z_iret (pc := 21) C hr dX9_world_21 ⟨⟨_, rfl, (zB.wk (a' := (-140)) (b' := 12) b45x (by decide) (by decide))⟩, hI30, hF30⟩
