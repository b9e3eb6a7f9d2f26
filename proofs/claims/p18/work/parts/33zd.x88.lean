set_option maxRecDepth 100000 in
set_option maxHeartbeats 4000000 in
theorem x_X5_placeWalker (d : Nat) (f : zM) (a1 : Int32) (b1 : zB a1 0 3072) (hI : zInv f) : ZM (d + 2) yX5_placeWalker cX5_placeWalker 2 none [zr 13 0, zi a1] f (fun r g => r = none ∧ zInv g ∧ zFr [(6, some 1), (6, some 4), (6, some 5), (6, some 6)] f g ∧ ((∀ n j, n ≠ 2 → g 6 n j = f 6 n j))) := by
  refine ZM.intro (by decide +kernel) (Nat.le_of_ble_eq_true rfl) ?_
  intro X C hr hn
  have hF : zFr [(6, some 1), (6, some 4), (6, some 5), (6, some 6)] f f := zFr.rf _ _
  show Z X 0 [some (zr 13 0), some (zi a1)] [] f
  refine z_iload_n (pc := 0) C dX5_placeWalker_0 rfl ?_
  refine z_if_ne (pc := 1) 21 C dX5_placeWalker_1 (by decide) (fun h1_0 => ?_) (fun h1_0 => ?_)
  · skip
    have b2x : zB a1 1 3072 := by have q1 := b1; have q2 := (zB.of (x := 0) 0 (by decide)); simp only [z32lt, z32le, z32eq, Int32.reduceToInt, Int32.toInt_zero] at h1_0; constructor <;> omega
    refine z_aload_n (pc := 21) C dX5_placeWalker_21 rfl ?_
    refine z_getR (pc := 22) C zf_X5_12 rfl rfl (by decide) dX5_placeWalker_22 ?_
    refine z_aload_n (pc := 25) C dX5_placeWalker_25 rfl ?_
    refine z_getR (pc := 26) C zf_X5_31 rfl rfl (by decide) dX5_placeWalker_26 ?_
    refine z_getR (pc := 29) C zf_X5_68 rfl rfl (by decide) dX5_placeWalker_29 ?_
    refine z_aload_n (pc := 32) C dX5_placeWalker_32 rfl ?_
    refine z_getR (pc := 33) C zf_X5_22 rfl rfl (by decide) dX5_placeWalker_33 ?_
    refine z_iload_n (pc := 36) C dX5_placeWalker_36 rfl ?_
    refine z_iald (pc := 37) C rfl (by decide) (zIx b2x (by decide) (by decide)) dX5_placeWalker_37 ?_
    have kq37_2 : a1.toNatClampNeg = a1.toInt.toNat := rfl
    refine w_gp (fun v => v = f 15 0 a1.toNatClampNeg) rfl (fun v3 q3 => ?_)
    have b3x : zB v3 0 3071 := by rw [q3]; exact (hI 15 0 a1.toNatClampNeg)
    refine z_sipush (pc := 38) (v := 256) C dX5_placeWalker_38 (by decide) ?_
    refine z_idiv (pc := 41) C dX5_placeWalker_41 (by decide) ?_
    refine w_gp (fun v => v = v3 / (256 : Int32)) rfl (fun v4 q4 => ?_)
    have b4x : zB v4 0 11 := by rw [q4]; exact (zdiv_b 256 b3x (by decide) (by decide) (by decide))
    refine z_aald (pc := 42) C rfl ⟨rfl, by decide⟩ (by decide) (zIx b4x (by decide) (by decide)) dX5_placeWalker_42 ?_
    refine w_grx (by have hq := zN b4x (by decide); show 12 * 0 + v4.toNatClampNeg < 36; omega) (fun m5 q5r h5x => ?_)
    have q5r : m5 = 12 * 0 + v4.toNatClampNeg := q5r
    have k5r : v4.toNatClampNeg = v4.toInt.toNat := rfl
    refine z_aload_n (pc := 43) C dX5_placeWalker_43 rfl ?_
    refine z_getR (pc := 44) C zf_X5_22 rfl rfl (by decide) dX5_placeWalker_44 ?_
    refine z_iload_n (pc := 47) C dX5_placeWalker_47 rfl ?_
    refine z_iald (pc := 48) C rfl (by decide) (zIx b2x (by decide) (by decide)) dX5_placeWalker_48 ?_
    have kq48_5 : a1.toNatClampNeg = a1.toInt.toNat := rfl
    refine w_gp (fun v => v = f 15 0 a1.toNatClampNeg) rfl (fun v6 q6 => ?_)
    have b6x : zB v6 0 3071 := by rw [q6]; exact (hI 15 0 a1.toNatClampNeg)
    refine z_sipush (pc := 49) (v := 256) C dX5_placeWalker_49 (by decide) ?_
    refine z_irem (pc := 52) C dX5_placeWalker_52 (by decide) ?_
    refine w_gp (fun v => v = v6 - v6 / (256 : Int32) * (256 : Int32)) rfl (fun v7 q7 => ?_)
    have b7x : zB v7 0 255 := by rw [q7]; exact (zrem_b 256 b6x (by decide) (by decide) (by decide))
    refine z_callV (pc := 53) C zk_X5_72 (x_X3_go _ _ 2 (by decide) m5 h5x v7 b7x hI) rfl rfl (by decide) rfl rfl (Nat.le_of_ble_eq_true rfl) dX5_placeWalker_53 (fun r8 g8 q8 => ?_)
    obtain ⟨rfl, hI8, hF8q, hp8_0, hp8_1, hp8_2, hp8_3, hp8_4⟩ := q8
    have hF8 := zFr.tr hF hF8q (by decide)
    simp only [Option.toList, List.cons_append, List.nil_append]
    exact z_vret (pc := 56) C hr dX5_placeWalker_56 ⟨rfl, hI8, hF8, (by intro n j hn; exact ((hp8_0 6 n j (by omega))).trans (rfl))⟩
  · skip
    have b9x : zB a1 0 0 := by have q1 := b1; have q2 := (zB.of (x := 0) 0 (by decide)); simp only [z32lt, z32le, z32eq, Int32.reduceToInt, Int32.toInt_zero] at h1_0; constructor <;> omega
    refine z_aload_n (pc := 4) C dX5_placeWalker_4 rfl ?_
    refine z_getR (pc := 5) C zf_X5_12 rfl rfl (by decide) dX5_placeWalker_5 ?_
    refine z_aload_n (pc := 8) C dX5_placeWalker_8 rfl ?_
    refine z_getR (pc := 9) C zf_X5_31 rfl rfl (by decide) dX5_placeWalker_9 ?_
    refine z_getR (pc := 12) C zf_X5_61 rfl rfl (by decide) dX5_placeWalker_12 ?_
    refine z_callV (pc := 15) C zk_X5_64 (x_X3_stand _ _ 2 (by decide) 0 (by decide) (by omega) hI) rfl rfl (by decide) rfl rfl (Nat.le_of_ble_eq_true rfl) dX5_placeWalker_15 (fun r10 g10 q10 => ?_)
    obtain ⟨rfl, hI10, hF10q, hp10_0, hp10_1⟩ := q10
    have hF10 := zFr.tr hF hF10q (by decide)
    simp only [Option.toList, List.cons_append, List.nil_append]
    refine z_goto (pc := 18) 56 C dX5_placeWalker_18 (by decide) ?_
    exact z_vret (pc := 56) C hr dX5_placeWalker_56 ⟨rfl, hI10, hF10, (by intro n j hn; exact ((hp10_1 n j hn)).trans (rfl))⟩

set_option maxRecDepth 100000 in
set_option maxHeartbeats 4000000 in
theorem x_X5_find (d : Nat) (f : zM) (a1 : Int32) (b1 : zB a1 0 5) (a2 : Int32) (b2 : zB a2 0 7) (hI : zInv f) : ZM (d + 3) yX5_find cX5_find 4 (some .int) [zr 13 0, zi a1, zi a2] f (fun r g => (∃ v, r = some (zi v) ∧ zB v (-4) 3072) ∧ zInv g ∧ zFr [(6, some 1), (6, some 4), (6, some 5), (6, some 6), (13, some 6), (13, some 7), (14, none), (15, none), (16, none)] f g ∧ (∀ v : Int32, r = some (zi v) → (∀ n j, n ≠ 2 → g 6 n j = f 6 n j))) := by
  refine ZM.intro (by decide +kernel) (Nat.le_of_ble_eq_true rfl) ?_
  intro X C hr hn
  have hF : zFr [(6, some 1), (6, some 4), (6, some 5), (6, some 6), (13, some 6), (13, some 7), (14, none), (15, none), (16, none)] f f := zFr.rf _ _
  have J : ∀ t : Nat, (∀ a6_3 : Int32, zB a6_3 0 3073 → ∀ g : zM, zInv g → zFr [(6, some 1), (6, some 4), (6, some 5), (6, some 6), (13, some 6), (13, some 7), (14, none), (15, none), (16, none)] f g → ((∀ n j, n ≠ 2 → g 6 n j = f 6 n j)) → (0 + 3 * (3073 - a6_3.toInt) : Int) < t → Z X 6 [some (zr 13 0), some (zi a1), some (zi a2), some (zi a6_3)] [] g) := by
    intro t
    induction t with
    | zero =>
      intros; exfalso; omega
    | succ t ih =>
      have ih0 := ih
      intro a6_3 b6_3 g6_ hI6_ hF6_ hR6_0 hM6_
      refine z_iload_n (pc := 6) C dX5_find_6 rfl ?_
      refine z_aload_n (pc := 7) C dX5_find_7 rfl ?_
      refine z_getR (pc := 8) C zf_X5_22 rfl rfl (by decide) dX5_find_8 ?_
      refine z_alenI (pc := 11) (v := 3073) C rfl (by decide) rfl dX5_find_11 ?_
      refine z_icmp_ge (pc := 12) 70 C dX5_find_12 (by decide) (fun h12_0 => ?_) (fun h12_0 => ?_)
      · skip
        have b2x : zB a6_3 3073 3073 := by have q1 := b6_3; have q2 := (zB.of (x := 3073) 3073 (by decide)); simp only [z32lt, z32le, z32eq, Int32.reduceToInt, Int32.toInt_zero] at h12_0; constructor <;> omega
        refine z_bipush (pc := 70) (v := -4) C dX5_find_70 (by decide) ?_
        exact z_iret (pc := 72) C hr dX5_find_72 ⟨⟨_, rfl, (zB.wk (a' := (-4)) (b' := 3072) (zB.of (x := (-4)) (-4) (by decide)) (by decide) (by decide))⟩, hI6_, hF6_, (by intro v hv; cases hv; intro n j hn; exact hR6_0 n j hn)⟩
      · skip
        have b3x : zB a6_3 0 3072 := by have q1 := b6_3; have q2 := (zB.of (x := 3073) 3073 (by decide)); simp only [z32lt, z32le, z32eq, Int32.reduceToInt, Int32.toInt_zero] at h12_0; constructor <;> omega
        refine z_iload_n (pc := 15) C dX5_find_15 rfl ?_
        refine z_aload_n (pc := 16) C dX5_find_16 rfl ?_
        refine z_getI (pc := 17) C zf_X5_38 rfl rfl (by decide) dX5_find_17 ?_
        refine w_gp (fun v => v = g6_ 13 0 6) rfl (fun v5 q5 => ?_)
        have b5x : zB v5 0 3073 := by rw [q5]; exact (hI6_ 13 0 6)
        refine z_icmp_ge (pc := 20) 70 C dX5_find_20 (by decide) (fun h20_5 => ?_) (fun h20_5 => ?_)
        · skip
          have b7x : zB v5 0 3072 := by have q1 := b3x; have q2 := b5x; simp only [z32lt, z32le, z32eq, Int32.reduceToInt, Int32.toInt_zero] at h20_5; constructor <;> omega
          refine z_bipush (pc := 70) (v := -4) C dX5_find_70 (by decide) ?_
          exact z_iret (pc := 72) C hr dX5_find_72 ⟨⟨_, rfl, (zB.wk (a' := (-4)) (b' := 3072) (zB.of (x := (-4)) (-4) (by decide)) (by decide) (by decide))⟩, hI6_, hF6_, (by intro v hv; cases hv; intro n j hn; exact hR6_0 n j hn)⟩
        · skip
          have b8x : zB v5 1 3073 := by have q1 := b3x; have q2 := b5x; simp only [z32lt, z32le, z32eq, Int32.reduceToInt, Int32.toInt_zero] at h20_5; constructor <;> omega
          refine z_aload_n (pc := 23) C dX5_find_23 rfl ?_
          refine z_iload_n (pc := 24) C dX5_find_24 rfl ?_
          refine z_callV (pc := 25) C zk_X5_42 (x_X5_placeWalker _ _ a6_3 b3x hI6_) rfl rfl (by decide) rfl rfl (Nat.le_of_ble_eq_true rfl) dX5_find_25 (fun r9 g9 q9 => ?_)
          obtain ⟨rfl, hI9, hF9q, hp9_0⟩ := q9
          have hF9 := zFr.tr hF6_ hF9q (by decide)
          simp only [Option.toList, List.cons_append, List.nil_append]
          refine z_aload_n (pc := 28) C dX5_find_28 rfl ?_
          refine z_getR (pc := 29) C zf_X5_12 rfl rfl (by decide) dX5_find_29 ?_
          refine z_getI (pc := 32) C zf_X5_46 rfl rfl (by decide) dX5_find_32 ?_
          refine w_gp (fun v => v = g9 6 2 1) rfl (fun v11 q11 => ?_)
          have b11x : zB v11 0 5 := by rw [q11]; exact (hI9 6 2 1)
          refine z_iload_n (pc := 35) C dX5_find_35 rfl ?_
          refine z_icmp_ne (pc := 36) 59 C dX5_find_36 (by decide) (fun h36_11 => ?_) (fun h36_11 => ?_)
          · skip
            refine z_aload_n (pc := 59) C dX5_find_59 rfl ?_
            refine z_iload_n (pc := 60) C dX5_find_60 rfl ?_
            refine z_callV (pc := 61) C zk_X5_55 (w_X5_spread _ _ a6_3 b3x hI9) rfl rfl (by decide) rfl rfl (Nat.le_of_ble_eq_true rfl) dX5_find_61 (fun r13 g13 q13 => ?_)
            obtain ⟨rfl, hI13, hF13q⟩ := q13
            have hF13 := zFr.tr hF9 hF13q (by decide)
            simp only [Option.toList, List.cons_append, List.nil_append]
            refine z_iinc (pc := 64) (v := 1) C dX5_find_64 rfl (by decide) (by rw [hn]; decide) rfl ?_
            obtain ⟨v14, hv14, e14⟩ : ∃ v : Int32, v = a6_3 + 1 ∧ v.toInt = a6_3.toInt + 1 := ⟨_, rfl, zadd_eb b3x (zB.of (x := 1) 1 (by decide)) (by decide) (by decide)⟩
            rw [← hv14]
            have b14x : zB v14 1 3073 := by have q9 := b3x; constructor <;> omega
            refine z_goto (pc := 67) 6 C dX5_find_67 (by decide) ?_
            exact ih0 v14 (zB.wk (a' := 0) (b' := 3073) b14x (by decide) (by decide)) g13 hI13 hF13 (by intro n j hn; exact ((hF13q 6 n j rfl)).trans (((hp9_0 n j hn)).trans (hR6_0 n j hn))) (by omega)
          · skip
            refine z_aload_n (pc := 39) C dX5_find_39 rfl ?_
            refine z_getR (pc := 40) C zf_X5_31 rfl rfl (by decide) dX5_find_40 ?_
            refine z_aload_n (pc := 43) C dX5_find_43 rfl ?_
            refine z_getR (pc := 44) C zf_X5_12 rfl rfl (by decide) dX5_find_44 ?_
            refine z_callV (pc := 47) C zk_X5_49 (x_X8_triedBy _ _ 2 (by decide) hI9) rfl rfl (by decide) rfl rfl (Nat.le_of_ble_eq_true rfl) dX5_find_47 (fun r15 g15 q15 => ?_)
            obtain ⟨⟨v15, rfl, b15x⟩, hI15, hF15q, hp15_0⟩ := q15
            have hp15_0 := hp15_0 _ rfl
            obtain rfl := zFr_nil hF15q
            simp only [Option.toList, List.cons_append, List.nil_append]
            refine z_iload_n (pc := 50) C dX5_find_50 rfl ?_
            refine z_ishr (pc := 51) C dX5_find_51 ?_
            refine w_gp (fun v => v = v15 >>> (a2 &&& 31)) rfl (fun v16 q16 => ?_)
            refine z_iconst (pc := 52) (v := 1) C dX5_find_52 (by decide) ?_
            refine z_iand (pc := 53) C dX5_find_53 ?_
            refine w_gp (fun v => v = v16 &&& (1 : Int32)) rfl (fun v17 q17 => ?_)
            have b17x : zB v17 0 1 := by rw [q17]; exact (zand_b (zB_any v16) (zB.of (x := 1) 1 (by decide)) (by decide))
            refine z_if_eq (pc := 54) 59 C dX5_find_54 (by decide) (fun h54_17 => ?_) (fun h54_17 => ?_)
            · skip
              have b19x : zB v17 0 0 := by have q1 := b17x; have q2 := (zB.of (x := 0) 0 (by decide)); simp only [z32lt, z32le, z32eq, Int32.reduceToInt, Int32.toInt_zero] at h54_17; constructor <;> omega
              refine z_aload_n (pc := 59) C dX5_find_59 rfl ?_
              refine z_iload_n (pc := 60) C dX5_find_60 rfl ?_
              refine z_callV (pc := 61) C zk_X5_55 (w_X5_spread _ _ a6_3 b3x hI9) rfl rfl (by decide) rfl rfl (Nat.le_of_ble_eq_true rfl) dX5_find_61 (fun r20 g20 q20 => ?_)
              obtain ⟨rfl, hI20, hF20q⟩ := q20
              have hF20 := zFr.tr hF9 hF20q (by decide)
              simp only [Option.toList, List.cons_append, List.nil_append]
              refine z_iinc (pc := 64) (v := 1) C dX5_find_64 rfl (by decide) (by rw [hn]; decide) rfl ?_
              obtain ⟨v21, hv21, e21⟩ : ∃ v : Int32, v = a6_3 + 1 ∧ v.toInt = a6_3.toInt + 1 := ⟨_, rfl, zadd_eb b3x (zB.of (x := 1) 1 (by decide)) (by decide) (by decide)⟩
              rw [← hv21]
              have b21x : zB v21 1 3073 := by have q9 := b3x; constructor <;> omega
              refine z_goto (pc := 67) 6 C dX5_find_67 (by decide) ?_
              exact ih0 v21 (zB.wk (a' := 0) (b' := 3073) b21x (by decide) (by decide)) g20 hI20 hF20 (by intro n j hn; exact ((hF20q 6 n j rfl)).trans (((hp9_0 n j hn)).trans (hR6_0 n j hn))) (by omega)
            · skip
              have b22x : zB v17 1 1 := by have q1 := b17x; have q2 := (zB.of (x := 0) 0 (by decide)); simp only [z32lt, z32le, z32eq, Int32.reduceToInt, Int32.toInt_zero] at h54_17; constructor <;> omega
              refine z_iload_n (pc := 57) C dX5_find_57 rfl ?_
              exact z_iret (pc := 58) C hr dX5_find_58 ⟨⟨_, rfl, (zB.wk (a' := (-4)) (b' := 3072) b3x (by decide) (by decide))⟩, hI9, hF9, (by intro v hv; cases hv; intro n j hn; exact ((hp9_0 n j hn)).trans (hR6_0 n j hn))⟩
  have J0 := J 9234
  show Z X 0 [some (zr 13 0), some (zi a1), some (zi a2), none] [] f
  refine z_aload_n (pc := 0) C dX5_find_0 rfl ?_
  refine z_callV (pc := 1) C zk_X5_35 (w_X5_begin _ _  hI) rfl rfl (by decide) rfl rfl (Nat.le_of_ble_eq_true rfl) dX5_find_1 (fun r23 g23 q23 => ?_)
  obtain ⟨rfl, hI23, hF23q⟩ := q23
  have hF23 := zFr.tr hF hF23q (by decide)
  simp only [Option.toList, List.cons_append, List.nil_append]
  refine z_iconst (pc := 4) (v := 0) C dX5_find_4 (by decide) ?_
  refine z_istore_n (pc := 5) C dX5_find_5 (by rw [hn]; decide) rfl ?_
  exact J0 0 (zB.wk (a' := 0) (b' := 3073) (zB.of (x := 0) 0 (by decide)) (by decide) (by decide)) g23 hI23 hF23 (by intro n j hn; exact ((hF23q 6 n j rfl)).trans (rfl)) (by have qc0 : (0 : Int32).toInt = 0 := (by decide); omega)

set_option maxRecDepth 100000 in
set_option maxHeartbeats 4000000 in
theorem x_X5_reach (d : Nat) (f : zM)  (hI : zInv f) : ZM (d + 3) yX5_reach cX5_reach 3 (some .int) [zr 13 0] f (fun r g => (∃ v, r = some (zi v) ∧ zB v 0 63) ∧ zInv g ∧ zFr [(6, some 1), (6, some 4), (6, some 5), (6, some 6), (13, some 6), (13, some 7), (14, none), (15, none), (16, none)] f g ∧ (∀ v : Int32, r = some (zi v) → (∀ n j, n ≠ 2 → g 6 n j = f 6 n j))) := by
  refine ZM.intro (by decide +kernel) (Nat.le_of_ble_eq_true rfl) ?_
  intro X C hr hn
  have hF : zFr [(6, some 1), (6, some 4), (6, some 5), (6, some 6), (13, some 6), (13, some 7), (14, none), (15, none), (16, none)] f f := zFr.rf _ _
  have J : ∀ t : Nat, (∀ a8_1 : Int32, zB a8_1 0 63 → ∀ a8_2 : Int32, zB a8_2 0 3073 → ∀ g : zM, zInv g → zFr [(6, some 1), (6, some 4), (6, some 5), (6, some 6), (13, some 6), (13, some 7), (14, none), (15, none), (16, none)] f g → ((∀ n j, n ≠ 2 → g 6 n j = f 6 n j)) → (0 + 3 * (3073 - a8_2.toInt) : Int) < t → Z X 8 [some (zr 13 0), some (zi a8_1), some (zi a8_2)] [] g) := by
    intro t
    induction t with
    | zero =>
      intros; exfalso; omega
    | succ t ih =>
      have ih0 := ih
      intro a8_1 b8_1 a8_2 b8_2 g8_ hI8_ hF8_ hR8_0 hM8_
      refine z_iload_n (pc := 8) C dX5_reach_8 rfl ?_
      refine z_aload_n (pc := 9) C dX5_reach_9 rfl ?_
      refine z_getR (pc := 10) C zf_X5_22 rfl rfl (by decide) dX5_reach_10 ?_
      refine z_alenI (pc := 13) (v := 3073) C rfl (by decide) rfl dX5_reach_13 ?_
      refine z_icmp_ge (pc := 14) 53 C dX5_reach_14 (by decide) (fun h14_0 => ?_) (fun h14_0 => ?_)
      · skip
        have b2x : zB a8_2 3073 3073 := by have q1 := b8_2; have q2 := (zB.of (x := 3073) 3073 (by decide)); simp only [z32lt, z32le, z32eq, Int32.reduceToInt, Int32.toInt_zero] at h14_0; constructor <;> omega
        refine z_iload_n (pc := 53) C dX5_reach_53 rfl ?_
        exact z_iret (pc := 54) C hr dX5_reach_54 ⟨⟨_, rfl, b8_1⟩, hI8_, hF8_, (by intro v hv; cases hv; intro n j hn; exact hR8_0 n j hn)⟩
      · skip
        have b3x : zB a8_2 0 3072 := by have q1 := b8_2; have q2 := (zB.of (x := 3073) 3073 (by decide)); simp only [z32lt, z32le, z32eq, Int32.reduceToInt, Int32.toInt_zero] at h14_0; constructor <;> omega
        refine z_iload_n (pc := 17) C dX5_reach_17 rfl ?_
        refine z_aload_n (pc := 18) C dX5_reach_18 rfl ?_
        refine z_getI (pc := 19) C zf_X5_38 rfl rfl (by decide) dX5_reach_19 ?_
        refine w_gp (fun v => v = g8_ 13 0 6) rfl (fun v5 q5 => ?_)
        have b5x : zB v5 0 3073 := by rw [q5]; exact (hI8_ 13 0 6)
        refine z_icmp_ge (pc := 22) 53 C dX5_reach_22 (by decide) (fun h22_5 => ?_) (fun h22_5 => ?_)
        · skip
          have b7x : zB v5 0 3072 := by have q1 := b3x; have q2 := b5x; simp only [z32lt, z32le, z32eq, Int32.reduceToInt, Int32.toInt_zero] at h22_5; constructor <;> omega
          refine z_iload_n (pc := 53) C dX5_reach_53 rfl ?_
          exact z_iret (pc := 54) C hr dX5_reach_54 ⟨⟨_, rfl, b8_1⟩, hI8_, hF8_, (by intro v hv; cases hv; intro n j hn; exact hR8_0 n j hn)⟩
        · skip
          have b8x : zB v5 1 3073 := by have q1 := b3x; have q2 := b5x; simp only [z32lt, z32le, z32eq, Int32.reduceToInt, Int32.toInt_zero] at h22_5; constructor <;> omega
          refine z_aload_n (pc := 25) C dX5_reach_25 rfl ?_
          refine z_iload_n (pc := 26) C dX5_reach_26 rfl ?_
          refine z_callV (pc := 27) C zk_X5_42 (x_X5_placeWalker _ _ a8_2 b3x hI8_) rfl rfl (by decide) rfl rfl (Nat.le_of_ble_eq_true rfl) dX5_reach_27 (fun r9 g9 q9 => ?_)
          obtain ⟨rfl, hI9, hF9q, hp9_0⟩ := q9
          have hF9 := zFr.tr hF8_ hF9q (by decide)
          simp only [Option.toList, List.cons_append, List.nil_append]
          refine z_iload_n (pc := 30) C dX5_reach_30 rfl ?_
          refine z_iconst (pc := 31) (v := 1) C dX5_reach_31 (by decide) ?_
          refine z_aload_n (pc := 32) C dX5_reach_32 rfl ?_
          refine z_getR (pc := 33) C zf_X5_12 rfl rfl (by decide) dX5_reach_33 ?_
          refine z_getI (pc := 36) C zf_X5_46 rfl rfl (by decide) dX5_reach_36 ?_
          refine w_gp (fun v => v = g9 6 2 1) rfl (fun v11 q11 => ?_)
          have b11x : zB v11 0 5 := by rw [q11]; exact (hI9 6 2 1)
          refine z_ishl (pc := 39) C dX5_reach_39 ?_
          refine w_gp (fun v => v = (1 : Int32) <<< (v11 &&& 31)) rfl (fun v12 q12 => ?_)
          have b12x : zB v12 0 32 := by rw [q12]; exact (zshl_b b11x 5 (by decide) (by decide))
          refine z_ior (pc := 40) C dX5_reach_40 ?_
          refine w_gp (fun v => v = a8_1 ||| v12) rfl (fun v13 q13 => ?_)
          have b13x : zB v13 0 63 := by rw [q13]; exact (zor_b 6 b8_1 b12x (by decide) (by decide) (by decide) (by decide) (by decide))
          refine z_istore_n (pc := 41) C dX5_reach_41 (by rw [hn]; decide) rfl ?_
          refine z_aload_n (pc := 42) C dX5_reach_42 rfl ?_
          refine z_iload_n (pc := 43) C dX5_reach_43 rfl ?_
          refine z_callV (pc := 44) C zk_X5_55 (w_X5_spread _ _ a8_2 b3x hI9) rfl rfl (by decide) rfl rfl (Nat.le_of_ble_eq_true rfl) dX5_reach_44 (fun r14 g14 q14 => ?_)
          obtain ⟨rfl, hI14, hF14q⟩ := q14
          have hF14 := zFr.tr hF9 hF14q (by decide)
          simp only [Option.toList, List.cons_append, List.nil_append]
          refine z_iinc (pc := 47) (v := 1) C dX5_reach_47 rfl (by decide) (by rw [hn]; decide) rfl ?_
          obtain ⟨v15, hv15, e15⟩ : ∃ v : Int32, v = a8_2 + 1 ∧ v.toInt = a8_2.toInt + 1 := ⟨_, rfl, zadd_eb b3x (zB.of (x := 1) 1 (by decide)) (by decide) (by decide)⟩
          rw [← hv15]
          have b15x : zB v15 1 3073 := by have q9 := b3x; constructor <;> omega
          refine z_goto (pc := 50) 8 C dX5_reach_50 (by decide) ?_
          exact ih0 v13 b13x v15 (zB.wk (a' := 0) (b' := 3073) b15x (by decide) (by decide)) g14 hI14 hF14 (by intro n j hn; exact ((hF14q 6 n j rfl)).trans (((hp9_0 n j hn)).trans (hR8_0 n j hn))) (by omega)
  have J0 := J 9234
  show Z X 0 [some (zr 13 0), none, none] [] f
  refine z_iconst (pc := 0) (v := 0) C dX5_reach_0 (by decide) ?_
  refine z_istore_n (pc := 1) C dX5_reach_1 (by rw [hn]; decide) rfl ?_
  refine z_aload_n (pc := 2) C dX5_reach_2 rfl ?_
  refine z_callV (pc := 3) C zk_X5_35 (w_X5_begin _ _  hI) rfl rfl (by decide) rfl rfl (Nat.le_of_ble_eq_true rfl) dX5_reach_3 (fun r16 g16 q16 => ?_)
  obtain ⟨rfl, hI16, hF16q⟩ := q16
  have hF16 := zFr.tr hF hF16q (by decide)
  simp only [Option.toList, List.cons_append, List.nil_append]
  refine z_iconst (pc := 6) (v := 0) C dX5_reach_6 (by decide) ?_
  refine z_istore_n (pc := 7) C dX5_reach_7 (by rw [hn]; decide) rfl ?_
  exact J0 0 (zB.wk (a' := 0) (b' := 63) (zB.of (x := 0) 0 (by decide)) (by decide) (by decide)) 0 (zB.wk (a' := 0) (b' := 3073) (zB.of (x := 0) 0 (by decide)) (by decide) (by decide)) g16 hI16 hF16 (by intro n j hn; exact ((hF16q 6 n j rfl)).trans (rfl)) (by have qc0 : (0 : Int32).toInt = 0 := (by decide); omega)

set_option maxRecDepth 100000 in
set_option maxHeartbeats 4000000 in
theorem x_X5_safeLands (d : Nat) (f : zM) (a1 : Int32) (b1 : zB a1 0 1) (hI : zInv f) : ZM (d + 2) yX5_safeLands cX5_safeLands 6 (some .int) [zr 13 0, zi a1] f (fun r g => (∃ v, r = some (zi v) ∧ zB v 0 63) ∧ zInv g ∧ zFr [(6, some 1), (6, some 4), (6, some 5), (6, some 6)] f g ∧ (∀ v : Int32, r = some (zi v) → (∀ n j, n ≠ 2 → g 6 n j = f 6 n j))) := by
  refine ZM.intro (by decide +kernel) (Nat.le_of_ble_eq_true rfl) ?_
  intro X C hr hn
  have hF : zFr [(6, some 1), (6, some 4), (6, some 5), (6, some 6)] f f := zFr.rf _ _
  have J : ∀ t : Nat, (∀ a4_2 : Int32, zB a4_2 0 63 → ∀ a4_3 : Int32, zB a4_3 0 6 → ∀ g : zM, zInv g → zFr [(6, some 1), (6, some 4), (6, some 5), (6, some 6)] f g → ((∀ n j, n ≠ 2 → g 6 n j = f 6 n j)) → (53 + 56 * (6 - a4_3.toInt) : Int) < t → Z X 4 [some (zr 13 0), some (zi a1), some (zi a4_2), some (zi a4_3), none, none] [] g) ∧ (∀ a46_2 : Int32, zB a46_2 0 63 → ∀ a46_3 : Int32, zB a46_3 0 5 → ∀ a46_4 : Int32, zB a46_4 0 1 → ∀ a46_5 : Int32, zB a46_5 0 12 → ∀ g : zM, zInv g → zFr [(6, some 1), (6, some 4), (6, some 5), (6, some 6)] f g → ((∀ n j, n ≠ 2 → g 6 n j = f 6 n j)) → (0 + 4 * (12 - a46_5.toInt) + 56 * (6 - a46_3.toInt) : Int) < t → Z X 46 [some (zr 13 0), some (zi a1), some (zi a46_2), some (zi a46_3), some (zi a46_4), some (zi a46_5)] [] g) := by
    intro t
    induction t with
    | zero =>
      refine ⟨?_, ?_⟩ <;> (intros; exfalso; omega)
    | succ t ih =>
      obtain ⟨ih0, ih1⟩ := ih
      refine ⟨?_, ?_⟩
      · skip
        intro a4_2 b4_2 a4_3 b4_3 g4_ hI4_ hF4_ hR4_0 hM4_
        refine z_iload_n (pc := 4) C dX5_safeLands_4 rfl ?_
        refine z_bipush (pc := 5) (v := 6) C dX5_safeLands_5 (by decide) ?_
        refine z_icmp_ge (pc := 7) 117 C dX5_safeLands_7 (by decide) (fun h7_0 => ?_) (fun h7_0 => ?_)
        · skip
          have b2x : zB a4_3 6 6 := by have q1 := b4_3; have q2 := (zB.of (x := 6) 6 (by decide)); simp only [z32lt, z32le, z32eq, Int32.reduceToInt, Int32.toInt_zero] at h7_0; constructor <;> omega
          refine z_iload_n (pc := 117) C dX5_safeLands_117 rfl ?_
          exact z_iret (pc := 118) C hr dX5_safeLands_118 ⟨⟨_, rfl, b4_2⟩, hI4_, hF4_, (by intro v hv; cases hv; intro n j hn; exact hR4_0 n j hn)⟩
        · skip
          have b3x : zB a4_3 0 5 := by have q1 := b4_3; have q2 := (zB.of (x := 6) 6 (by decide)); simp only [z32lt, z32le, z32eq, Int32.reduceToInt, Int32.toInt_zero] at h7_0; constructor <;> omega
          refine z_aload_n (pc := 10) C dX5_safeLands_10 rfl ?_
          refine z_getR (pc := 11) C zf_X5_12 rfl rfl (by decide) dX5_safeLands_11 ?_
          refine z_iload_n (pc := 14) C dX5_safeLands_14 rfl ?_
          refine z_callV (pc := 15) C zk_X5_89 (x_X3_sit _ _ 2 (by decide) a4_3 b3x hI4_) rfl rfl (by decide) rfl rfl (Nat.le_of_ble_eq_true rfl) dX5_safeLands_15 (fun r4 g4 q4 => ?_)
          obtain ⟨rfl, hI4, hF4q, hp4_0⟩ := q4
          have hF4 := zFr.tr hF4_ hF4q (by decide)
          simp only [Option.toList, List.cons_append, List.nil_append]
          refine z_iload_n (pc := 18) C dX5_safeLands_18 rfl ?_
          refine z_if_eq (pc := 19) 36 C dX5_safeLands_19 (by decide) (fun h19_4 => ?_) (fun h19_4 => ?_)
          · skip
            have b6x : zB a1 0 0 := by have q1 := b1; have q2 := (zB.of (x := 0) 0 (by decide)); simp only [z32lt, z32le, z32eq, Int32.reduceToInt, Int32.toInt_zero] at h19_4; constructor <;> omega
            refine z_iconst (pc := 36) (v := 1) C dX5_safeLands_36 (by decide) ?_
            refine z_goto (pc := 37) 41 C dX5_safeLands_37 (by decide) ?_
            refine z_istore (pc := 41) C dX5_safeLands_41 (by rw [hn]; decide) rfl ?_
            refine z_iconst (pc := 43) (v := 0) C dX5_safeLands_43 (by decide) ?_
            refine z_istore (pc := 44) C dX5_safeLands_44 (by rw [hn]; decide) rfl ?_
            exact ih1 a4_2 b4_2 a4_3 b3x 1 (zB.wk (a' := 0) (b' := 1) (zB.of (x := 1) 1 (by decide)) (by decide) (by decide)) 0 (zB.wk (a' := 0) (b' := 12) (zB.of (x := 0) 0 (by decide)) (by decide) (by decide)) g4 hI4 hF4 (by intro n j hn; exact ((show g4 6 n j = g4_ 6 n j by rw [hp4_0, zup_ne _ _ (by omega), zup_ne _ _ (by omega), zup_ne _ _ (by omega), zup_ne _ _ (by omega)])).trans (hR4_0 n j hn)) (by have qc0 : (0 : Int32).toInt = 0 := (by decide); have qc1 : (1 : Int32).toInt = 1 := (by decide); omega)
          · skip
            have b7x : zB a1 1 1 := by have q1 := b1; have q2 := (zB.of (x := 0) 0 (by decide)); simp only [z32lt, z32le, z32eq, Int32.reduceToInt, Int32.toInt_zero] at h19_4; constructor <;> omega
            refine z_aload_n (pc := 22) C dX5_safeLands_22 rfl ?_
            refine z_getR (pc := 23) C zf_X5_31 rfl rfl (by decide) dX5_safeLands_23 ?_
            refine z_aload_n (pc := 26) C dX5_safeLands_26 rfl ?_
            refine z_getR (pc := 27) C zf_X5_12 rfl rfl (by decide) dX5_safeLands_27 ?_
            refine z_callV (pc := 30) C zk_X5_49 (x_X8_triedBy _ _ 2 (by decide) hI4) rfl rfl (by decide) rfl rfl (Nat.le_of_ble_eq_true rfl) dX5_safeLands_30 (fun r8 g8 q8 => ?_)
            obtain ⟨⟨v8, rfl, b8x⟩, hI8, hF8q, hp8_0⟩ := q8
            have hp8_0 := hp8_0 _ rfl
            obtain rfl := zFr_nil hF8q
            simp only [Option.toList, List.cons_append, List.nil_append]
            refine z_if_ne (pc := 33) 40 C dX5_safeLands_33 (by decide) (fun h33_8 => ?_) (fun h33_8 => ?_)
            · skip
              have b10x : zB v8 1 255 := by have q1 := b8x; have q2 := (zB.of (x := 0) 0 (by decide)); simp only [z32lt, z32le, z32eq, Int32.reduceToInt, Int32.toInt_zero] at h33_8; constructor <;> omega
              refine z_iconst (pc := 40) (v := 0) C dX5_safeLands_40 (by decide) ?_
              refine z_istore (pc := 41) C dX5_safeLands_41 (by rw [hn]; decide) rfl ?_
              refine z_iconst (pc := 43) (v := 0) C dX5_safeLands_43 (by decide) ?_
              refine z_istore (pc := 44) C dX5_safeLands_44 (by rw [hn]; decide) rfl ?_
              exact ih1 a4_2 b4_2 a4_3 b3x 0 (zB.wk (a' := 0) (b' := 1) (zB.of (x := 0) 0 (by decide)) (by decide) (by decide)) 0 (zB.wk (a' := 0) (b' := 12) (zB.of (x := 0) 0 (by decide)) (by decide) (by decide)) g4 hI4 hF4 (by intro n j hn; exact ((show g4 6 n j = g4_ 6 n j by rw [hp4_0, zup_ne _ _ (by omega), zup_ne _ _ (by omega), zup_ne _ _ (by omega), zup_ne _ _ (by omega)])).trans (hR4_0 n j hn)) (by have qc0 : (0 : Int32).toInt = 0 := (by decide); omega)
            · skip
              have b11x : zB v8 0 0 := by have q1 := b8x; have q2 := (zB.of (x := 0) 0 (by decide)); simp only [z32lt, z32le, z32eq, Int32.reduceToInt, Int32.toInt_zero] at h33_8; constructor <;> omega
              refine z_iconst (pc := 36) (v := 1) C dX5_safeLands_36 (by decide) ?_
              refine z_goto (pc := 37) 41 C dX5_safeLands_37 (by decide) ?_
              refine z_istore (pc := 41) C dX5_safeLands_41 (by rw [hn]; decide) rfl ?_
              refine z_iconst (pc := 43) (v := 0) C dX5_safeLands_43 (by decide) ?_
              refine z_istore (pc := 44) C dX5_safeLands_44 (by rw [hn]; decide) rfl ?_
              exact ih1 a4_2 b4_2 a4_3 b3x 1 (zB.wk (a' := 0) (b' := 1) (zB.of (x := 1) 1 (by decide)) (by decide) (by decide)) 0 (zB.wk (a' := 0) (b' := 12) (zB.of (x := 0) 0 (by decide)) (by decide) (by decide)) g4 hI4 hF4 (by intro n j hn; exact ((show g4 6 n j = g4_ 6 n j by rw [hp4_0, zup_ne _ _ (by omega), zup_ne _ _ (by omega), zup_ne _ _ (by omega), zup_ne _ _ (by omega)])).trans (hR4_0 n j hn)) (by have qc0 : (0 : Int32).toInt = 0 := (by decide); have qc1 : (1 : Int32).toInt = 1 := (by decide); omega)
      · skip
        intro a46_2 b46_2 a46_3 b46_3 a46_4 b46_4 a46_5 b46_5 g46_ hI46_ hF46_ hR46_0 hM46_
        refine z_iload (pc := 46) C dX5_safeLands_46 rfl ?_
        refine z_aload_n (pc := 48) C dX5_safeLands_48 rfl ?_
        refine z_getR (pc := 49) C zf_X5_31 rfl rfl (by decide) dX5_safeLands_49 ?_
        refine z_getI (pc := 52) C zf_X5_76 rfl rfl (by decide) dX5_safeLands_52 ?_
        refine w_gp (fun v => v = g46_ 1 0 7) rfl (fun v13 q13 => ?_)
        have b13x : zB v13 0 12 := by rw [q13]; exact (hI46_ 1 0 7)
        refine z_icmp_ge (pc := 55) 96 C dX5_safeLands_55 (by decide) (fun h55_13 => ?_) (fun h55_13 => ?_)
        · skip
          refine z_iload_n (pc := 96) C dX5_safeLands_96 rfl ?_
          refine z_iload (pc := 97) C dX5_safeLands_97 rfl ?_
          refine z_if_eq (pc := 99) 108 C dX5_safeLands_99 (by decide) (fun h99_14 => ?_) (fun h99_14 => ?_)
          · skip
            have b16x : zB a46_4 0 0 := by have q1 := b46_4; have q2 := (zB.of (x := 0) 0 (by decide)); simp only [z32lt, z32le, z32eq, Int32.reduceToInt, Int32.toInt_zero] at h99_14; constructor <;> omega
            refine z_iconst (pc := 108) (v := 0) C dX5_safeLands_108 (by decide) ?_
            refine z_ior (pc := 109) C dX5_safeLands_109 ?_
            refine w_gp (fun v => v = a46_2 ||| (0 : Int32)) rfl (fun v17 q17 => ?_)
            have b17x : zB v17 0 63 := by rw [q17]; exact (zor_b 6 b46_2 (zB.of (x := 0) 0 (by decide)) (by decide) (by decide) (by decide) (by decide) (by decide))
            refine z_istore_n (pc := 110) C dX5_safeLands_110 (by rw [hn]; decide) rfl ?_
            refine z_iinc (pc := 111) (v := 1) C dX5_safeLands_111 rfl (by decide) (by rw [hn]; decide) rfl ?_
            obtain ⟨v18, hv18, e18⟩ : ∃ v : Int32, v = a46_3 + 1 ∧ v.toInt = a46_3.toInt + 1 := ⟨_, rfl, zadd_eb b46_3 (zB.of (x := 1) 1 (by decide)) (by decide) (by decide)⟩
            rw [← hv18]
            have b18x : zB v18 1 6 := by have q9 := b46_3; constructor <;> omega
            refine z_goto (pc := 114) 4 C dX5_safeLands_114 (by decide) ?_
            refine w_mask [4, 5] ?_
            exact ih0 v17 b17x v18 (zB.wk (a' := 0) (b' := 6) b18x (by decide) (by decide)) g46_ hI46_ hF46_ (by intro n j hn; exact hR46_0 n j hn) (by omega)
          · skip
            have b19x : zB a46_4 1 1 := by have q1 := b46_4; have q2 := (zB.of (x := 0) 0 (by decide)); simp only [z32lt, z32le, z32eq, Int32.reduceToInt, Int32.toInt_zero] at h99_14; constructor <;> omega
            refine z_iconst (pc := 102) (v := 1) C dX5_safeLands_102 (by decide) ?_
            refine z_iload_n (pc := 103) C dX5_safeLands_103 rfl ?_
            refine z_ishl (pc := 104) C dX5_safeLands_104 ?_
            refine w_gp (fun v => v = (1 : Int32) <<< (a46_3 &&& 31)) rfl (fun v20 q20 => ?_)
            have b20x : zB v20 0 32 := by rw [q20]; exact (zshl_b b46_3 5 (by decide) (by decide))
            refine z_goto (pc := 105) 109 C dX5_safeLands_105 (by decide) ?_
            refine z_ior (pc := 109) C dX5_safeLands_109 ?_
            refine w_gp (fun v => v = a46_2 ||| v20) rfl (fun v21 q21 => ?_)
            have b21x : zB v21 0 63 := by rw [q21]; exact (zor_b 6 b46_2 b20x (by decide) (by decide) (by decide) (by decide) (by decide))
            refine z_istore_n (pc := 110) C dX5_safeLands_110 (by rw [hn]; decide) rfl ?_
            refine z_iinc (pc := 111) (v := 1) C dX5_safeLands_111 rfl (by decide) (by rw [hn]; decide) rfl ?_
            obtain ⟨v22, hv22, e22⟩ : ∃ v : Int32, v = a46_3 + 1 ∧ v.toInt = a46_3.toInt + 1 := ⟨_, rfl, zadd_eb b46_3 (zB.of (x := 1) 1 (by decide)) (by decide) (by decide)⟩
            rw [← hv22]
            have b22x : zB v22 1 6 := by have q9 := b46_3; constructor <;> omega
            refine z_goto (pc := 114) 4 C dX5_safeLands_114 (by decide) ?_
            refine w_mask [4, 5] ?_
            exact ih0 v21 b21x v22 (zB.wk (a' := 0) (b' := 6) b22x (by decide) (by decide)) g46_ hI46_ hF46_ (by intro n j hn; exact hR46_0 n j hn) (by omega)
        · skip
          have b23x : zB a46_5 0 11 := by have q1 := b46_5; have q2 := b13x; simp only [z32lt, z32le, z32eq, Int32.reduceToInt, Int32.toInt_zero] at h55_13; constructor <;> omega
          have b24x : zB v13 1 12 := by have q1 := b46_5; have q2 := b13x; simp only [z32lt, z32le, z32eq, Int32.reduceToInt, Int32.toInt_zero] at h55_13; constructor <;> omega
          refine z_iload (pc := 58) C dX5_safeLands_58 rfl ?_
          refine z_if_eq (pc := 60) 87 C dX5_safeLands_60 (by decide) (fun h60_24 => ?_) (fun h60_24 => ?_)
          · skip
            have b26x : zB a46_4 0 0 := by have q1 := b46_4; have q2 := (zB.of (x := 0) 0 (by decide)); simp only [z32lt, z32le, z32eq, Int32.reduceToInt, Int32.toInt_zero] at h60_24; constructor <;> omega
            refine z_iconst (pc := 87) (v := 0) C dX5_safeLands_87 (by decide) ?_
            refine z_istore (pc := 88) C dX5_safeLands_88 (by rw [hn]; decide) rfl ?_
            refine z_iinc (pc := 90) (v := 1) C dX5_safeLands_90 rfl (by decide) (by rw [hn]; decide) rfl ?_
            obtain ⟨v27, hv27, e27⟩ : ∃ v : Int32, v = a46_5 + 1 ∧ v.toInt = a46_5.toInt + 1 := ⟨_, rfl, zadd_eb b23x (zB.of (x := 1) 1 (by decide)) (by decide) (by decide)⟩
            rw [← hv27]
            have b27x : zB v27 1 12 := by have q9 := b23x; constructor <;> omega
            refine z_goto (pc := 93) 46 C dX5_safeLands_93 (by decide) ?_
            exact ih1 a46_2 b46_2 a46_3 b46_3 0 (zB.wk (a' := 0) (b' := 1) (zB.of (x := 0) 0 (by decide)) (by decide) (by decide)) v27 (zB.wk (a' := 0) (b' := 12) b27x (by decide) (by decide)) g46_ hI46_ hF46_ (by intro n j hn; exact hR46_0 n j hn) (by have qc0 : (0 : Int32).toInt = 0 := (by decide); omega)
          · skip
            have b28x : zB a46_4 1 1 := by have q1 := b46_4; have q2 := (zB.of (x := 0) 0 (by decide)); simp only [z32lt, z32le, z32eq, Int32.reduceToInt, Int32.toInt_zero] at h60_24; constructor <;> omega
            refine z_aload_n (pc := 63) C dX5_safeLands_63 rfl ?_
            refine z_getR (pc := 64) C zf_X5_12 rfl rfl (by decide) dX5_safeLands_64 ?_
            refine z_aload_n (pc := 67) C dX5_safeLands_67 rfl ?_
            refine z_getR (pc := 68) C zf_X5_31 rfl rfl (by decide) dX5_safeLands_68 ?_
            refine z_getR (pc := 71) C zf_X5_68 rfl rfl (by decide) dX5_safeLands_71 ?_
            refine z_iload (pc := 74) C dX5_safeLands_74 rfl ?_
            refine z_aald (pc := 76) C rfl ⟨rfl, by decide⟩ (by decide) (zIx b23x (by decide) (by decide)) dX5_safeLands_76 ?_
            refine w_grx (by have hq := zN b23x (by decide); show 12 * 0 + a46_5.toNatClampNeg < 36; omega) (fun m29 q29r h29x => ?_)
            have q29r : m29 = 12 * 0 + a46_5.toNatClampNeg := q29r
            have k29r : a46_5.toNatClampNeg = a46_5.toInt.toNat := rfl
            refine z_callV (pc := 77) C zk_X5_79 (x_X3_goesBy _ _ 2 (by decide) m29 h29x hI46_) rfl rfl (by decide) rfl rfl (Nat.le_of_ble_eq_true rfl) dX5_safeLands_77 (fun r30 g30 q30 => ?_)
            obtain ⟨⟨v30, rfl, b30x⟩, hI30, hF30q, hp30_0⟩ := q30
            have hp30_0 := hp30_0 _ rfl
            obtain rfl := zFr_nil hF30q
            simp only [Option.toList, List.cons_append, List.nil_append]
            refine z_if_ne (pc := 80) 87 C dX5_safeLands_80 (by decide) (fun h80_30 => ?_) (fun h80_30 => ?_)
            · skip
              have b32x : zB v30 1 255 := by have q1 := b30x; have q2 := (zB.of (x := 0) 0 (by decide)); simp only [z32lt, z32le, z32eq, Int32.reduceToInt, Int32.toInt_zero] at h80_30; constructor <;> omega
              refine z_iconst (pc := 87) (v := 0) C dX5_safeLands_87 (by decide) ?_
              refine z_istore (pc := 88) C dX5_safeLands_88 (by rw [hn]; decide) rfl ?_
              refine z_iinc (pc := 90) (v := 1) C dX5_safeLands_90 rfl (by decide) (by rw [hn]; decide) rfl ?_
              obtain ⟨v33, hv33, e33⟩ : ∃ v : Int32, v = a46_5 + 1 ∧ v.toInt = a46_5.toInt + 1 := ⟨_, rfl, zadd_eb b23x (zB.of (x := 1) 1 (by decide)) (by decide) (by decide)⟩
              rw [← hv33]
              have b33x : zB v33 1 12 := by have q9 := b23x; constructor <;> omega
              refine z_goto (pc := 93) 46 C dX5_safeLands_93 (by decide) ?_
              exact ih1 a46_2 b46_2 a46_3 b46_3 0 (zB.wk (a' := 0) (b' := 1) (zB.of (x := 0) 0 (by decide)) (by decide) (by decide)) v33 (zB.wk (a' := 0) (b' := 12) b33x (by decide) (by decide)) g46_ hI46_ hF46_ (by intro n j hn; exact hR46_0 n j hn) (by have qc0 : (0 : Int32).toInt = 0 := (by decide); omega)
            · skip
              have b34x : zB v30 0 0 := by have q1 := b30x; have q2 := (zB.of (x := 0) 0 (by decide)); simp only [z32lt, z32le, z32eq, Int32.reduceToInt, Int32.toInt_zero] at h80_30; constructor <;> omega
              refine z_iconst (pc := 83) (v := 1) C dX5_safeLands_83 (by decide) ?_
              refine z_goto (pc := 84) 88 C dX5_safeLands_84 (by decide) ?_
              refine z_istore (pc := 88) C dX5_safeLands_88 (by rw [hn]; decide) rfl ?_
              refine z_iinc (pc := 90) (v := 1) C dX5_safeLands_90 rfl (by decide) (by rw [hn]; decide) rfl ?_
              obtain ⟨v35, hv35, e35⟩ : ∃ v : Int32, v = a46_5 + 1 ∧ v.toInt = a46_5.toInt + 1 := ⟨_, rfl, zadd_eb b23x (zB.of (x := 1) 1 (by decide)) (by decide) (by decide)⟩
              rw [← hv35]
              have b35x : zB v35 1 12 := by have q9 := b23x; constructor <;> omega
              refine z_goto (pc := 93) 46 C dX5_safeLands_93 (by decide) ?_
              exact ih1 a46_2 b46_2 a46_3 b46_3 1 (zB.wk (a' := 0) (b' := 1) (zB.of (x := 1) 1 (by decide)) (by decide) (by decide)) v35 (zB.wk (a' := 0) (b' := 12) b35x (by decide) (by decide)) g46_ hI46_ hF46_ (by intro n j hn; exact hR46_0 n j hn) (by have qc0 : (1 : Int32).toInt = 1 := (by decide); omega)
  obtain ⟨J0, J1⟩ := J 457
  show Z X 0 [some (zr 13 0), some (zi a1), none, none, none, none] [] f
  refine z_iconst (pc := 0) (v := 0) C dX5_safeLands_0 (by decide) ?_
  refine z_istore_n (pc := 1) C dX5_safeLands_1 (by rw [hn]; decide) rfl ?_
  refine z_iconst (pc := 2) (v := 0) C dX5_safeLands_2 (by decide) ?_
  refine z_istore_n (pc := 3) C dX5_safeLands_3 (by rw [hn]; decide) rfl ?_
  exact J0 0 (zB.wk (a' := 0) (b' := 63) (zB.of (x := 0) 0 (by decide)) (by decide) (by decide)) 0 (zB.wk (a' := 0) (b' := 6) (zB.of (x := 0) 0 (by decide)) (by decide) (by decide)) f hI hF (by intro n j hn; exact rfl) (by have qc0 : (0 : Int32).toInt = 0 := (by decide); omega)

set_option maxRecDepth 100000 in
set_option maxHeartbeats 4000000 in
theorem x_X5_fewestBars (d : Nat) (f : zM) (a1 : Int32) (b1 : zB a1 0 5) (a2 : Int32) (b2 : zB a2 0 7) (hI : zInv f) : ZM (d + 3) yX5_fewestBars cX5_fewestBars 6 (some .int) [zr 13 0, zi a1, zi a2] f (fun r g => (∃ v, r = some (zi v) ∧ zB v (-4) 999) ∧ zInv g ∧ zFr [(6, some 1), (6, some 4), (6, some 5), (6, some 6), (17, none)] f g ∧ (∀ v : Int32, r = some (zi v) → (∀ n j, n ≠ 2 → g 6 n j = f 6 n j))) := by
  refine ZM.intro (by decide +kernel) (Nat.le_of_ble_eq_true rfl) ?_
  intro X C hr hn
  have hF : zFr [(6, some 1), (6, some 4), (6, some 5), (6, some 6), (17, none)] f f := zFr.rf _ _
  have J : ∀ t : Nat, (∀ a67_3 : Int32, zB a67_3 0 1 → ∀ a67_4 : Int32, zB a67_4 0 12 → ∀ g : zM, zInv g → zFr [(6, some 1), (6, some 4), (6, some 5), (6, some 6), (17, none)] f g → ((∀ n j, n ≠ 2 → g 6 n j = f 6 n j)) → (977 + 980 * (12 - a67_4.toInt) : Int) < t → Z X 67 [some (zr 13 0), some (zi a1), some (zi a2), some (zi a67_3), some (zi a67_4), none] [] g) ∧ (∀ a88_3 : Int32, zB a88_3 0 1 → ∀ a88_4 : Int32, zB a88_4 0 11 → ∀ a88_5 : Int32, zB a88_5 0 12 → ∀ g : zM, zInv g → zFr [(6, some 1), (6, some 4), (6, some 5), (6, some 6), (17, none)] f g → ((∀ n j, n ≠ 2 → g 6 n j = f 6 n j)) → (66 + 70 * (12 - a88_5.toInt) + 980 * (12 - a88_4.toInt) : Int) < t → Z X 88 [some (zr 13 0), some (zi a1), some (zi a2), some (zi a88_3), some (zi a88_4), some (zi a88_5)] [] g) ∧ (∀ a178_3 : Int32, zB a178_3 0 1 → ∀ a178_4 : Int32, zB a178_4 0 1000 → ∀ a178_5 : Int32, zB a178_5 0 12 → ∀ g : zM, zInv g → zFr [(6, some 1), (6, some 4), (6, some 5), (6, some 6), (17, none)] f g → ((∀ n j, n ≠ 2 → g 6 n j = f 6 n j)) → (0 + 5 * (12 - a178_5.toInt) : Int) < t → Z X 178 [some (zr 13 0), some (zi a1), some (zi a2), some (zi a178_3), some (zi a178_4), some (zi a178_5)] [] g) := by
    intro t
    induction t with
    | zero =>
      refine ⟨?_, ?_, ?_⟩ <;> (intros; exfalso; omega)
    | succ t ih =>
      obtain ⟨ih0, ih1, ih2⟩ := ih
      refine ⟨?_, ?_, ?_⟩
      · skip
        intro a67_3 b67_3 a67_4 b67_4 g67_ hI67_ hF67_ hR67_0 hM67_
        refine z_iload_n (pc := 67) C dX5_fewestBars_67 rfl ?_
        refine z_if_eq (pc := 68) 170 C dX5_fewestBars_68 (by decide) (fun h68_0 => ?_) (fun h68_0 => ?_)
        · skip
          have b2x : zB a67_3 0 0 := by have q1 := b67_3; have q2 := (zB.of (x := 0) 0 (by decide)); simp only [z32lt, z32le, z32eq, Int32.reduceToInt, Int32.toInt_zero] at h68_0; constructor <;> omega
          refine z_sipush (pc := 170) (v := 1000) C dX5_fewestBars_170 (by decide) ?_
          refine z_istore (pc := 173) C dX5_fewestBars_173 (by rw [hn]; decide) rfl ?_
          refine z_iconst (pc := 175) (v := 0) C dX5_fewestBars_175 (by decide) ?_
          refine z_istore (pc := 176) C dX5_fewestBars_176 (by rw [hn]; decide) rfl ?_
          exact ih2 a67_3 (zB.wk (a' := 0) (b' := 1) b2x (by decide) (by decide)) 1000 (zB.wk (a' := 0) (b' := 1000) (zB.of (x := 1000) 1000 (by decide)) (by decide) (by decide)) 0 (zB.wk (a' := 0) (b' := 12) (zB.of (x := 0) 0 (by decide)) (by decide) (by decide)) g67_ hI67_ hF67_ (by intro n j hn; exact hR67_0 n j hn) (by have qc0 : (0 : Int32).toInt = 0 := (by decide); have qc1 : (1000 : Int32).toInt = 1000 := (by decide); omega)
        · skip
          have b3x : zB a67_3 1 1 := by have q1 := b67_3; have q2 := (zB.of (x := 0) 0 (by decide)); simp only [z32lt, z32le, z32eq, Int32.reduceToInt, Int32.toInt_zero] at h68_0; constructor <;> omega
          refine z_iload (pc := 71) C dX5_fewestBars_71 rfl ?_
          refine z_aload_n (pc := 73) C dX5_fewestBars_73 rfl ?_
          refine z_getR (pc := 74) C zf_X5_31 rfl rfl (by decide) dX5_fewestBars_74 ?_
          refine z_getI (pc := 77) C zf_X5_76 rfl rfl (by decide) dX5_fewestBars_77 ?_
          refine w_gp (fun v => v = g67_ 1 0 7) rfl (fun v5 q5 => ?_)
          have b5x : zB v5 0 12 := by rw [q5]; exact (hI67_ 1 0 7)
          refine z_icmp_ge (pc := 80) 170 C dX5_fewestBars_80 (by decide) (fun h80_5 => ?_) (fun h80_5 => ?_)
          · skip
            refine z_sipush (pc := 170) (v := 1000) C dX5_fewestBars_170 (by decide) ?_
            refine z_istore (pc := 173) C dX5_fewestBars_173 (by rw [hn]; decide) rfl ?_
            refine z_iconst (pc := 175) (v := 0) C dX5_fewestBars_175 (by decide) ?_
            refine z_istore (pc := 176) C dX5_fewestBars_176 (by rw [hn]; decide) rfl ?_
            exact ih2 a67_3 (zB.wk (a' := 0) (b' := 1) b3x (by decide) (by decide)) 1000 (zB.wk (a' := 0) (b' := 1000) (zB.of (x := 1000) 1000 (by decide)) (by decide) (by decide)) 0 (zB.wk (a' := 0) (b' := 12) (zB.of (x := 0) 0 (by decide)) (by decide) (by decide)) g67_ hI67_ hF67_ (by intro n j hn; exact hR67_0 n j hn) (by have qc0 : (0 : Int32).toInt = 0 := (by decide); have qc1 : (1000 : Int32).toInt = 1000 := (by decide); omega)
          · skip
            have b7x : zB a67_4 0 11 := by have q1 := b67_4; have q2 := b5x; simp only [z32lt, z32le, z32eq, Int32.reduceToInt, Int32.toInt_zero] at h80_5; constructor <;> omega
            have b8x : zB v5 1 12 := by have q1 := b67_4; have q2 := b5x; simp only [z32lt, z32le, z32eq, Int32.reduceToInt, Int32.toInt_zero] at h80_5; constructor <;> omega
            refine z_iconst (pc := 83) (v := 0) C dX5_fewestBars_83 (by decide) ?_
            refine z_istore_n (pc := 84) C dX5_fewestBars_84 (by rw [hn]; decide) rfl ?_
            refine z_iconst (pc := 85) (v := 0) C dX5_fewestBars_85 (by decide) ?_
            refine z_istore (pc := 86) C dX5_fewestBars_86 (by rw [hn]; decide) rfl ?_
            exact ih1 0 (zB.wk (a' := 0) (b' := 1) (zB.of (x := 0) 0 (by decide)) (by decide) (by decide)) a67_4 b7x 0 (zB.wk (a' := 0) (b' := 12) (zB.of (x := 0) 0 (by decide)) (by decide) (by decide)) g67_ hI67_ hF67_ (by intro n j hn; exact hR67_0 n j hn) (by have qc0 : (0 : Int32).toInt = 0 := (by decide); omega)
      · skip
        intro a88_3 b88_3 a88_4 b88_4 a88_5 b88_5 g88_ hI88_ hF88_ hR88_0 hM88_
        refine z_iload (pc := 88) C dX5_fewestBars_88 rfl ?_
        refine z_aload_n (pc := 90) C dX5_fewestBars_90 rfl ?_
        refine z_getR (pc := 91) C zf_X5_31 rfl rfl (by decide) dX5_fewestBars_91 ?_
        refine z_getI (pc := 94) C zf_X5_76 rfl rfl (by decide) dX5_fewestBars_94 ?_
        refine w_gp (fun v => v = g88_ 1 0 7) rfl (fun v10 q10 => ?_)
        have b10x : zB v10 0 12 := by rw [q10]; exact (hI88_ 1 0 7)
        refine z_icmp_ge (pc := 97) 164 C dX5_fewestBars_97 (by decide) (fun h97_10 => ?_) (fun h97_10 => ?_)
        · skip
          refine z_iinc (pc := 164) (v := 1) C dX5_fewestBars_164 rfl (by decide) (by rw [hn]; decide) rfl ?_
          obtain ⟨v12, hv12, e12⟩ : ∃ v : Int32, v = a88_4 + 1 ∧ v.toInt = a88_4.toInt + 1 := ⟨_, rfl, zadd_eb b88_4 (zB.of (x := 1) 1 (by decide)) (by decide) (by decide)⟩
          rw [← hv12]
          have b12x : zB v12 1 12 := by have q9 := b88_4; constructor <;> omega
          refine z_goto (pc := 167) 67 C dX5_fewestBars_167 (by decide) ?_
          refine w_mask [5] ?_
          exact ih0 a88_3 b88_3 v12 (zB.wk (a' := 0) (b' := 12) b12x (by decide) (by decide)) g88_ hI88_ hF88_ (by intro n j hn; exact hR88_0 n j hn) (by omega)
        · skip
          have b13x : zB a88_5 0 11 := by have q1 := b88_5; have q2 := b10x; simp only [z32lt, z32le, z32eq, Int32.reduceToInt, Int32.toInt_zero] at h97_10; constructor <;> omega
          have b14x : zB v10 1 12 := by have q1 := b88_5; have q2 := b10x; simp only [z32lt, z32le, z32eq, Int32.reduceToInt, Int32.toInt_zero] at h97_10; constructor <;> omega
          refine z_aload_n (pc := 100) C dX5_fewestBars_100 rfl ?_
          refine z_getR (pc := 101) C zf_X5_28 rfl rfl (by decide) dX5_fewestBars_101 ?_
          refine z_iload (pc := 104) C dX5_fewestBars_104 rfl ?_
          refine z_iald (pc := 106) C rfl (by decide) (zIx b13x (by decide) (by decide)) dX5_fewestBars_106 ?_
          have kq106_14 : a88_5.toNatClampNeg = a88_5.toInt.toNat := rfl
          refine w_gp (fun v => v = g88_ 17 0 a88_5.toNatClampNeg) rfl (fun v15 q15 => ?_)
          have b15x : zB v15 0 2000 := by rw [q15]; exact (hI88_ 17 0 a88_5.toNatClampNeg)
          refine z_sipush (pc := 107) (v := 1000) C dX5_fewestBars_107 (by decide) ?_
          refine z_icmp_ge (pc := 110) 158 C dX5_fewestBars_110 (by decide) (fun h110_15 => ?_) (fun h110_15 => ?_)
          · skip
            have b17x : zB v15 1000 2000 := by have q1 := b15x; have q2 := (zB.of (x := 1000) 1000 (by decide)); simp only [z32lt, z32le, z32eq, Int32.reduceToInt, Int32.toInt_zero] at h110_15; constructor <;> omega
            refine z_iinc (pc := 158) (v := 1) C dX5_fewestBars_158 rfl (by decide) (by rw [hn]; decide) rfl ?_
            obtain ⟨v18, hv18, e18⟩ : ∃ v : Int32, v = a88_5 + 1 ∧ v.toInt = a88_5.toInt + 1 := ⟨_, rfl, zadd_eb b13x (zB.of (x := 1) 1 (by decide)) (by decide) (by decide)⟩
            rw [← hv18]
            have b18x : zB v18 1 12 := by have q9 := b13x; constructor <;> omega
            refine z_goto (pc := 161) 88 C dX5_fewestBars_161 (by decide) ?_
            exact ih1 a88_3 b88_3 a88_4 b88_4 v18 (zB.wk (a' := 0) (b' := 12) b18x (by decide) (by decide)) g88_ hI88_ hF88_ (by intro n j hn; exact hR88_0 n j hn) (by omega)
          · skip
            have b19x : zB v15 0 999 := by have q1 := b15x; have q2 := (zB.of (x := 1000) 1000 (by decide)); simp only [z32lt, z32le, z32eq, Int32.reduceToInt, Int32.toInt_zero] at h110_15; constructor <;> omega
            refine z_aload_n (pc := 113) C dX5_fewestBars_113 rfl ?_
            refine z_getR (pc := 114) C zf_X5_12 rfl rfl (by decide) dX5_fewestBars_114 ?_
            refine z_aload_n (pc := 117) C dX5_fewestBars_117 rfl ?_
            refine z_getR (pc := 118) C zf_X5_31 rfl rfl (by decide) dX5_fewestBars_118 ?_
            refine z_getR (pc := 121) C zf_X5_68 rfl rfl (by decide) dX5_fewestBars_121 ?_
            refine z_iload (pc := 124) C dX5_fewestBars_124 rfl ?_
            refine z_aald (pc := 126) C rfl ⟨rfl, by decide⟩ (by decide) (zIx b13x (by decide) (by decide)) dX5_fewestBars_126 ?_
            refine w_grx (by have hq := zN b13x (by decide); show 12 * 0 + a88_5.toNatClampNeg < 36; omega) (fun m20 q20r h20x => ?_)
            have q20r : m20 = 12 * 0 + a88_5.toNatClampNeg := q20r
            have k20r : a88_5.toNatClampNeg = a88_5.toInt.toNat := rfl
            refine z_iconst (pc := 127) (v := 1) C dX5_fewestBars_127 (by decide) ?_
            refine z_iload_n (pc := 128) C dX5_fewestBars_128 rfl ?_
            refine z_ishl (pc := 129) C dX5_fewestBars_129 ?_
            refine w_gp (fun v => v = (1 : Int32) <<< (a2 &&& 31)) rfl (fun v21 q21 => ?_)
            have b21x : zB v21 0 128 := by rw [q21]; exact (zshl_b b2 7 (by decide) (by decide))
            refine z_callV (pc := 130) C zk_X5_72 (x_X3_go _ _ 2 (by decide) m20 h20x v21 (zB.wk (a' := 0) (b' := 255) b21x (by decide) (by decide)) hI88_) rfl rfl (by decide) rfl rfl (Nat.le_of_ble_eq_true rfl) dX5_fewestBars_130 (fun r22 g22 q22 => ?_)
            obtain ⟨rfl, hI22, hF22q, hp22_0, hp22_1, hp22_2, hp22_3, hp22_4⟩ := q22
            have hF22 := zFr.tr hF88_ hF22q (by decide)
            simp only [Option.toList, List.cons_append, List.nil_append]
            refine z_aload_n (pc := 133) C dX5_fewestBars_133 rfl ?_
            refine z_aload_n (pc := 134) C dX5_fewestBars_134 rfl ?_
            refine z_getR (pc := 135) C zf_X5_28 rfl rfl (by decide) dX5_fewestBars_135 ?_
            refine z_iload (pc := 138) C dX5_fewestBars_138 rfl ?_
            refine z_iald (pc := 140) C rfl (by decide) (zIx b13x (by decide) (by decide)) dX5_fewestBars_140 ?_
            have kq140_22 : a88_5.toNatClampNeg = a88_5.toInt.toNat := rfl
            refine w_gp (fun v => v = g22 17 0 a88_5.toNatClampNeg) rfl (fun v23 q23 => ?_)
            have b23x : zB v23 0 2000 := by rw [q23]; exact (hI22 17 0 a88_5.toNatClampNeg)
            refine z_iload_n (pc := 141) C dX5_fewestBars_141 rfl ?_
            refine z_callV (pc := 142) C zk_X5_98 (w_X5_relax _ _ v23 b23x a2 b2 hI22) rfl rfl (by decide) rfl rfl (Nat.le_of_ble_eq_true rfl) dX5_fewestBars_142 (fun r24 g24 q24 => ?_)
            obtain ⟨⟨v24, rfl, b24x⟩, hI24, hF24q⟩ := q24
            have hF24 := zFr.tr hF22 hF24q (by decide)
            simp only [Option.toList, List.cons_append, List.nil_append]
            refine z_if_ne (pc := 145) 152 C dX5_fewestBars_145 (by decide) (fun h145_24 => ?_) (fun h145_24 => ?_)
            · skip
              have b26x : zB v24 1 1 := by have q1 := b24x; have q2 := (zB.of (x := 0) 0 (by decide)); simp only [z32lt, z32le, z32eq, Int32.reduceToInt, Int32.toInt_zero] at h145_24; constructor <;> omega
              refine z_iconst (pc := 152) (v := 1) C dX5_fewestBars_152 (by decide) ?_
              refine z_goto (pc := 153) 157 C dX5_fewestBars_153 (by decide) ?_
              refine z_istore_n (pc := 157) C dX5_fewestBars_157 (by rw [hn]; decide) rfl ?_
              refine z_iinc (pc := 158) (v := 1) C dX5_fewestBars_158 rfl (by decide) (by rw [hn]; decide) rfl ?_
              obtain ⟨v27, hv27, e27⟩ : ∃ v : Int32, v = a88_5 + 1 ∧ v.toInt = a88_5.toInt + 1 := ⟨_, rfl, zadd_eb b13x (zB.of (x := 1) 1 (by decide)) (by decide) (by decide)⟩
              rw [← hv27]
              have b27x : zB v27 1 12 := by have q9 := b13x; constructor <;> omega
              refine z_goto (pc := 161) 88 C dX5_fewestBars_161 (by decide) ?_
              exact ih1 1 (zB.wk (a' := 0) (b' := 1) (zB.of (x := 1) 1 (by decide)) (by decide) (by decide)) a88_4 b88_4 v27 (zB.wk (a' := 0) (b' := 12) b27x (by decide) (by decide)) g24 hI24 hF24 (by intro n j hn; exact ((hF24q 6 n j rfl)).trans (((hp22_0 6 n j (by omega))).trans (hR88_0 n j hn))) (by have qc0 : (1 : Int32).toInt = 1 := (by decide); omega)
            · skip
              have b28x : zB v24 0 0 := by have q1 := b24x; have q2 := (zB.of (x := 0) 0 (by decide)); simp only [z32lt, z32le, z32eq, Int32.reduceToInt, Int32.toInt_zero] at h145_24; constructor <;> omega
              refine z_iload_n (pc := 148) C dX5_fewestBars_148 rfl ?_
              refine z_if_eq (pc := 149) 156 C dX5_fewestBars_149 (by decide) (fun h149_28 => ?_) (fun h149_28 => ?_)
              · skip
                have b30x : zB a88_3 0 0 := by have q1 := b88_3; have q2 := (zB.of (x := 0) 0 (by decide)); simp only [z32lt, z32le, z32eq, Int32.reduceToInt, Int32.toInt_zero] at h149_28; constructor <;> omega
                refine z_iconst (pc := 156) (v := 0) C dX5_fewestBars_156 (by decide) ?_
                refine z_istore_n (pc := 157) C dX5_fewestBars_157 (by rw [hn]; decide) rfl ?_
                refine z_iinc (pc := 158) (v := 1) C dX5_fewestBars_158 rfl (by decide) (by rw [hn]; decide) rfl ?_
                obtain ⟨v31, hv31, e31⟩ : ∃ v : Int32, v = a88_5 + 1 ∧ v.toInt = a88_5.toInt + 1 := ⟨_, rfl, zadd_eb b13x (zB.of (x := 1) 1 (by decide)) (by decide) (by decide)⟩
                rw [← hv31]
                have b31x : zB v31 1 12 := by have q9 := b13x; constructor <;> omega
                refine z_goto (pc := 161) 88 C dX5_fewestBars_161 (by decide) ?_
                exact ih1 0 (zB.wk (a' := 0) (b' := 1) (zB.of (x := 0) 0 (by decide)) (by decide) (by decide)) a88_4 b88_4 v31 (zB.wk (a' := 0) (b' := 12) b31x (by decide) (by decide)) g24 hI24 hF24 (by intro n j hn; exact ((hF24q 6 n j rfl)).trans (((hp22_0 6 n j (by omega))).trans (hR88_0 n j hn))) (by have qc0 : (0 : Int32).toInt = 0 := (by decide); omega)
              · skip
                have b32x : zB a88_3 1 1 := by have q1 := b88_3; have q2 := (zB.of (x := 0) 0 (by decide)); simp only [z32lt, z32le, z32eq, Int32.reduceToInt, Int32.toInt_zero] at h149_28; constructor <;> omega
                refine z_iconst (pc := 152) (v := 1) C dX5_fewestBars_152 (by decide) ?_
                refine z_goto (pc := 153) 157 C dX5_fewestBars_153 (by decide) ?_
                refine z_istore_n (pc := 157) C dX5_fewestBars_157 (by rw [hn]; decide) rfl ?_
                refine z_iinc (pc := 158) (v := 1) C dX5_fewestBars_158 rfl (by decide) (by rw [hn]; decide) rfl ?_
                obtain ⟨v33, hv33, e33⟩ : ∃ v : Int32, v = a88_5 + 1 ∧ v.toInt = a88_5.toInt + 1 := ⟨_, rfl, zadd_eb b13x (zB.of (x := 1) 1 (by decide)) (by decide) (by decide)⟩
                rw [← hv33]
                have b33x : zB v33 1 12 := by have q9 := b13x; constructor <;> omega
                refine z_goto (pc := 161) 88 C dX5_fewestBars_161 (by decide) ?_
                exact ih1 1 (zB.wk (a' := 0) (b' := 1) (zB.of (x := 1) 1 (by decide)) (by decide) (by decide)) a88_4 b88_4 v33 (zB.wk (a' := 0) (b' := 12) b33x (by decide) (by decide)) g24 hI24 hF24 (by intro n j hn; exact ((hF24q 6 n j rfl)).trans (((hp22_0 6 n j (by omega))).trans (hR88_0 n j hn))) (by have qc0 : (1 : Int32).toInt = 1 := (by decide); omega)
      · skip
        intro a178_3 b178_3 a178_4 b178_4 a178_5 b178_5 g178_ hI178_ hF178_ hR178_0 hM178_
        refine z_iload (pc := 178) C dX5_fewestBars_178 rfl ?_
        refine z_aload_n (pc := 180) C dX5_fewestBars_180 rfl ?_
        refine z_getR (pc := 181) C zf_X5_31 rfl rfl (by decide) dX5_fewestBars_181 ?_
        refine z_getI (pc := 184) C zf_X5_76 rfl rfl (by decide) dX5_fewestBars_184 ?_
        refine w_gp (fun v => v = g178_ 1 0 7) rfl (fun v35 q35 => ?_)
        have b35x : zB v35 0 12 := by rw [q35]; exact (hI178_ 1 0 7)
        refine z_icmp_ge (pc := 187) 232 C dX5_fewestBars_187 (by decide) (fun h187_35 => ?_) (fun h187_35 => ?_)
        · skip
          refine z_aload_n (pc := 232) C dX5_fewestBars_232 rfl ?_
          refine z_getR (pc := 233) C zf_X5_31 rfl rfl (by decide) dX5_fewestBars_233 ?_
          refine z_getR (pc := 236) C zf_X5_111 rfl rfl (by decide) dX5_fewestBars_236 ?_
          refine z_iload_n (pc := 239) C dX5_fewestBars_239 rfl ?_
          refine z_aald (pc := 240) C rfl ⟨rfl, by decide⟩ (by decide) (zIx b2 (by decide) (by decide)) dX5_fewestBars_240 ?_
          refine w_grx (by have hq := zN b2 (by decide); show 8 * 0 + a2.toNatClampNeg < 16; omega) (fun m37 q37r h37x => ?_)
          have q37r : m37 = 8 * 0 + a2.toNatClampNeg := q37r
          have k37r : a2.toNatClampNeg = a2.toInt.toNat := rfl
          refine z_iload_n (pc := 241) C dX5_fewestBars_241 rfl ?_
          refine z_callV (pc := 242) C zk_X5_115 (x_X1_isCrime _ _ m37 h37x a1 b1 hI178_) rfl rfl h37x rfl rfl (Nat.le_of_ble_eq_true rfl) dX5_fewestBars_242 (fun r38 g38 q38 => ?_)
          obtain ⟨⟨v38, rfl, b38x⟩, hI38, hF38q, hp38_0⟩ := q38
          have hp38_0 := hp38_0 _ rfl
          obtain rfl := zFr_nil hF38q
          simp only [Option.toList, List.cons_append, List.nil_append]
          refine z_if_eq (pc := 245) 267 C dX5_fewestBars_245 (by decide) (fun h245_38 => ?_) (fun h245_38 => ?_)
          · skip
            have b40x : zB v38 0 0 := by have q1 := b38x; have q2 := (zB.of (x := 0) 0 (by decide)); simp only [z32lt, z32le, z32eq, Int32.reduceToInt, Int32.toInt_zero] at h245_38; constructor <;> omega
            refine z_iconst (pc := 267) (v := 0) C dX5_fewestBars_267 (by decide) ?_
            refine z_istore (pc := 268) C dX5_fewestBars_268 (by rw [hn]; decide) rfl ?_
            refine z_iload (pc := 270) C dX5_fewestBars_270 rfl ?_
            refine z_if_eq (pc := 272) 288 C dX5_fewestBars_272 (by decide) (fun h272_40 => ?_) (fun h272_40 => absurd h272_40 (by decide))
            refine z_bipush (pc := 288) (v := -4) C dX5_fewestBars_288 (by decide) ?_
            exact z_iret (pc := 290) C hr dX5_fewestBars_290 ⟨⟨_, rfl, (zB.wk (a' := (-4)) (b' := 999) (zB.of (x := (-4)) (-4) (by decide)) (by decide) (by decide))⟩, hI178_, hF178_, (by intro v hv; cases hv; intro n j hn; exact hR178_0 n j hn)⟩
          · skip
            have b42x : zB v38 1 1 := by have q1 := b38x; have q2 := (zB.of (x := 0) 0 (by decide)); simp only [z32lt, z32le, z32eq, Int32.reduceToInt, Int32.toInt_zero] at h245_38; constructor <;> omega
            refine z_aload_n (pc := 248) C dX5_fewestBars_248 rfl ?_
            refine z_getR (pc := 249) C zf_X5_31 rfl rfl (by decide) dX5_fewestBars_249 ?_
            refine z_getR (pc := 252) C zf_X5_111 rfl rfl (by decide) dX5_fewestBars_252 ?_
            refine z_iload_n (pc := 255) C dX5_fewestBars_255 rfl ?_
            refine z_aald (pc := 256) C rfl ⟨rfl, by decide⟩ (by decide) (zIx b2 (by decide) (by decide)) dX5_fewestBars_256 ?_
            refine w_grx (by have hq := zN b2 (by decide); show 8 * 0 + a2.toNatClampNeg < 16; omega) (fun m43 q43r h43x => ?_)
            have q43r : m43 = 8 * 0 + a2.toNatClampNeg := q43r
            have k43r : a2.toNatClampNeg = a2.toInt.toNat := rfl
            refine z_getI (pc := 257) C zf_X5_120 rfl rfl h43x dX5_fewestBars_257 ?_
            refine w_gp (fun v => v = g178_ 8 m43 4) rfl (fun v45 q45 => ?_)
            have b45x : zB v45 0 1 := by rw [q45]; exact (hI178_ 8 m43 4)
            refine z_if_ne (pc := 260) 267 C dX5_fewestBars_260 (by decide) (fun h260_45 => ?_) (fun h260_45 => ?_)
            · skip
              have b47x : zB v45 1 1 := by have q1 := b45x; have q2 := (zB.of (x := 0) 0 (by decide)); simp only [z32lt, z32le, z32eq, Int32.reduceToInt, Int32.toInt_zero] at h260_45; constructor <;> omega
              refine z_iconst (pc := 267) (v := 0) C dX5_fewestBars_267 (by decide) ?_
              refine z_istore (pc := 268) C dX5_fewestBars_268 (by rw [hn]; decide) rfl ?_
              refine z_iload (pc := 270) C dX5_fewestBars_270 rfl ?_
              refine z_if_eq (pc := 272) 288 C dX5_fewestBars_272 (by decide) (fun h272_47 => ?_) (fun h272_47 => absurd h272_47 (by decide))
              refine z_bipush (pc := 288) (v := -4) C dX5_fewestBars_288 (by decide) ?_
              exact z_iret (pc := 290) C hr dX5_fewestBars_290 ⟨⟨_, rfl, (zB.wk (a' := (-4)) (b' := 999) (zB.of (x := (-4)) (-4) (by decide)) (by decide) (by decide))⟩, hI178_, hF178_, (by intro v hv; cases hv; intro n j hn; exact hR178_0 n j hn)⟩
            · skip
              have b49x : zB v45 0 0 := by have q1 := b45x; have q2 := (zB.of (x := 0) 0 (by decide)); simp only [z32lt, z32le, z32eq, Int32.reduceToInt, Int32.toInt_zero] at h260_45; constructor <;> omega
              refine z_iconst (pc := 263) (v := 1) C dX5_fewestBars_263 (by decide) ?_
              refine z_goto (pc := 264) 268 C dX5_fewestBars_264 (by decide) ?_
              refine z_istore (pc := 268) C dX5_fewestBars_268 (by rw [hn]; decide) rfl ?_
              refine z_iload (pc := 270) C dX5_fewestBars_270 rfl ?_
              refine z_if_eq (pc := 272) 288 C dX5_fewestBars_272 (by decide) (fun h272_49 => absurd h272_49 (by decide)) (fun h272_49 => ?_)
              refine z_iload (pc := 275) C dX5_fewestBars_275 rfl ?_
              refine z_sipush (pc := 277) (v := 1000) C dX5_fewestBars_277 (by decide) ?_
              refine z_icmp_ge (pc := 280) 288 C dX5_fewestBars_280 (by decide) (fun h280_50 => ?_) (fun h280_50 => ?_)
              · skip
                have b52x : zB a178_4 1000 1000 := by have q1 := b178_4; have q2 := (zB.of (x := 1000) 1000 (by decide)); simp only [z32lt, z32le, z32eq, Int32.reduceToInt, Int32.toInt_zero] at h280_50; constructor <;> omega
                refine z_bipush (pc := 288) (v := -4) C dX5_fewestBars_288 (by decide) ?_
                exact z_iret (pc := 290) C hr dX5_fewestBars_290 ⟨⟨_, rfl, (zB.wk (a' := (-4)) (b' := 999) (zB.of (x := (-4)) (-4) (by decide)) (by decide) (by decide))⟩, hI178_, hF178_, (by intro v hv; cases hv; intro n j hn; exact hR178_0 n j hn)⟩
              · skip
                have b53x : zB a178_4 0 999 := by have q1 := b178_4; have q2 := (zB.of (x := 1000) 1000 (by decide)); simp only [z32lt, z32le, z32eq, Int32.reduceToInt, Int32.toInt_zero] at h280_50; constructor <;> omega
                refine z_iload (pc := 283) C dX5_fewestBars_283 rfl ?_
                refine z_goto (pc := 285) 290 C dX5_fewestBars_285 (by decide) ?_
                exact z_iret (pc := 290) C hr dX5_fewestBars_290 ⟨⟨_, rfl, (zB.wk (a' := (-4)) (b' := 999) b53x (by decide) (by decide))⟩, hI178_, hF178_, (by intro v hv; cases hv; intro n j hn; exact hR178_0 n j hn)⟩
        · skip
          have b54x : zB a178_5 0 11 := by have q1 := b178_5; have q2 := b35x; simp only [z32lt, z32le, z32eq, Int32.reduceToInt, Int32.toInt_zero] at h187_35; constructor <;> omega
          have b55x : zB v35 1 12 := by have q1 := b178_5; have q2 := b35x; simp only [z32lt, z32le, z32eq, Int32.reduceToInt, Int32.toInt_zero] at h187_35; constructor <;> omega
          refine z_aload_n (pc := 190) C dX5_fewestBars_190 rfl ?_
          refine z_getR (pc := 191) C zf_X5_31 rfl rfl (by decide) dX5_fewestBars_191 ?_
          refine z_getR (pc := 194) C zf_X5_68 rfl rfl (by decide) dX5_fewestBars_194 ?_
          refine z_iload (pc := 197) C dX5_fewestBars_197 rfl ?_
          refine z_aald (pc := 199) C rfl ⟨rfl, by decide⟩ (by decide) (zIx b54x (by decide) (by decide)) dX5_fewestBars_199 ?_
          refine w_grx (by have hq := zN b54x (by decide); show 12 * 0 + a178_5.toNatClampNeg < 36; omega) (fun m56 q56r h56x => ?_)
          have q56r : m56 = 12 * 0 + a178_5.toNatClampNeg := q56r
          have k56r : a178_5.toNatClampNeg = a178_5.toInt.toNat := rfl
          refine z_getI (pc := 200) C zf_X5_102 rfl rfl h56x dX5_fewestBars_200 ?_
          refine w_gp (fun v => v = g178_ 11 m56 2) rfl (fun v58 q58 => ?_)
          have b58x : zB v58 0 5 := by rw [q58]; exact (hI178_ 11 m56 2)
          refine z_iload_n (pc := 203) C dX5_fewestBars_203 rfl ?_
          refine z_icmp_ne (pc := 204) 222 C dX5_fewestBars_204 (by decide) (fun h204_58 => ?_) (fun h204_58 => ?_)
          · skip
            refine z_iload (pc := 222) C dX5_fewestBars_222 rfl ?_
            refine z_istore (pc := 224) C dX5_fewestBars_224 (by rw [hn]; decide) rfl ?_
            refine z_iinc (pc := 226) (v := 1) C dX5_fewestBars_226 rfl (by decide) (by rw [hn]; decide) rfl ?_
            obtain ⟨v60, hv60, e60⟩ : ∃ v : Int32, v = a178_5 + 1 ∧ v.toInt = a178_5.toInt + 1 := ⟨_, rfl, zadd_eb b54x (zB.of (x := 1) 1 (by decide)) (by decide) (by decide)⟩
            rw [← hv60]
            have b60x : zB v60 1 12 := by have q9 := b54x; constructor <;> omega
            refine z_goto (pc := 229) 178 C dX5_fewestBars_229 (by decide) ?_
            exact ih2 a178_3 b178_3 a178_4 b178_4 v60 (zB.wk (a' := 0) (b' := 12) b60x (by decide) (by decide)) g178_ hI178_ hF178_ (by intro n j hn; exact hR178_0 n j hn) (by omega)
          · skip
            refine z_iload (pc := 207) C dX5_fewestBars_207 rfl ?_
            refine z_aload_n (pc := 209) C dX5_fewestBars_209 rfl ?_
            refine z_getR (pc := 210) C zf_X5_28 rfl rfl (by decide) dX5_fewestBars_210 ?_
            refine z_iload (pc := 213) C dX5_fewestBars_213 rfl ?_
            refine z_iald (pc := 215) C rfl (by decide) (zIx b54x (by decide) (by decide)) dX5_fewestBars_215 ?_
            have kq215_60 : a178_5.toNatClampNeg = a178_5.toInt.toNat := rfl
            refine w_gp (fun v => v = g178_ 17 0 a178_5.toNatClampNeg) rfl (fun v61 q61 => ?_)
            have b61x : zB v61 0 2000 := by rw [q61]; exact (hI178_ 17 0 a178_5.toNatClampNeg)
            refine z_mmin (pc := 216) C zk_X5_105 (Nat.le_of_ble_eq_true rfl) dX5_fewestBars_216 ?_
            refine w_gp (fun v => v = imin a178_4 v61) rfl (fun v62 q62 => ?_)
            have b62x : zB v62 0 1000 := by rw [q62]; exact (by have q9 := zmin_b b178_4 b61x; constructor <;> omega)
            refine z_goto (pc := 219) 224 C dX5_fewestBars_219 (by decide) ?_
            refine z_istore (pc := 224) C dX5_fewestBars_224 (by rw [hn]; decide) rfl ?_
            refine z_iinc (pc := 226) (v := 1) C dX5_fewestBars_226 rfl (by decide) (by rw [hn]; decide) rfl ?_
            obtain ⟨v63, hv63, e63⟩ : ∃ v : Int32, v = a178_5 + 1 ∧ v.toInt = a178_5.toInt + 1 := ⟨_, rfl, zadd_eb b54x (zB.of (x := 1) 1 (by decide)) (by decide) (by decide)⟩
            rw [← hv63]
            have b63x : zB v63 1 12 := by have q9 := b54x; constructor <;> omega
            refine z_goto (pc := 229) 178 C dX5_fewestBars_229 (by decide) ?_
            exact ih2 a178_3 b178_3 v62 b62x v63 (zB.wk (a' := 0) (b' := 12) b63x (by decide) (by decide)) g178_ hI178_ hF178_ (by intro n j hn; exact hR178_0 n j hn) (by omega)
  obtain ⟨J0, J1, J2⟩ := J 13729
  show Z X 0 [some (zr 13 0), some (zi a1), some (zi a2), none, none, none] [] f
  refine z_aload_n (pc := 0) C dX5_fewestBars_0 rfl ?_
  refine z_getR (pc := 1) C zf_X5_12 rfl rfl (by decide) dX5_fewestBars_1 ?_
  refine z_aload_n (pc := 4) C dX5_fewestBars_4 rfl ?_
  refine z_getR (pc := 5) C zf_X5_31 rfl rfl (by decide) dX5_fewestBars_5 ?_
  refine z_getR (pc := 8) C zf_X5_61 rfl rfl (by decide) dX5_fewestBars_8 ?_
  refine z_callV (pc := 11) C zk_X5_64 (x_X3_stand _ _ 2 (by decide) 0 (by decide) (by omega) hI) rfl rfl (by decide) rfl rfl (Nat.le_of_ble_eq_true rfl) dX5_fewestBars_11 (fun r64 g64 q64 => ?_)
  obtain ⟨rfl, hI64, hF64q, hp64_0, hp64_1⟩ := q64
  have hF64 := zFr.tr hF hF64q (by decide)
  simp only [Option.toList, List.cons_append, List.nil_append]
  refine z_aload_n (pc := 14) C dX5_fewestBars_14 rfl ?_
  refine z_getR (pc := 15) C zf_X5_12 rfl rfl (by decide) dX5_fewestBars_15 ?_
  refine z_getI (pc := 18) C zf_X5_46 rfl rfl (by decide) dX5_fewestBars_18 ?_
  refine w_gp (fun v => v = g64 6 2 1) rfl (fun v66 q66 => ?_)
  have b66x : zB v66 0 5 := by rw [q66]; exact (hI64 6 2 1)
  refine z_iload_n (pc := 21) C dX5_fewestBars_21 rfl ?_
  refine z_icmp_ne (pc := 22) 45 C dX5_fewestBars_22 (by decide) (fun h22_66 => ?_) (fun h22_66 => ?_)
  · skip
    refine z_aload_n (pc := 45) C dX5_fewestBars_45 rfl ?_
    refine z_getR (pc := 46) C zf_X5_28 rfl rfl (by decide) dX5_fewestBars_46 ?_
    refine z_sipush (pc := 49) (v := 1000) C dX5_fewestBars_49 (by decide) ?_
    refine z_callSx (pc := 52) C zk_X5_92 (m_fill _ _ 17 0 12 1000 (by decide) rfl (by decide)) rfl rfl (Nat.le_of_ble_eq_true rfl) dX5_fewestBars_52 ?_
    simp only [Option.toList, List.cons_append, List.nil_append]
    refine w_fillx hI64 hF64 (fun j => (zB.wk (a' := 0) (b' := 2000) (zB.of (x := 1000) 1000 (by decide)) (by decide) (by decide))) (fun j => rfl) (fun g68 qm68 hI68 hF68 => ?_)
    refine z_aload_n (pc := 55) C dX5_fewestBars_55 rfl ?_
    refine z_iconst (pc := 56) (v := 0) C dX5_fewestBars_56 (by decide) ?_
    refine z_iload_n (pc := 57) C dX5_fewestBars_57 rfl ?_
    refine z_callV (pc := 58) C zk_X5_98 (w_X5_relax _ _ 0 (zB.wk (a' := 0) (b' := 2000) (zB.of (x := 0) 0 (by decide)) (by decide) (by decide)) a2 b2 hI68) rfl rfl (by decide) rfl rfl (Nat.le_of_ble_eq_true rfl) dX5_fewestBars_58 (fun r69 g69 q69 => ?_)
    obtain ⟨⟨v69, rfl, b69x⟩, hI69, hF69q⟩ := q69
    have hF69 := zFr.tr hF68 hF69q (by decide)
    simp only [Option.toList, List.cons_append, List.nil_append]
    refine z_pop (pc := 61) C dX5_fewestBars_61 ?_
    refine z_iconst (pc := 62) (v := 1) C dX5_fewestBars_62 (by decide) ?_
    refine z_istore_n (pc := 63) C dX5_fewestBars_63 (by rw [hn]; decide) rfl ?_
    refine z_iconst (pc := 64) (v := 0) C dX5_fewestBars_64 (by decide) ?_
    refine z_istore (pc := 65) C dX5_fewestBars_65 (by rw [hn]; decide) rfl ?_
    exact J0 1 (zB.wk (a' := 0) (b' := 1) (zB.of (x := 1) 1 (by decide)) (by decide) (by decide)) 0 (zB.wk (a' := 0) (b' := 12) (zB.of (x := 0) 0 (by decide)) (by decide) (by decide)) g69 hI69 hF69 (by intro n j hn; exact ((hF69q 6 n j rfl)).trans (((show g68 6 n j = g64 6 n j by rw [qm68]; exact zfill_ne (by omega))).trans (((hp64_1 n j hn)).trans (rfl)))) (by have qc0 : (0 : Int32).toInt = 0 := (by decide); have qc1 : (1 : Int32).toInt = 1 := (by decide); omega)
  · skip
    refine z_aload_n (pc := 25) C dX5_fewestBars_25 rfl ?_
    refine z_getR (pc := 26) C zf_X5_31 rfl rfl (by decide) dX5_fewestBars_26 ?_
    refine z_aload_n (pc := 29) C dX5_fewestBars_29 rfl ?_
    refine z_getR (pc := 30) C zf_X5_12 rfl rfl (by decide) dX5_fewestBars_30 ?_
    refine z_callV (pc := 33) C zk_X5_49 (x_X8_triedBy _ _ 2 (by decide) hI64) rfl rfl (by decide) rfl rfl (Nat.le_of_ble_eq_true rfl) dX5_fewestBars_33 (fun r70 g70 q70 => ?_)
    obtain ⟨⟨v70, rfl, b70x⟩, hI70, hF70q, hp70_0⟩ := q70
    have hp70_0 := hp70_0 _ rfl
    obtain rfl := zFr_nil hF70q
    simp only [Option.toList, List.cons_append, List.nil_append]
    refine z_iload_n (pc := 36) C dX5_fewestBars_36 rfl ?_
    refine z_ishr (pc := 37) C dX5_fewestBars_37 ?_
    refine w_gp (fun v => v = v70 >>> (a2 &&& 31)) rfl (fun v71 q71 => ?_)
    refine z_iconst (pc := 38) (v := 1) C dX5_fewestBars_38 (by decide) ?_
    refine z_iand (pc := 39) C dX5_fewestBars_39 ?_
    refine w_gp (fun v => v = v71 &&& (1 : Int32)) rfl (fun v72 q72 => ?_)
    have b72x : zB v72 0 1 := by rw [q72]; exact (zand_b (zB_any v71) (zB.of (x := 1) 1 (by decide)) (by decide))
    refine z_if_eq (pc := 40) 45 C dX5_fewestBars_40 (by decide) (fun h40_72 => ?_) (fun h40_72 => ?_)
    · skip
      have b74x : zB v72 0 0 := by have q1 := b72x; have q2 := (zB.of (x := 0) 0 (by decide)); simp only [z32lt, z32le, z32eq, Int32.reduceToInt, Int32.toInt_zero] at h40_72; constructor <;> omega
      refine z_aload_n (pc := 45) C dX5_fewestBars_45 rfl ?_
      refine z_getR (pc := 46) C zf_X5_28 rfl rfl (by decide) dX5_fewestBars_46 ?_
      refine z_sipush (pc := 49) (v := 1000) C dX5_fewestBars_49 (by decide) ?_
      refine z_callSx (pc := 52) C zk_X5_92 (m_fill _ _ 17 0 12 1000 (by decide) rfl (by decide)) rfl rfl (Nat.le_of_ble_eq_true rfl) dX5_fewestBars_52 ?_
      simp only [Option.toList, List.cons_append, List.nil_append]
      refine w_fillx hI64 hF64 (fun j => (zB.wk (a' := 0) (b' := 2000) (zB.of (x := 1000) 1000 (by decide)) (by decide) (by decide))) (fun j => rfl) (fun g75 qm75 hI75 hF75 => ?_)
      refine z_aload_n (pc := 55) C dX5_fewestBars_55 rfl ?_
      refine z_iconst (pc := 56) (v := 0) C dX5_fewestBars_56 (by decide) ?_
      refine z_iload_n (pc := 57) C dX5_fewestBars_57 rfl ?_
      refine z_callV (pc := 58) C zk_X5_98 (w_X5_relax _ _ 0 (zB.wk (a' := 0) (b' := 2000) (zB.of (x := 0) 0 (by decide)) (by decide) (by decide)) a2 b2 hI75) rfl rfl (by decide) rfl rfl (Nat.le_of_ble_eq_true rfl) dX5_fewestBars_58 (fun r76 g76 q76 => ?_)
      obtain ⟨⟨v76, rfl, b76x⟩, hI76, hF76q⟩ := q76
      have hF76 := zFr.tr hF75 hF76q (by decide)
      simp only [Option.toList, List.cons_append, List.nil_append]
      refine z_pop (pc := 61) C dX5_fewestBars_61 ?_
      refine z_iconst (pc := 62) (v := 1) C dX5_fewestBars_62 (by decide) ?_
      refine z_istore_n (pc := 63) C dX5_fewestBars_63 (by rw [hn]; decide) rfl ?_
      refine z_iconst (pc := 64) (v := 0) C dX5_fewestBars_64 (by decide) ?_
      refine z_istore (pc := 65) C dX5_fewestBars_65 (by rw [hn]; decide) rfl ?_
      exact J0 1 (zB.wk (a' := 0) (b' := 1) (zB.of (x := 1) 1 (by decide)) (by decide) (by decide)) 0 (zB.wk (a' := 0) (b' := 12) (zB.of (x := 0) 0 (by decide)) (by decide) (by decide)) g76 hI76 hF76 (by intro n j hn; exact ((hF76q 6 n j rfl)).trans (((show g75 6 n j = g64 6 n j by rw [qm75]; exact zfill_ne (by omega))).trans (((hp64_1 n j hn)).trans (rfl)))) (by have qc0 : (0 : Int32).toInt = 0 := (by decide); have qc1 : (1 : Int32).toInt = 1 := (by decide); omega)
    · skip
      have b77x : zB v72 1 1 := by have q1 := b72x; have q2 := (zB.of (x := 0) 0 (by decide)); simp only [z32lt, z32le, z32eq, Int32.reduceToInt, Int32.toInt_zero] at h40_72; constructor <;> omega
      refine z_iconst (pc := 43) (v := 0) C dX5_fewestBars_43 (by decide) ?_
      exact z_iret (pc := 44) C hr dX5_fewestBars_44 ⟨⟨_, rfl, (zB.wk (a' := (-4)) (b' := 999) (zB.of (x := 0) 0 (by decide)) (by decide) (by decide))⟩, hI64, hF64, (by intro v hv; cases hv; intro n j hn; exact ((hp64_1 n j hn)).trans (rfl))⟩

set_option maxRecDepth 100000 in
set_option maxHeartbeats 4000000 in
theorem x_X9_road (d : Nat) (f : zM) (a1 : Int32) (b1 : zB a1 (-2147483648) 2147483647) (a2 : Int32) (b2 : zB a2 (-2147483648) 2147483647) (a3 : Int32) (b3 : zB a3 (-2147483648) 2147483647) (hI : zInv f) : ZM (d + 4) yX9_road cX9_road 6 (some .int) [zr 0 0, zi a1, zi a2, zi a3] f (fun r g => (∃ v, r = some (zi v) ∧ zB v (-4) 3073) ∧ zInv g ∧ zFr [(6, some 1), (6, some 4), (6, some 5), (6, some 6), (11, some 8), (11, some 9), (13, some 6), (13, some 7), (14, none), (15, none), (16, none)] f g ∧ (∀ v : Int32, r = some (zi v) → (∀ n j, n ≠ 2 → g 6 n j = f 6 n j))) := by
  refine ZM.intro (by decide +kernel) (Nat.le_of_ble_eq_true rfl) ?_
  intro X C hr hn
  have hF : zFr [(6, some 1), (6, some 4), (6, some 5), (6, some 6), (11, some 8), (11, some 9), (13, some 6), (13, some 7), (14, none), (15, none), (16, none)] f f := zFr.rf _ _
  show Z X 0 [some (zr 0 0), some (zi a1), some (zi a2), some (zi a3), none, none] [] f
  refine z_iload_n (pc := 0) C dX9_road_0 rfl ?_
  refine z_callSb (pc := 1) C zk_X9_46 (m_X9_isLand _ _ _) rfl rfl (Nat.le_of_ble_eq_true rfl) dX9_road_1 (fun h1_0 => ?_) (fun h1_0 => ?_)
  · skip
    have b2x : zB a1 0 5 := h1_0
    refine z_if_eq (pc := 4) 20 C dX9_road_4 (by decide) (fun h => absurd h (by decide)) (fun _ => ?_)
    refine z_aload_n (pc := 7) C dX9_road_7 rfl ?_
    refine z_iload_n (pc := 8) C dX9_road_8 rfl ?_
    refine z_callVb (pc := 9) C zk_X9_179 (m_X9_isDeed _ _ _) rfl rfl (by decide) rfl rfl (Nat.le_of_ble_eq_true rfl) dX9_road_9 (fun h9_2 => ?_) (fun h9_2 => ?_)
    · skip
      have b4x : zB a2 0 7 := (zltc h9_2 (hI 1 0 6).2)
      refine z_if_eq (pc := 12) 20 C dX9_road_12 (by decide) (fun h => absurd h (by decide)) (fun _ => ?_)
      refine z_iload_n (pc := 15) C dX9_road_15 rfl ?_
      refine z_iconst (pc := 16) (v := -1) C dX9_road_16 (by decide) ?_
      refine z_icmp_ge (pc := 17) 22 C dX9_road_17 (by decide) (fun h17_4 => ?_) (fun h17_4 => ?_)
      · skip
        have b6x : zB a3 (-1) 2147483647 := by have q1 := b3; have q2 := (zB.of (x := (-1)) (-1) (by decide)); simp only [z32lt, z32le, z32eq, Int32.reduceToInt, Int32.toInt_zero] at h17_4; constructor <;> omega
        refine z_aload_n (pc := 22) C dX9_road_22 rfl ?_
        refine z_getR (pc := 23) C zf_X9_10 rfl rfl (by decide) dX9_road_23 ?_
        refine z_callV (pc := 26) C zk_X9_280 (w_X8_weighAll _ _  hI) rfl rfl (by decide) rfl rfl (Nat.le_of_ble_eq_true rfl) dX9_road_26 (fun r7 g7 q7 => ?_)
        obtain ⟨rfl, hI7, hF7q⟩ := q7
        have hF7 := zFr.tr hF hF7q (by decide)
        simp only [Option.toList, List.cons_append, List.nil_append]
        refine z_aload_n (pc := 29) C dX9_road_29 rfl ?_
        refine z_getR (pc := 30) C zf_X9_24 rfl rfl (by decide) dX9_road_30 ?_
        refine z_iload_n (pc := 33) C dX9_road_33 rfl ?_
        refine z_iload_n (pc := 34) C dX9_road_34 rfl ?_
        refine z_callV (pc := 35) C zk_X9_283 (x_X5_find _ _ a1 b2x a2 b4x hI7) rfl rfl (by decide) rfl rfl (Nat.le_of_ble_eq_true rfl) dX9_road_35 (fun r8 g8 q8 => ?_)
        obtain ⟨⟨v8, rfl, b8x⟩, hI8, hF8q, hp8_0⟩ := q8
        have hp8_0 := hp8_0 _ rfl
        have hF8 := zFr.tr hF7 hF8q (by decide)
        simp only [Option.toList, List.cons_append, List.nil_append]
        refine z_istore (pc := 38) C dX9_road_38 (by rw [hn]; decide) rfl ?_
        refine z_iload (pc := 40) C dX9_road_40 rfl ?_
        refine z_if_ge (pc := 42) 48 C dX9_road_42 (by decide) (fun h42_8 => ?_) (fun h42_8 => ?_)
        · skip
          have b10x : zB v8 0 3072 := by have q1 := b8x; have q2 := (zB.of (x := 0) 0 (by decide)); simp only [z32lt, z32le, z32eq, Int32.reduceToInt, Int32.toInt_zero] at h42_8; constructor <;> omega
          refine z_aload_n (pc := 48) C dX9_road_48 rfl ?_
          refine z_getR (pc := 49) C zf_X9_24 rfl rfl (by decide) dX9_road_49 ?_
          refine z_iload (pc := 52) C dX9_road_52 rfl ?_
          refine z_callV (pc := 54) C zk_X9_287 (w_X5_lengthTo _ _ v8 b10x hI8) rfl rfl (by decide) rfl rfl (Nat.le_of_ble_eq_true rfl) dX9_road_54 (fun r11 g11 q11 => ?_)
          obtain ⟨⟨v11, rfl, b11x⟩, hI11, hF11q⟩ := q11
          obtain rfl := zFr_nil hF11q
          simp only [Option.toList, List.cons_append, List.nil_append]
          refine z_istore (pc := 57) C dX9_road_57 (by rw [hn]; decide) rfl ?_
          refine z_iload_n (pc := 59) C dX9_road_59 rfl ?_
          refine z_iconst (pc := 60) (v := -1) C dX9_road_60 (by decide) ?_
          refine z_icmp_ne (pc := 61) 67 C dX9_road_61 (by decide) (fun h61_11 => ?_) (fun h61_11 => ?_)
          · skip
            have b13x : zB a3 0 2147483647 := by have q1 := b6x; have q2 := (zB.of (x := (-1)) (-1) (by decide)); simp only [z32lt, z32le, z32eq, Int32.reduceToInt, Int32.toInt_zero] at h61_11; constructor <;> omega
            refine z_iload_n (pc := 67) C dX9_road_67 rfl ?_
            refine z_iload (pc := 68) C dX9_road_68 rfl ?_
            refine z_icmp_ge (pc := 70) 91 C dX9_road_70 (by decide) (fun h70_13 => ?_) (fun h70_13 => ?_)
            · skip
              refine z_bipush (pc := 91) (v := -4) C dX9_road_91 (by decide) ?_
              exact z_iret (pc := 93) C hr dX9_road_93 ⟨⟨_, rfl, (zB.wk (a' := (-4)) (b' := 3073) (zB.of (x := (-4)) (-4) (by decide)) (by decide) (by decide))⟩, hI8, hF8, (by intro v hv; cases hv; intro n j hn; exact ((hp8_0 n j hn)).trans (((hF7q 6 n j rfl)).trans (rfl)))⟩
            · skip
              have b15x : zB a3 0 3072 := by have q1 := b13x; have q2 := b11x; simp only [z32lt, z32le, z32eq, Int32.reduceToInt, Int32.toInt_zero] at h70_13; constructor <;> omega
              have b16x : zB v11 1 3073 := by have q1 := b13x; have q2 := b11x; simp only [z32lt, z32le, z32eq, Int32.reduceToInt, Int32.toInt_zero] at h70_13; constructor <;> omega
              refine z_aload_n (pc := 73) C dX9_road_73 rfl ?_
              refine z_getR (pc := 74) C zf_X9_24 rfl rfl (by decide) dX9_road_74 ?_
              refine z_iload (pc := 77) C dX9_road_77 rfl ?_
              refine z_iload (pc := 79) C dX9_road_79 rfl ?_
              refine z_iconst (pc := 81) (v := 1) C dX9_road_81 (by decide) ?_
              refine z_isub (pc := 82) C dX9_road_82 ?_
              refine w_gp (fun v => v = v11 - (1 : Int32)) rfl (fun v17 q17 => ?_)
              have e17 : v17.toInt = v11.toInt - 1 := by rw [q17]; exact (zsub_eb b16x (zB.of (x := 1) 1 (by decide)) (by decide) (by decide))
              have b17x : zB v17 0 3072 := by have q1 := b16x; have q2 := (zB.of (x := 1) 1 (by decide)); constructor <;> omega
              refine z_iload_n (pc := 83) C dX9_road_83 rfl ?_
              refine z_isub (pc := 84) C dX9_road_84 ?_
              refine w_gp (fun v => v = v17 - a3) rfl (fun v18 q18 => ?_)
              have e18 : v18.toInt = v17.toInt - a3.toInt := by rw [q18]; exact (zsub_eb b17x b15x (by decide) (by decide))
              have b18x : zB v18 (-3072) 3072 := by have q1 := b17x; have q2 := b15x; constructor <;> omega
              refine z_callV (pc := 85) C zk_X9_290 (w_X5_paperOn _ _ v8 b10x v18 (zB.wk (a' := (-4000)) (b' := 4000) b18x (by decide) (by decide)) hI8) rfl rfl (by decide) rfl rfl (Nat.le_of_ble_eq_true rfl) dX9_road_85 (fun r19 g19 q19 => ?_)
              obtain ⟨⟨v19, rfl, b19x⟩, hI19, hF19q⟩ := q19
              obtain rfl := zFr_nil hF19q
              simp only [Option.toList, List.cons_append, List.nil_append]
              refine z_goto (pc := 88) 93 C dX9_road_88 (by decide) ?_
              exact z_iret (pc := 93) C hr dX9_road_93 ⟨⟨_, rfl, (zB.wk (a' := (-4)) (b' := 3073) b19x (by decide) (by decide))⟩, hI8, hF8, (by intro v hv; cases hv; intro n j hn; exact ((hp8_0 n j hn)).trans (((hF7q 6 n j rfl)).trans (rfl)))⟩
          · skip
            have b20x : zB a3 (-1) (-1) := by have q1 := b6x; have q2 := (zB.of (x := (-1)) (-1) (by decide)); simp only [z32lt, z32le, z32eq, Int32.reduceToInt, Int32.toInt_zero] at h61_11; constructor <;> omega
            refine z_iload (pc := 64) C dX9_road_64 rfl ?_
            exact z_iret (pc := 66) C hr dX9_road_66 ⟨⟨_, rfl, (zB.wk (a' := (-4)) (b' := 3073) b11x (by decide) (by decide))⟩, hI8, hF8, (by intro v hv; cases hv; intro n j hn; exact ((hp8_0 n j hn)).trans (((hF7q 6 n j rfl)).trans (rfl)))⟩
        · skip
          have b21x : zB v8 (-4) (-1) := by have q1 := b8x; have q2 := (zB.of (x := 0) 0 (by decide)); simp only [z32lt, z32le, z32eq, Int32.reduceToInt, Int32.toInt_zero] at h42_8; constructor <;> omega
          refine z_bipush (pc := 45) (v := -4) C dX9_road_45 (by decide) ?_
          exact z_iret (pc := 47) C hr dX9_road_47 ⟨⟨_, rfl, (zB.wk (a' := (-4)) (b' := 3073) (zB.of (x := (-4)) (-4) (by decide)) (by decide) (by decide))⟩, hI8, hF8, (by intro v hv; cases hv; intro n j hn; exact ((hp8_0 n j hn)).trans (((hF7q 6 n j rfl)).trans (rfl)))⟩
      · skip
        have b22x : zB a3 (-2147483648) (-2) := by have q1 := b3; have q2 := (zB.of (x := (-1)) (-1) (by decide)); simp only [z32lt, z32le, z32eq, Int32.reduceToInt, Int32.toInt_zero] at h17_4; constructor <;> omega
        refine z_iconst (pc := 20) (v := -1) C dX9_road_20 (by decide) ?_
        exact z_iret (pc := 21) C hr dX9_road_21 ⟨⟨_, rfl, (zB.wk (a' := (-4)) (b' := 3073) (zB.of (x := (-1)) (-1) (by decide)) (by decide) (by decide))⟩, hI, hF, (by intro v hv; cases hv; intro n j hn; exact rfl)⟩
    · skip
      refine z_if_eq (pc := 12) 20 C dX9_road_12 (by decide) (fun _ => ?_) (fun h => absurd (by decide) h)
      refine z_iconst (pc := 20) (v := -1) C dX9_road_20 (by decide) ?_
      exact z_iret (pc := 21) C hr dX9_road_21 ⟨⟨_, rfl, (zB.wk (a' := (-4)) (b' := 3073) (zB.of (x := (-1)) (-1) (by decide)) (by decide) (by decide))⟩, hI, hF, (by intro v hv; cases hv; intro n j hn; exact rfl)⟩
  · skip
    refine z_if_eq (pc := 4) 20 C dX9_road_4 (by decide) (fun _ => ?_) (fun h => absurd (by decide) h)
    refine z_iconst (pc := 20) (v := -1) C dX9_road_20 (by decide) ?_
    exact z_iret (pc := 21) C hr dX9_road_21 ⟨⟨_, rfl, (zB.wk (a' := (-4)) (b' := 3073) (zB.of (x := (-1)) (-1) (by decide)) (by decide) (by decide))⟩, hI, hF, (by intro v hv; cases hv; intro n j hn; exact rfl)⟩

set_option maxRecDepth 100000 in
set_option maxHeartbeats 4000000 in
theorem x_X9_lands (d : Nat) (f : zM)  (hI : zInv f) : ZM (d + 4) yX9_lands cX9_lands 1 (some .int) [zr 0 0] f (fun r g => (∃ v, r = some (zi v) ∧ zB v 0 63) ∧ zInv g ∧ zFr [(6, some 1), (6, some 4), (6, some 5), (6, some 6), (11, some 8), (11, some 9), (13, some 6), (13, some 7), (14, none), (15, none), (16, none)] f g ∧ (∀ v : Int32, r = some (zi v) → (∀ n j, n ≠ 2 → g 6 n j = f 6 n j))) := by
  refine ZM.intro (by decide +kernel) (Nat.le_of_ble_eq_true rfl) ?_
  intro X C hr hn
  have hF : zFr [(6, some 1), (6, some 4), (6, some 5), (6, some 6), (11, some 8), (11, some 9), (13, some 6), (13, some 7), (14, none), (15, none), (16, none)] f f := zFr.rf _ _
  show Z X 0 [some (zr 0 0)] [] f
  refine z_aload_n (pc := 0) C dX9_lands_0 rfl ?_
  refine z_getR (pc := 1) C zf_X9_10 rfl rfl (by decide) dX9_lands_1 ?_
  refine z_callV (pc := 4) C zk_X9_280 (w_X8_weighAll _ _  hI) rfl rfl (by decide) rfl rfl (Nat.le_of_ble_eq_true rfl) dX9_lands_4 (fun r1 g1 q1 => ?_)
  obtain ⟨rfl, hI1, hF1q⟩ := q1
  have hF1 := zFr.tr hF hF1q (by decide)
  simp only [Option.toList, List.cons_append, List.nil_append]
  refine z_aload_n (pc := 7) C dX9_lands_7 rfl ?_
  refine z_getR (pc := 8) C zf_X9_24 rfl rfl (by decide) dX9_lands_8 ?_
  refine z_callV (pc := 11) C zk_X9_293 (x_X5_reach _ _  hI1) rfl rfl (by decide) rfl rfl (Nat.le_of_ble_eq_true rfl) dX9_lands_11 (fun r2 g2 q2 => ?_)
  obtain ⟨⟨v2, rfl, b2x⟩, hI2, hF2q, hp2_0⟩ := q2
  have hp2_0 := hp2_0 _ rfl
  have hF2 := zFr.tr hF1 hF2q (by decide)
  simp only [Option.toList, List.cons_append, List.nil_append]
  exact z_iret (pc := 14) C hr dX9_lands_14 ⟨⟨_, rfl, b2x⟩, hI2, hF2, (by intro v hv; cases hv; intro n j hn; exact ((hp2_0 n j hn)).trans (((hF1q 6 n j rfl)).trans (rfl)))⟩

set_option maxRecDepth 100000 in
set_option maxHeartbeats 4000000 in
theorem x_X9_safe (d : Nat) (f : zM) (a1 : Int32) (b1 : zB a1 (-2147483648) 2147483647) (hI : zInv f) : ZM (d + 4) yX9_safe cX9_safe 2 (some .int) [zr 0 0, zi a1] f (fun r g => (∃ v, r = some (zi v) ∧ zB v (-1) 63) ∧ zInv g ∧ zFr [(6, some 1), (6, some 4), (6, some 5), (6, some 6), (11, some 8), (11, some 9)] f g ∧ (∀ v : Int32, r = some (zi v) → (∀ n j, n ≠ 2 → g 6 n j = f 6 n j))) := by
  refine ZM.intro (by decide +kernel) (Nat.le_of_ble_eq_true rfl) ?_
  intro X C hr hn
  have hF : zFr [(6, some 1), (6, some 4), (6, some 5), (6, some 6), (11, some 8), (11, some 9)] f f := zFr.rf _ _
  show Z X 0 [some (zr 0 0), some (zi a1)] [] f
  refine z_iload_n (pc := 0) C dX9_safe_0 rfl ?_
  refine z_if_lt (pc := 1) 9 C dX9_safe_1 (by decide) (fun h1_0 => ?_) (fun h1_0 => ?_)
  · skip
    have b2x : zB a1 (-2147483648) (-1) := by have q1 := b1; have q2 := (zB.of (x := 0) 0 (by decide)); simp only [z32lt, z32le, z32eq, Int32.reduceToInt, Int32.toInt_zero] at h1_0; constructor <;> omega
    refine z_iconst (pc := 9) (v := -1) C dX9_safe_9 (by decide) ?_
    exact z_iret (pc := 10) C hr dX9_safe_10 ⟨⟨_, rfl, (zB.wk (a' := (-1)) (b' := 63) (zB.of (x := (-1)) (-1) (by decide)) (by decide) (by decide))⟩, hI, hF, (by intro v hv; cases hv; intro n j hn; exact rfl)⟩
  · skip
    have b3x : zB a1 0 2147483647 := by have q1 := b1; have q2 := (zB.of (x := 0) 0 (by decide)); simp only [z32lt, z32le, z32eq, Int32.reduceToInt, Int32.toInt_zero] at h1_0; constructor <;> omega
    refine z_iload_n (pc := 4) C dX9_safe_4 rfl ?_
    refine z_iconst (pc := 5) (v := 1) C dX9_safe_5 (by decide) ?_
    refine z_icmp_le (pc := 6) 11 C dX9_safe_6 (by decide) (fun h6_3 => ?_) (fun h6_3 => ?_)
    · skip
      have b5x : zB a1 0 1 := by have q1 := b3x; have q2 := (zB.of (x := 1) 1 (by decide)); simp only [z32lt, z32le, z32eq, Int32.reduceToInt, Int32.toInt_zero] at h6_3; constructor <;> omega
      refine z_aload_n (pc := 11) C dX9_safe_11 rfl ?_
      refine z_getR (pc := 12) C zf_X9_10 rfl rfl (by decide) dX9_safe_12 ?_
      refine z_callV (pc := 15) C zk_X9_280 (w_X8_weighAll _ _  hI) rfl rfl (by decide) rfl rfl (Nat.le_of_ble_eq_true rfl) dX9_safe_15 (fun r6 g6 q6 => ?_)
      obtain ⟨rfl, hI6, hF6q⟩ := q6
      have hF6 := zFr.tr hF hF6q (by decide)
      simp only [Option.toList, List.cons_append, List.nil_append]
      refine z_aload_n (pc := 18) C dX9_safe_18 rfl ?_
      refine z_getR (pc := 19) C zf_X9_24 rfl rfl (by decide) dX9_safe_19 ?_
      refine z_iload_n (pc := 22) C dX9_safe_22 rfl ?_
      refine z_iconst (pc := 23) (v := 1) C dX9_safe_23 (by decide) ?_
      refine z_icmp_ne (pc := 24) 31 C dX9_safe_24 (by decide) (fun h24_6 => ?_) (fun h24_6 => ?_)
      · skip
        have b8x : zB a1 0 0 := by have q1 := b5x; have q2 := (zB.of (x := 1) 1 (by decide)); simp only [z32lt, z32le, z32eq, Int32.reduceToInt, Int32.toInt_zero] at h24_6; constructor <;> omega
        refine z_iconst (pc := 31) (v := 0) C dX9_safe_31 (by decide) ?_
        refine z_callV (pc := 32) C zk_X9_296 (x_X5_safeLands _ _ 0 (zB.wk (a' := 0) (b' := 1) (zB.of (x := 0) 0 (by decide)) (by decide) (by decide)) hI6) rfl rfl (by decide) rfl rfl (Nat.le_of_ble_eq_true rfl) dX9_safe_32 (fun r9 g9 q9 => ?_)
        have qa9_0 : (0 : Int32).toInt = 0 := by decide
        obtain ⟨⟨v9, rfl, b9x⟩, hI9, hF9q, hp9_0⟩ := q9
        have hp9_0 := hp9_0 _ rfl
        have hF9 := zFr.tr hF6 hF9q (by decide)
        simp only [Option.toList, List.cons_append, List.nil_append]
        exact z_iret (pc := 35) C hr dX9_safe_35 ⟨⟨_, rfl, (zB.wk (a' := (-1)) (b' := 63) b9x (by decide) (by decide))⟩, hI9, hF9, (by intro v hv; cases hv; intro n j hn; exact ((hp9_0 n j hn)).trans (((hF6q 6 n j rfl)).trans (rfl)))⟩
      · skip
        have b10x : zB a1 1 1 := by have q1 := b5x; have q2 := (zB.of (x := 1) 1 (by decide)); simp only [z32lt, z32le, z32eq, Int32.reduceToInt, Int32.toInt_zero] at h24_6; constructor <;> omega
        refine z_iconst (pc := 27) (v := 1) C dX9_safe_27 (by decide) ?_
        refine z_goto (pc := 28) 32 C dX9_safe_28 (by decide) ?_
        refine z_callV (pc := 32) C zk_X9_296 (x_X5_safeLands _ _ 1 (zB.wk (a' := 0) (b' := 1) (zB.of (x := 1) 1 (by decide)) (by decide) (by decide)) hI6) rfl rfl (by decide) rfl rfl (Nat.le_of_ble_eq_true rfl) dX9_safe_32 (fun r11 g11 q11 => ?_)
        have qa11_1 : (1 : Int32).toInt = 1 := by decide
        obtain ⟨⟨v11, rfl, b11x⟩, hI11, hF11q, hp11_0⟩ := q11
        have hp11_0 := hp11_0 _ rfl
        have hF11 := zFr.tr hF6 hF11q (by decide)
        simp only [Option.toList, List.cons_append, List.nil_append]
        exact z_iret (pc := 35) C hr dX9_safe_35 ⟨⟨_, rfl, (zB.wk (a' := (-1)) (b' := 63) b11x (by decide) (by decide))⟩, hI11, hF11, (by intro v hv; cases hv; intro n j hn; exact ((hp11_0 n j hn)).trans (((hF6q 6 n j rfl)).trans (rfl)))⟩
    · skip
      have b12x : zB a1 2 2147483647 := by have q1 := b3x; have q2 := (zB.of (x := 1) 1 (by decide)); simp only [z32lt, z32le, z32eq, Int32.reduceToInt, Int32.toInt_zero] at h6_3; constructor <;> omega
      refine z_iconst (pc := 9) (v := -1) C dX9_safe_9 (by decide) ?_
      exact z_iret (pc := 10) C hr dX9_safe_10 ⟨⟨_, rfl, (zB.wk (a' := (-1)) (b' := 63) (zB.of (x := (-1)) (-1) (by decide)) (by decide) (by decide))⟩, hI, hF, (by intro v hv; cases hv; intro n j hn; exact rfl)⟩

set_option maxRecDepth 100000 in
set_option maxHeartbeats 4000000 in
theorem x_X9_mended (d : Nat) (f : zM) (a1 : Int32) (b1 : zB a1 (-2147483648) 2147483647) (a2 : Int32) (b2 : zB a2 (-2147483648) 2147483647) (hI : zInv f) : ZM (d + 4) yX9_mended cX9_mended 3 (some .int) [zr 0 0, zi a1, zi a2] f (fun r g => (∃ v, r = some (zi v) ∧ zB v (-4) 999) ∧ zInv g ∧ zFr [(6, some 1), (6, some 4), (6, some 5), (6, some 6), (11, some 8), (11, some 9), (17, none)] f g ∧ (∀ v : Int32, r = some (zi v) → (∀ n j, n ≠ 2 → g 6 n j = f 6 n j))) := by
  refine ZM.intro (by decide +kernel) (Nat.le_of_ble_eq_true rfl) ?_
  intro X C hr hn
  have hF : zFr [(6, some 1), (6, some 4), (6, some 5), (6, some 6), (11, some 8), (11, some 9), (17, none)] f f := zFr.rf _ _
  show Z X 0 [some (zr 0 0), some (zi a1), some (zi a2)] [] f
  refine z_iload_n (pc := 0) C dX9_mended_0 rfl ?_
  refine z_callSb (pc := 1) C zk_X9_46 (m_X9_isLand _ _ _) rfl rfl (Nat.le_of_ble_eq_true rfl) dX9_mended_1 (fun h1_0 => ?_) (fun h1_0 => ?_)
  · skip
    have b2x : zB a1 0 5 := h1_0
    refine z_if_eq (pc := 4) 15 C dX9_mended_4 (by decide) (fun h => absurd h (by decide)) (fun _ => ?_)
    refine z_aload_n (pc := 7) C dX9_mended_7 rfl ?_
    refine z_iload_n (pc := 8) C dX9_mended_8 rfl ?_
    refine z_callVb (pc := 9) C zk_X9_179 (m_X9_isDeed _ _ _) rfl rfl (by decide) rfl rfl (Nat.le_of_ble_eq_true rfl) dX9_mended_9 (fun h9_2 => ?_) (fun h9_2 => ?_)
    · skip
      have b4x : zB a2 0 7 := (zltc h9_2 (hI 1 0 6).2)
      refine z_if_ne (pc := 12) 17 C dX9_mended_12 (by decide) (fun _ => ?_) (fun h => absurd h (by decide))
      refine z_aload_n (pc := 17) C dX9_mended_17 rfl ?_
      refine z_getR (pc := 18) C zf_X9_10 rfl rfl (by decide) dX9_mended_18 ?_
      refine z_iload_n (pc := 21) C dX9_mended_21 rfl ?_
      refine z_callV (pc := 22) C zk_X9_321 (w_X8_weighAlone _ _ a2 b4x hI) rfl rfl (by decide) rfl rfl (Nat.le_of_ble_eq_true rfl) dX9_mended_22 (fun r5 g5 q5 => ?_)
      obtain ⟨rfl, hI5, hF5q⟩ := q5
      have hF5 := zFr.tr hF hF5q (by decide)
      simp only [Option.toList, List.cons_append, List.nil_append]
      refine z_aload_n (pc := 25) C dX9_mended_25 rfl ?_
      refine z_getR (pc := 26) C zf_X9_24 rfl rfl (by decide) dX9_mended_26 ?_
      refine z_iload_n (pc := 29) C dX9_mended_29 rfl ?_
      refine z_iload_n (pc := 30) C dX9_mended_30 rfl ?_
      refine z_callV (pc := 31) C zk_X9_324 (x_X5_fewestBars _ _ a1 b2x a2 b4x hI5) rfl rfl (by decide) rfl rfl (Nat.le_of_ble_eq_true rfl) dX9_mended_31 (fun r6 g6 q6 => ?_)
      obtain ⟨⟨v6, rfl, b6x⟩, hI6, hF6q, hp6_0⟩ := q6
      have hp6_0 := hp6_0 _ rfl
      have hF6 := zFr.tr hF5 hF6q (by decide)
      simp only [Option.toList, List.cons_append, List.nil_append]
      exact z_iret (pc := 34) C hr dX9_mended_34 ⟨⟨_, rfl, b6x⟩, hI6, hF6, (by intro v hv; cases hv; intro n j hn; exact ((hp6_0 n j hn)).trans (((hF5q 6 n j rfl)).trans (rfl)))⟩
    · skip
      refine z_if_ne (pc := 12) 17 C dX9_mended_12 (by decide) (fun h => absurd (by decide) h) (fun _ => ?_)
      refine z_iconst (pc := 15) (v := -1) C dX9_mended_15 (by decide) ?_
      exact z_iret (pc := 16) C hr dX9_mended_16 ⟨⟨_, rfl, (zB.wk (a' := (-4)) (b' := 999) (zB.of (x := (-1)) (-1) (by decide)) (by decide) (by decide))⟩, hI, hF, (by intro v hv; cases hv; intro n j hn; exact rfl)⟩
  · skip
    refine z_if_eq (pc := 4) 15 C dX9_mended_4 (by decide) (fun _ => ?_) (fun h => absurd (by decide) h)
    refine z_iconst (pc := 15) (v := -1) C dX9_mended_15 (by decide) ?_
    exact z_iret (pc := 16) C hr dX9_mended_16 ⟨⟨_, rfl, (zB.wk (a' := (-4)) (b' := 999) (zB.of (x := (-1)) (-1) (by decide)) (by decide) (by decide))⟩, hI, hF, (by intro v hv; cases hv; intro n j hn; exact rfl)⟩
