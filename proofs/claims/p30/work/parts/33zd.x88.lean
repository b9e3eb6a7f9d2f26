set_option maxRecDepth 100000 in
set_option maxHeartbeats 4000000 in
theorem x_X5_placeWalker (d : Nat) (f : zM) (a1 : Int32) (b1 : zB a1 0 3072) (hI : zInv f) : ZM (d + 2) yX5_placeWalker cX5_placeWalker 2 none [zr 13 0, zi a1] f (fun r g => r = none ∧ zInv g ∧ zFr [(6, some 1), (6, some 4), (6, some 5), (6, some 6)] f g ∧ ((∀ n j, n ≠ 2 → g 6 n j = f 6 n j))) := by
  refine ZM.intro (by decide +kernel) (Nat.le_of_ble_eq_true rfl) ?_
  intro X C hr hn
  have hF : zFr [(6, some 1), (6, some 4), (6, some 5), (6, some 6)] f f := zFr.rf _ _
  show Z X 0 [some (zr 13 0), some (zi a1)] [] f
  refine z_iload_n (pc := 0) C dX5_placeWalker_0 rfl ?_
  refine z_if_ne (pc := 1) 21 C dX5_placeWalker_1 (by decide) (fun h1_0 => ?_) (fun h1_0 => ?_)
  · skip
    have b2x : zB a1 1 3072 := by have q1 := b1; have q2 := (zB.of (x := 0) 0 (by decide)); simp only [z32lt, z32le, z32eq, Int32.reduceToInt, Int32.toInt_zero] at h1_0; constructor <;> omega
    refine z_aload_n (pc := 21) C dX5_placeWalker_21 rfl ?_
    refine z_getR (pc := 22) C zf_X5_12 rfl rfl (by decide) dX5_placeWalker_22 ?_
    refine z_aload_n (pc := 25) C dX5_placeWalker_25 rfl ?_
    refine z_getR (pc := 26) C zf_X5_31 rfl rfl (by decide) dX5_placeWalker_26 ?_
    refine z_getR (pc := 29) C zf_X5_68 rfl rfl (by decide) dX5_placeWalker_29 ?_
    refine z_aload_n (pc := 32) C dX5_placeWalker_32 rfl ?_
    refine z_getR (pc := 33) C zf_X5_22 rfl rfl (by decide) dX5_placeWalker_33 ?_
    refine z_iload_n (pc := 36) C dX5_placeWalker_36 rfl ?_
    refine z_iald (pc := 37) C rfl (by decide) (zIx b2x (by decide) (by decide)) dX5_placeWalker_37 ?_
    have kq37_2 : a1.toNatClampNeg = a1.toInt.toNat := rfl
    refine w_gp (fun v => v = f 15 0 a1.toNatClampNeg) rfl (fun v3 q3 => ?_)
    have b3x : zB v3 0 3071 := by rw [q3]; exact (hI 15 0 a1.toNatClampNeg)
    refine z_sipush (pc := 38) (v := 256) C dX5_placeWalker_38 (by decide) ?_
    refine z_idiv (pc := 41) C dX5_placeWalker_41 (by decide) ?_
    refine w_gp (fun v => v = v3 / (256 : Int32)) rfl (fun v4 q4 => ?_)
    have b4x : zB v4 0 11 := by rw [q4]; exact (zdiv_b 256 b3x (by decide) (by decide) (by decide))
    refine z_aald (pc := 42) C rfl ⟨rfl, by decide⟩ (by decide) (zIx b4x (by decide) (by decide)) dX5_placeWalker_42 ?_
    refine w_grx (by have hq := zN b4x (by decide); show 12 * 0 + v4.toNatClampNeg < 36; omega) (fun m5 q5r h5x => ?_)
    have q5r : m5 = 12 * 0 + v4.toNatClampNeg := q5r
    have k5r : v4.toNatClampNeg = v4.toInt.toNat := rfl
    refine z_aload_n (pc := 43) C dX5_placeWalker_43 rfl ?_
    refine z_getR (pc := 44) C zf_X5_22 rfl rfl (by decide) dX5_placeWalker_44 ?_
    refine z_iload_n (pc := 47) C dX5_placeWalker_47 rfl ?_
    refine z_iald (pc := 48) C rfl (by decide) (zIx b2x (by decide) (by decide)) dX5_placeWalker_48 ?_
    have kq48_5 : a1.toNatClampNeg = a1.toInt.toNat := rfl
    refine w_gp (fun v => v = f 15 0 a1.toNatClampNeg) rfl (fun v6 q6 => ?_)
    have b6x : zB v6 0 3071 := by rw [q6]; exact (hI 15 0 a1.toNatClampNeg)
    refine z_sipush (pc := 49) (v := 256) C dX5_placeWalker_49 (by decide) ?_
    refine z_irem (pc := 52) C dX5_placeWalker_52 (by decide) ?_
    refine w_gp (fun v => v = v6 - v6 / (256 : Int32) * (256 : Int32)) rfl (fun v7 q7 => ?_)
    have b7x : zB v7 0 255 := by rw [q7]; exact (zrem_b 256 b6x (by decide) (by decide) (by decide))
    refine z_callV (pc := 53) C zk_X5_72 (x_X3_go _ _ 2 (by decide) m5 h5x v7 b7x hI) rfl rfl (by decide) rfl rfl (Nat.le_of_ble_eq_true rfl) dX5_placeWalker_53 (fun r8 g8 q8 => ?_)
    obtain ⟨rfl, hI8, hF8q, hp8_0, hp8_1, hp8_2, hp8_3, hp8_4⟩ := q8
    have hF8 := zFr.tr hF hF8q (by decide)
    simp only [Option.toList, List.cons_append, List.nil_append]
    exact z_vret (pc := 56) C hr dX5_placeWalker_56 ⟨rfl, hI8, hF8, (by intro n j hn; exact ((hp8_0 6 n j (by omega))).trans (rfl))⟩
  · skip
    have b9x : zB a1 0 0 := by have q1 := b1; have q2 := (zB.of (x := 0) 0 (by decide)); simp only [z32lt, z32le, z32eq, Int32.reduceToInt, Int32.toInt_zero] at h1_0; constructor <;> omega
    refine z_aload_n (pc := 4) C dX5_placeWalker_4 rfl ?_
    refine z_getR (pc := 5) C zf_X5_12 rfl rfl (by decide) dX5_placeWalker_5 ?_
    refine z_aload_n (pc := 8) C dX5_placeWalker_8 rfl ?_
    refine z_getR (pc := 9) C zf_X5_31 rfl rfl (by decide) dX5_placeWalker_9 ?_
    refine z_getR (pc := 12) C zf_X5_61 rfl rfl (by decide) dX5_placeWalker_12 ?_
    refine z_callV (pc := 15) C zk_X5_64 (x_X3_stand _ _ 2 (by decide) 0 (by decide) (by omega) hI) rfl rfl (by decide) rfl rfl (Nat.le_of_ble_eq_true rfl) dX5_placeWalker_15 (fun r10 g10 q10 => ?_)
    obtain ⟨rfl, hI10, hF10q, hp10_0, hp10_1⟩ := q10
    have hF10 := zFr.tr hF hF10q (by decide)
    simp only [Option.toList, List.cons_append, List.nil_append]
    refine z_goto (pc := 18) 56 C dX5_placeWalker_18 (by decide) ?_
    exact z_vret (pc := 56) C hr dX5_placeWalker_56 ⟨rfl, hI10, hF10, (by intro n j hn; exact ((hp10_1 n j hn)).trans (rfl))⟩

set_option maxRecDepth 100000 in
set_option maxHeartbeats 4000000 in
theorem x_X5_find (d : Nat) (f : zM) (a1 : Int32) (b1 : zB a1 0 5) (a2 : Int32) (b2 : zB a2 0 7) (hI : zInv f) : ZM (d + 3) yX5_find cX5_find 4 (some .int) [zr 13 0, zi a1, zi a2] f (fun r g => (∃ v, r = some (zi v) ∧ zB v (-4) 3072) ∧ zInv g ∧ zFr [(6, some 1), (6, some 4), (6, some 5), (6, some 6), (13, some 6), (13, some 7), (14, none), (15, none), (16, none)] f g ∧ (∀ v : Int32, r = some (zi v) → (∀ n j, n ≠ 2 → g 6 n j = f 6 n j))) := by
  refine ZM.intro (by decide +kernel) (Nat.le_of_ble_eq_true rfl) ?_
  intro X C hr hn
  have hF : zFr [(6, some 1), (6, some 4), (6, some 5), (6, some 6), (13, some 6), (13, some 7), (14, none), (15, none), (16, none)] f f := zFr.rf _ _
  have J : ∀ t : Nat, (∀ a6_3 : Int32, zB a6_3 0 3073 → ∀ g : zM, zInv g → zFr [(6, some 1), (6, some 4), (6, some 5), (6, some 6), (13, some 6), (13, some 7), (14, none), (15, none), (16, none)] f g → ((∀ n j, n ≠ 2 → g 6 n j = f 6 n j)) → (0 + 3 * (3073 - a6_3.toInt) : Int) < t → Z X 6 [some (zr 13 0), some (zi a1), some (zi a2), some (zi a6_3)] [] g) := by
    intro t
    induction t with
    | zero =>
      intros; exfalso; omega
    | succ t ih =>
      have ih0 := ih
      intro a6_3 b6_3 g6_ hI6_ hF6_ hR6_0 hM6_
      refine z_iload_n (pc := 6) C dX5_find_6 rfl ?_
      refine z_aload_n (pc := 7) C dX5_find_7 rfl ?_
      refine z_getR (pc := 8) C zf_X5_22 rfl rfl (by decide) dX5_find_8 ?_
      refine z_alenI (pc := 11) (v := 3073) C rfl (by decide) rfl dX5_find_11 ?_
      refine z_icmp_ge (pc := 12) 70 C dX5_find_12 (by decide) (fun h12_0 => ?_) (fun h12_0 => ?_)
      · skip
        have b2x : zB a6_3 3073 3073 := by have q1 := b6_3; have q2 := (zB.of (x := 3073) 3073 (by decide)); simp only [z32lt, z32le, z32eq, Int32.reduceToInt, Int32.toInt_zero] at h12_0; constructor <;> omega
        refine z_bipush (pc := 70) (v := -4) C dX5_find_70 (by decide) ?_
        exact z_iret (pc := 72) C hr dX5_find_72 ⟨⟨_, rfl, (zB.wk (a' := (-4)) (b' := 3072) (zB.of (x := (-4)) (-4) (by decide)) (by decide) (by decide))⟩, hI6_, hF6_, (by intro v hv; cases hv; intro n j hn; exact hR6_0 n j hn)⟩
      · skip
        have b3x : zB a6_3 0 3072 := by have q1 := b6_3; have q2 := (zB.of (x := 3073) 3073 (by decide)); simp only [z32lt, z32le, z32eq, Int32.reduceToInt, Int32.toInt_zero] at h12_0; constructor <;> omega
        refine z_iload_n (pc := 15) C dX5_find_15 rfl ?_
        refine z_aload_n (pc := 16) C dX5_find_16 rfl ?_
        refine z_getI (pc := 17) C zf_X5_38 rfl rfl (by decide) dX5_find_17 ?_
        refine w_gp (fun v => v = g6_ 13 0 6) rfl (fun v5 q5 => ?_)
        have b5x : zB v5 0 3073 := by rw [q5]; exact (hI6_ 13 0 6)
        refine z_icmp_ge (pc := 20) 70 C dX5_find_20 (by decide) (fun h20_5 => ?_) (fun h20_5 => ?_)
        · skip
          have b7x : zB v5 0 3072 := by have q1 := b3x; have q2 := b5x; simp only [z32lt, z32le, z32eq, Int32.reduceToInt, Int32.toInt_zero] at h20_5; constructor <;> omega
          refine z_bipush (pc := 70) (v := -4) C dX5_find_70 (by decide) ?_
          exact z_iret (pc := 72) C hr dX5_find_72 ⟨⟨_, rfl, (zB.wk (a' := (-4)) (b' := 3072) (zB.of (x := (-4)) (-4) (by decide)) (by decide) (by decide))⟩, hI6_, hF6_, (by intro v hv; cases hv; intro n j hn; exact hR6_0 n j hn)⟩
        · skip
          have b8x : zB v5 1 3073 := by have q1 := b3x; have q2 := b5x; simp only [z32lt, z32le, z32eq, Int32.reduceToInt, Int32.toInt_zero] at h20_5; constructor <;> omega
          refine z_aload_n (pc := 23) C dX5_find_23 rfl ?_
          refine z_iload_n (pc := 24) C dX5_find_24 rfl ?_
          refine z_callV (pc := 25) C zk_X5_42 (x_X5_placeWalker _ _ a6_3 b3x hI6_) rfl rfl (by decide) rfl rfl (Nat.le_of_ble_eq_true rfl) dX5_find_25 (fun r9 g9 q9 => ?_)
          obtain ⟨rfl, hI9, hF9q, hp9_0⟩ := q9
          have hF9 := zFr.tr hF6_ hF9q (by decide)
          simp only [Option.toList, List.cons_append, List.nil_append]
          refine z_aload_n (pc := 28) C dX5_find_28 rfl ?_
          refine z_getR (pc := 29) C zf_X5_12 rfl rfl (by decide) dX5_find_29 ?_
          refine z_getI (pc := 32) C zf_X5_46 rfl rfl (by decide) dX5_find_32 ?_
          refine w_gp (fun v => v = g9 6 2 1) rfl (fun v11 q11 => ?_)
          have b11x : zB v11 0 5 := by rw [q11]; exact (hI9 6 2 1)
          refine z_iload_n (pc := 35) C dX5_find_35 rfl ?_
          refine z_icmp_ne (pc := 36) 59 C dX5_find_36 (by decide) (fun h36_11 => ?_) (fun h36_11 => ?_)
          · skip
            refine z_aload_n (pc := 59) C dX5_find_59 rfl ?_
            refine z_iload_n (pc := 60) C dX5_find_60 rfl ?_
            refine z_callV (pc := 61) C zk_X5_55 (w_X5_spread _ _ a6_3 b3x hI9) rfl rfl (by decide) rfl rfl (Nat.le_of_ble_eq_true rfl) dX5_find_61 (fun r13 g13 q13 => ?_)
            obtain ⟨rfl, hI13, hF13q⟩ := q13
            have hF13 := zFr.tr hF9 hF13q (by decide)
            simp only [Option.toList, List.cons_append, List.nil_append]
            refine z_iinc (pc := 64) (v := 1) C dX5_find_64 rfl (by decide) (by rw [hn]; decide) rfl ?_
            obtain ⟨v14, hv14, e14⟩ : ∃ v : Int32, v = a6_3 + 1 ∧ v.toInt = a6_3.toInt + 1 := ⟨_, rfl, zadd_eb b3x (zB.of (x := 1) 1 (by decide)) (by decide) (by decide)⟩
            rw [← hv14]
            have b14x : zB v14 1 3073 := by have q9 := b3x; constructor <;> omega
            refine z_goto (pc := 67) 6 C dX5_find_67 (by decide) ?_
            exact ih0 v14 (zB.wk (a' := 0) (b' := 3073) b14x (by decide) (by decide)) g13 hI13 hF13 (by intro n j hn; exact ((hF13q 6 n j rfl)).trans (((hp9_0 n j hn)).trans (hR6_0 n j hn))) (by omega)
          · skip
            refine z_aload_n (pc := 39) C dX5_find_39 rfl ?_
            refine z_getR (pc := 40) C zf_X5_31 rfl rfl (by decide) dX5_find_40 ?_
            refine z_aload_n (pc := 43) C dX5_find_43 rfl ?_
            refine z_getR (pc := 44) C zf_X5_12 rfl rfl (by decide) dX5_find_44 ?_
            refine z_callV (pc := 47) C zk_X5_49 (x_X8_triedBy _ _ 2 (by decide) hI9) rfl rfl (by decide) rfl rfl (Nat.le_of_ble_eq_true rfl) dX5_find_47 (fun r15 g15 q15 => ?_)
            obtain ⟨⟨v15, rfl, b15x⟩, hI15, hF15q, hp15_0⟩ := q15
            have hp15_0 := hp15_0 _ rfl
            obtain rfl := zFr_nil hF15q
            simp only [Option.toList, List.cons_append, List.nil_append]
            refine z_iload_n (pc := 50) C dX5_find_50 rfl ?_
            refine z_ishr (pc := 51) C dX5_find_51 ?_
            refine w_gp (fun v => v = v15 >>> (a2 &&& 31)) rfl (fun v16 q16 => ?_)
            refine z_iconst (pc := 52) (v := 1) C dX5_find_52 (by decide) ?_
            refine z_iand (pc := 53) C dX5_find_53 ?_
            refine w_gp (fun v => v = v16 &&& (1 : Int32)) rfl (fun v17 q17 => ?_)
            have b17x : zB v17 0 1 := by rw [q17]; exact (zand_b (zB_any v16) (zB.of (x := 1) 1 (by decide)) (by decide))
            refine z_if_eq (pc := 54) 59 C dX5_find_54 (by decide) (fun h54_17 => ?_) (fun h54_17 => ?_)
            · skip
              have b19x : zB v17 0 0 := by have q1 := b17x; have q2 := (zB.of (x := 0) 0 (by decide)); simp only [z32lt, z32le, z32eq, Int32.reduceToInt, Int32.toInt_zero] at h54_17; constructor <;> omega
              refine z_aload_n (pc := 59) C dX5_find_59 rfl ?_
              refine z_iload_n (pc := 60) C dX5_find_60 rfl ?_
              refine z_callV (pc := 61) C zk_X5_55 (w_X5_spread _ _ a6_3 b3x hI9) rfl rfl (by decide) rfl rfl (Nat.le_of_ble_eq_true rfl) dX5_find_61 (fun r20 g20 q20 => ?_)
              obtain ⟨rfl, hI20, hF20q⟩ := q20
              have hF20 := zFr.tr hF9 hF20q (by decide)
              simp only [Option.toList, List.cons_append, List.nil_append]
              refine z_iinc (pc := 64) (v := 1) C dX5_find_64 rfl (by decide) (by rw [hn]; decide) rfl ?_
              obtain ⟨v21, hv21, e21⟩ : ∃ v : Int32, v = a6_3 + 1 ∧ v.toInt = a6_3.toInt + 1 := ⟨_, rfl, zadd_eb b3x (zB.of (x := 1) 1 (by decide)) (by decide) (by decide)⟩
              rw [← hv21]
              have b21x : zB v21 1 3073 := by have q9 := b3x; constructor <;> omega
              refine z_goto (pc := 67) 6 C dX5_find_67 (by decide) ?_
              exact ih0 v21 (zB.wk (a' := 0) (b' := 3073) b21x (by decide) (by decide)) g20 hI20 hF20 (by intro n j hn; exact ((hF20q 6 n j rfl)).trans (((hp9_0 n j hn)).trans (hR6_0 n j hn))) (by omega)
            · skip
              have b22x : zB v17 1 1 := by have q1 := b17x; have q2 := (zB.of (x := 0) 0 (by decide)); simp only [z32lt, z32le, z32eq, Int32.reduceToInt, Int32.toInt_zero] at h54_17; constructor <;> omega
              refine z_iload_n (pc := 57) C dX5_find_57 rfl ?_
              exact z_iret (pc := 58) C hr dX5_find_58 ⟨⟨_, rfl, (zB.wk (a' := (-4)) (b' := 3072) b3x (by decide) (by decide))⟩, hI9, hF9, (by intro v hv; cases hv; intro n j hn; exact ((hp9_0 n j hn)).trans (hR6_0 n j hn))⟩
  have J0 := J 9234
  show Z X 0 [some (zr 13 0), some (zi a1), some (zi a2), none] [] f
  refine z_aload_n (pc := 0) C dX5_find_0 rfl ?_
  refine z_callV (pc := 1) C zk_X5_35 (w_X5_begin _ _  hI) rfl rfl (by decide) rfl rfl (Nat.le_of_ble_eq_true rfl) dX5_find_1 (fun r23 g23 q23 => ?_)
  obtain ⟨rfl, hI23, hF23q⟩ := q23
  have hF23 := zFr.tr hF hF23q (by decide)
  simp only [Option.toList, List.cons_append, List.nil_append]
  refine z_iconst (pc := 4) (v := 0) C dX5_find_4 (by decide) ?_
  refine z_istore_n (pc := 5) C dX5_find_5 (by rw [hn]; decide) rfl ?_
  exact J0 0 (zB.wk (a' := 0) (b' := 3073) (zB.of (x := 0) 0 (by decide)) (by decide) (by decide)) g23 hI23 hF23 (by intro n j hn; exact ((hF23q 6 n j rfl)).trans (rfl)) (by have qc0 : (0 : Int32).toInt = 0 := (by decide); omega)

set_option maxRecDepth 100000 in
set_option maxHeartbeats 4000000 in
theorem x_X5_reach (d : Nat) (f : zM)  (hI : zInv f) : ZM (d + 3) yX5_reach cX5_reach 3 (some .int) [zr 13 0] f (fun r g => (∃ v, r = some (zi v) ∧ zB v 0 63) ∧ zInv g ∧ zFr [(6, some 1), (6, some 4), (6, some 5), (6, some 6), (13, some 6), (13, some 7), (14, none), (15, none), (16, none)] f g ∧ (∀ v : Int32, r = some (zi v) → (∀ n j, n ≠ 2 → g 6 n j = f 6 n j))) := by
  refine ZM.intro (by decide +kernel) (Nat.le_of_ble_eq_true rfl) ?_
  intro X C hr hn
  have hF : zFr [(6, some 1), (6, some 4), (6, some 5), (6, some 6), (13, some 6), (13, some 7), (14, none), (15, none), (16, none)] f f := zFr.rf _ _
  have J : ∀ t : Nat, (∀ a8_1 : Int32, zB a8_1 0 63 → ∀ a8_2 : Int32, zB a8_2 0 3073 → ∀ g : zM, zInv g → zFr [(6, some 1), (6, some 4), (6, some 5), (6, some 6), (13, some 6), (13, some 7), (14, none), (15, none), (16, none)] f g → ((∀ n j, n ≠ 2 → g 6 n j = f 6 n j)) → (0 + 3 * (3073 - a8_2.toInt) : Int) < t → Z X 8 [some (zr 13 0), some (zi a8_1), some (zi a8_2)] [] g) := by
    intro t
    induction t with
    | zero =>
      intros; exfalso; omega
    | succ t ih =>
      have ih0 := ih
      intro a8_1 b8_1 a8_2 b8_2 g8_ hI8_ hF8_ hR8_0 hM8_
      refine z_iload_n (pc := 8) C dX5_reach_8 rfl ?_
      refine z_aload_n (pc := 9) C dX5_reach_9 rfl ?_
      refine z_getR (pc := 10) C zf_X5_22 rfl rfl (by decide) dX5_reach_10 ?_
      refine z_alenI (pc := 13) (v := 3073) C rfl (by decide) rfl dX5_reach_13 ?_
      refine z_icmp_ge (pc := 14) 53 C dX5_reach_14 (by decide) (fun h14_0 => ?_) (fun h14_0 => ?_)
      · skip
        have b2x : zB a8_2 3073 3073 := by have q1 := b8_2; have q2 := (zB.of (x := 3073) 3073 (by decide)); simp only [z32lt, z32le, z32eq, Int32.reduceToInt, Int32.toInt_zero] at h14_0; constructor <;> omega
        refine z_iload_n (pc := 53) C dX5_reach_53 rfl ?_
        exact z_iret (pc := 54) C hr dX5_reach_54 ⟨⟨_, rfl, b8_1⟩, hI8_, hF8_, (by intro v hv; cases hv; intro n j hn; exact hR8_0 n j hn)⟩
      · skip
        have b3x : zB a8_2 0 3072 := by have q1 := b8_2; have q2 := (zB.of (x := 3073) 3073 (by decide)); simp only [z32lt, z32le, z32eq, Int32.reduceToInt, Int32.toInt_zero] at h14_0; constructor <;> omega
        refine z_iload_n (pc := 17) C dX5_reach_17 rfl ?_
        refine z_aload_n (pc := 18) C dX5_reach_18 rfl ?_
        refine z_getI (pc := 19) C zf_X5_38 rfl rfl (by decide) dX5_reach_19 ?_
        refine w_gp (fun v => v = g8_ 13 0 6) rfl (fun v5 q5 => ?_)
        have b5x : zB v5 0 3073 := by rw [q5]; exact (hI8_ 13 0 6)
        refine z_icmp_ge (pc := 22) 53 C dX5_reach_22 (by decide) (fun h22_5 => ?_) (fun h22_5 => ?_)
        · skip
          have b7x : zB v5 0 3072 := by have q1 := b3x; have q2 := b5x; simp only [z32lt, z32le, z32eq, Int32.reduceToInt, Int32.toInt_zero] at h22_5; constructor <;> omega
          refine z_iload_n (pc := 53) C dX5_reach_53 rfl ?_
          exact z_iret (pc := 54) C hr dX5_reach_54 ⟨⟨_, rfl, b8_1⟩, hI8_, hF8_, (by intro v hv; cases hv; intro n j hn; exact hR8_0 n j hn)⟩
        · skip
          have b8x : zB v5 1 3073 := by have q1 := b3x; have q2 := b5x; simp only [z32lt, z32le, z32eq, Int32.reduceToInt, Int32.toInt_zero] at h22_5; constructor <;> omega
          refine z_aload_n (pc := 25) C dX5_reach_25 rfl ?_
          refine z_iload_n (pc := 26) C dX5_reach_26 rfl ?_
          refine z_callV (pc := 27) C zk_X5_42 (x_X5_placeWalker _ _ a8_2 b3x hI8_) rfl rfl (by decide) rfl rfl (Nat.le_of_ble_eq_true rfl) dX5_reach_27 (fun r9 g9 q9 => ?_)
          obtain ⟨rfl, hI9, hF9q, hp9_0⟩ := q9
          have hF9 := zFr.tr hF8_ hF9q (by decide)
          simp only [Option.toList, List.cons_append, List.nil_append]
          refine z_iload_n (pc := 30) C dX5_reach_30 rfl ?_
          refine z_iconst (pc := 31) (v := 1) C dX5_reach_31 (by decide) ?_
          refine z_aload_n (pc := 32) C dX5_reach_32 rfl ?_
          refine z_getR (pc := 33) C zf_X5_12 rfl rfl (by decide) dX5_reach_33 ?_
          refine z_getI (pc := 36) C zf_X5_46 rfl rfl (by decide) dX5_reach_36 ?_
          refine w_gp (fun v => v = g9 6 2 1) rfl (fun v11 q11 => ?_)
          have b11x : zB v11 0 5 := by rw [q11]; exact (hI9 6 2 1)
          refine z_ishl (pc := 39) C dX5_reach_39 ?_
          refine w_gp (fun v => v = (1 : Int32) <<< (v11 &&& 31)) rfl (fun v12 q12 => ?_)
          have b12x : zB v12 0 32 := by rw [q12]; exact (zshl_b b11x 5 (by decide) (by decide))
          refine z_ior (pc := 40) C dX5_reach_40 ?_
          refine w_gp (fun v => v = a8_1 ||| v12) rfl (fun v13 q13 => ?_)
          have b13x : zB v13 0 63 := by rw [q13]; exact (zor_b 6 b8_1 b12x (by decide) (by decide) (by decide) (by decide) (by decide))
          refine z_istore_n (pc := 41) C dX5_reach_41 (by rw [hn]; decide) rfl ?_
          refine z_aload_n (pc := 42) C dX5_reach_42 rfl ?_
          refine z_iload_n (pc := 43) C dX5_reach_43 rfl ?_
          refine z_callV (pc := 44) C zk_X5_55 (w_X5_spread _ _ a8_2 b3x hI9) rfl rfl (by decide) rfl rfl (Nat.le_of_ble_eq_true rfl) dX5_reach_44 (fun r14 g14 q14 => ?_)
          obtain ⟨rfl, hI14, hF14q⟩ := q14
          have hF14 := zFr.tr hF9 hF14q (by decide)
          simp only [Option.toList, List.cons_append, List.nil_append]
          refine z_iinc (pc := 47) (v := 1) C dX5_reach_47 rfl (by decide) (by rw [hn]; decide) rfl ?_
          obtain ⟨v15, hv15, e15⟩ : ∃ v : Int32, v = a8_2 + 1 ∧ v.toInt = a8_2.toInt + 1 := ⟨_, rfl, zadd_eb b3x (zB.of (x := 1) 1 (by decide)) (by decide) (by decide)⟩
          rw [← hv15]
          have b15x : zB v15 1 3073 := by have q9 := b3x; constructor <;> omega
          refine z_goto (pc := 50) 8 C dX5_reach_50 (by decide) ?_
          exact ih0 v13 b13x v15 (zB.wk (a' := 0) (b' := 3073) b15x (by decide) (by decide)) g14 hI14 hF14 (by intro n j hn; exact ((hF14q 6 n j rfl)).trans (((hp9_0 n j hn)).trans (hR8_0 n j hn))) (by omega)
  have J0 := J 9234
  show Z X 0 [some (zr 13 0), none, none] [] f
  refine z_iconst (pc := 0) (v := 0) C dX5_reach_0 (by decide) ?_
  refine z_istore_n (pc := 1) C dX5_reach_1 (by rw [hn]; decide) rfl ?_
  refine z_aload_n (pc := 2) C dX5_reach_2 rfl ?_
  refine z_callV (pc := 3) C zk_X5_35 (w_X5_begin _ _  hI) rfl rfl (by decide) rfl rfl (Nat.le_of_ble_eq_true rfl) dX5_reach_3 (fun r16 g16 q16 => ?_)
  obtain ⟨rfl, hI16, hF16q⟩ := q16
  have hF16 := zFr.tr hF hF16q (by decide)
  simp only [Option.toList, List.cons_append, List.nil_append]
  refine z_iconst (pc := 6) (v := 0) C dX5_reach_6 (by decide) ?_
  refine z_istore_n (pc := 7) C dX5_reach_7 (by rw [hn]; decide) rfl ?_
  exact J0 0 (zB.wk (a' := 0) (b' := 63) (zB.of (x := 0) 0 (by decide)) (by decide) (by decide)) 0 (zB.wk (a' := 0) (b' := 3073) (zB.of (x := 0) 0 (by decide)) (by decide) (by decide)) g16 hI16 hF16 (by intro n j hn; exact ((hF16q 6 n j rfl)).trans (rfl)) (by have qc0 : (0 : Int32).toInt = 0 := (by decide); omega)

set_option maxRecDepth 100000 in
set_option maxHeartbeats 4000000 in
theorem x_X9_road (d : Nat) (f : zM) (a1 : Int32) (b1 : zB a1 (-2147483648) 2147483647) (a2 : Int32) (b2 : zB a2 (-2147483648) 2147483647) (a3 : Int32) (b3 : zB a3 (-2147483648) 2147483647) (hI : zInv f) : ZM (d + 4) yX9_road cX9_road 6 (some .int) [zr 0 0, zi a1, zi a2, zi a3] f (fun r g => (∃ v, r = some (zi v) ∧ zB v (-4) 3073) ∧ zInv g ∧ zFr [(6, some 1), (6, some 4), (6, some 5), (6, some 6), (11, some 8), (11, some 9), (13, some 6), (13, some 7), (14, none), (15, none), (16, none)] f g ∧ (∀ v : Int32, r = some (zi v) → (∀ n j, n ≠ 2 → g 6 n j = f 6 n j))) := by
  refine ZM.intro (by decide +kernel) (Nat.le_of_ble_eq_true rfl) ?_
  intro X C hr hn
  have hF : zFr [(6, some 1), (6, some 4), (6, some 5), (6, some 6), (11, some 8), (11, some 9), (13, some 6), (13, some 7), (14, none), (15, none), (16, none)] f f := zFr.rf _ _
  show Z X 0 [some (zr 0 0), some (zi a1), some (zi a2), some (zi a3), none, none] [] f
  refine z_iload_n (pc := 0) C dX9_road_0 rfl ?_
  refine z_callSb (pc := 1) C zk_X9_46 (m_X9_isLand _ _ _) rfl rfl (Nat.le_of_ble_eq_true rfl) dX9_road_1 (fun h1_0 => ?_) (fun h1_0 => ?_)
  · skip
    have b2x : zB a1 0 5 := h1_0
    refine z_if_eq (pc := 4) 20 C dX9_road_4 (by decide) (fun h => absurd h (by decide)) (fun _ => ?_)
    refine z_aload_n (pc := 7) C dX9_road_7 rfl ?_
    refine z_iload_n (pc := 8) C dX9_road_8 rfl ?_
    refine z_callVb (pc := 9) C zk_X9_179 (m_X9_isDeed _ _ _) rfl rfl (by decide) rfl rfl (Nat.le_of_ble_eq_true rfl) dX9_road_9 (fun h9_2 => ?_) (fun h9_2 => ?_)
    · skip
      have b4x : zB a2 0 7 := (zltc h9_2 (hI 1 0 6).2)
      refine z_if_eq (pc := 12) 20 C dX9_road_12 (by decide) (fun h => absurd h (by decide)) (fun _ => ?_)
      refine z_iload_n (pc := 15) C dX9_road_15 rfl ?_
      refine z_iconst (pc := 16) (v := -1) C dX9_road_16 (by decide) ?_
      refine z_icmp_ge (pc := 17) 22 C dX9_road_17 (by decide) (fun h17_4 => ?_) (fun h17_4 => ?_)
      · skip
        have b6x : zB a3 (-1) 2147483647 := by have q1 := b3; have q2 := (zB.of (x := (-1)) (-1) (by decide)); simp only [z32lt, z32le, z32eq, Int32.reduceToInt, Int32.toInt_zero] at h17_4; constructor <;> omega
        refine z_aload_n (pc := 22) C dX9_road_22 rfl ?_
        refine z_getR (pc := 23) C zf_X9_10 rfl rfl (by decide) dX9_road_23 ?_
        refine z_callV (pc := 26) C zk_X9_280 (w_X8_weighAll _ _  hI) rfl rfl (by decide) rfl rfl (Nat.le_of_ble_eq_true rfl) dX9_road_26 (fun r7 g7 q7 => ?_)
        obtain ⟨rfl, hI7, hF7q⟩ := q7
        have hF7 := zFr.tr hF hF7q (by decide)
        simp only [Option.toList, List.cons_append, List.nil_append]
        refine z_aload_n (pc := 29) C dX9_road_29 rfl ?_
        refine z_getR (pc := 30) C zf_X9_24 rfl rfl (by decide) dX9_road_30 ?_
        refine z_iload_n (pc := 33) C dX9_road_33 rfl ?_
        refine z_iload_n (pc := 34) C dX9_road_34 rfl ?_
        refine z_callV (pc := 35) C zk_X9_283 (x_X5_find _ _ a1 b2x a2 b4x hI7) rfl rfl (by decide) rfl rfl (Nat.le_of_ble_eq_true rfl) dX9_road_35 (fun r8 g8 q8 => ?_)
        obtain ⟨⟨v8, rfl, b8x⟩, hI8, hF8q, hp8_0⟩ := q8
        have hp8_0 := hp8_0 _ rfl
        have hF8 := zFr.tr hF7 hF8q (by decide)
        simp only [Option.toList, List.cons_append, List.nil_append]
        refine z_istore (pc := 38) C dX9_road_38 (by rw [hn]; decide) rfl ?_
        refine z_iload (pc := 40) C dX9_road_40 rfl ?_
        refine z_if_ge (pc := 42) 48 C dX9_road_42 (by decide) (fun h42_8 => ?_) (fun h42_8 => ?_)
        · skip
          have b10x : zB v8 0 3072 := by have q1 := b8x; have q2 := (zB.of (x := 0) 0 (by decide)); simp only [z32lt, z32le, z32eq, Int32.reduceToInt, Int32.toInt_zero] at h42_8; constructor <;> omega
          refine z_aload_n (pc := 48) C dX9_road_48 rfl ?_
          refine z_getR (pc := 49) C zf_X9_24 rfl rfl (by decide) dX9_road_49 ?_
          refine z_iload (pc := 52) C dX9_road_52 rfl ?_
          refine z_callV (pc := 54) C zk_X9_287 (w_X5_lengthTo _ _ v8 b10x hI8) rfl rfl (by decide) rfl rfl (Nat.le_of_ble_eq_true rfl) dX9_road_54 (fun r11 g11 q11 => ?_)
          obtain ⟨⟨v11, rfl, b11x⟩, hI11, hF11q⟩ := q11
          obtain rfl := zFr_nil hF11q
          simp only [Option.toList, List.cons_append, List.nil_append]
          refine z_istore (pc := 57) C dX9_road_57 (by rw [hn]; decide) rfl ?_
          refine z_iload_n (pc := 59) C dX9_road_59 rfl ?_
          refine z_iconst (pc := 60) (v := -1) C dX9_road_60 (by decide) ?_
          refine z_icmp_ne (pc := 61) 67 C dX9_road_61 (by decide) (fun h61_11 => ?_) (fun h61_11 => ?_)
          · skip
            have b13x : zB a3 0 2147483647 := by have q1 := b6x; have q2 := (zB.of (x := (-1)) (-1) (by decide)); simp only [z32lt, z32le, z32eq, Int32.reduceToInt, Int32.toInt_zero] at h61_11; constructor <;> omega
            refine z_iload_n (pc := 67) C dX9_road_67 rfl ?_
            refine z_iload (pc := 68) C dX9_road_68 rfl ?_
            refine z_icmp_ge (pc := 70) 91 C dX9_road_70 (by decide) (fun h70_13 => ?_) (fun h70_13 => ?_)
            · skip
              refine z_bipush (pc := 91) (v := -4) C dX9_road_91 (by decide) ?_
              exact z_iret (pc := 93) C hr dX9_road_93 ⟨⟨_, rfl, (zB.wk (a' := (-4)) (b' := 3073) (zB.of (x := (-4)) (-4) (by decide)) (by decide) (by decide))⟩, hI8, hF8, (by intro v hv; cases hv; intro n j hn; exact ((hp8_0 n j hn)).trans (((hF7q 6 n j rfl)).trans (rfl)))⟩
            · skip
              have b15x : zB a3 0 3072 := by have q1 := b13x; have q2 := b11x; simp only [z32lt, z32le, z32eq, Int32.reduceToInt, Int32.toInt_zero] at h70_13; constructor <;> omega
              have b16x : zB v11 1 3073 := by have q1 := b13x; have q2 := b11x; simp only [z32lt, z32le, z32eq, Int32.reduceToInt, Int32.toInt_zero] at h70_13; constructor <;> omega
              refine z_aload_n (pc := 73) C dX9_road_73 rfl ?_
              refine z_getR (pc := 74) C zf_X9_24 rfl rfl (by decide) dX9_road_74 ?_
              refine z_iload (pc := 77) C dX9_road_77 rfl ?_
              refine z_iload (pc := 79) C dX9_road_79 rfl ?_
              refine z_iconst (pc := 81) (v := 1) C dX9_road_81 (by decide) ?_
              refine z_isub (pc := 82) C dX9_road_82 ?_
              refine w_gp (fun v => v = v11 - (1 : Int32)) rfl (fun v17 q17 => ?_)
              have e17 : v17.toInt = v11.toInt - 1 := by rw [q17]; exact (zsub_eb b16x (zB.of (x := 1) 1 (by decide)) (by decide) (by decide))
              have b17x : zB v17 0 3072 := by have q1 := b16x; have q2 := (zB.of (x := 1) 1 (by decide)); constructor <;> omega
              refine z_iload_n (pc := 83) C dX9_road_83 rfl ?_
              refine z_isub (pc := 84) C dX9_road_84 ?_
              refine w_gp (fun v => v = v17 - a3) rfl (fun v18 q18 => ?_)
              have e18 : v18.toInt = v17.toInt - a3.toInt := by rw [q18]; exact (zsub_eb b17x b15x (by decide) (by decide))
              have b18x : zB v18 (-3072) 3072 := by have q1 := b17x; have q2 := b15x; constructor <;> omega
              refine z_callV (pc := 85) C zk_X9_290 (w_X5_paperOn _ _ v8 b10x v18 (zB.wk (a' := (-4000)) (b' := 4000) b18x (by decide) (by decide)) hI8) rfl rfl (by decide) rfl rfl (Nat.le_of_ble_eq_true rfl) dX9_road_85 (fun r19 g19 q19 => ?_)
              obtain ⟨⟨v19, rfl, b19x⟩, hI19, hF19q⟩ := q19
              obtain rfl := zFr_nil hF19q
              simp only [Option.toList, List.cons_append, List.nil_append]
              refine z_goto (pc := 88) 93 C dX9_road_88 (by decide) ?_
              exact z_iret (pc := 93) C hr dX9_road_93 ⟨⟨_, rfl, (zB.wk (a' := (-4)) (b' := 3073) b19x (by decide) (by decide))⟩, hI8, hF8, (by intro v hv; cases hv; intro n j hn; exact ((hp8_0 n j hn)).trans (((hF7q 6 n j rfl)).trans (rfl)))⟩
          · skip
            have b20x : zB a3 (-1) (-1) := by have q1 := b6x; have q2 := (zB.of (x := (-1)) (-1) (by decide)); simp only [z32lt, z32le, z32eq, Int32.reduceToInt, Int32.toInt_zero] at h61_11; constructor <;> omega
            refine z_iload (pc := 64) C dX9_road_64 rfl ?_
            exact z_iret (pc := 66) C hr dX9_road_66 ⟨⟨_, rfl, (zB.wk (a' := (-4)) (b' := 3073) b11x (by decide) (by decide))⟩, hI8, hF8, (by intro v hv; cases hv; intro n j hn; exact ((hp8_0 n j hn)).trans (((hF7q 6 n j rfl)).trans (rfl)))⟩
        · skip
          have b21x : zB v8 (-4) (-1) := by have q1 := b8x; have q2 := (zB.of (x := 0) 0 (by decide)); simp only [z32lt, z32le, z32eq, Int32.reduceToInt, Int32.toInt_zero] at h42_8; constructor <;> omega
          refine z_bipush (pc := 45) (v := -4) C dX9_road_45 (by decide) ?_
          exact z_iret (pc := 47) C hr dX9_road_47 ⟨⟨_, rfl, (zB.wk (a' := (-4)) (b' := 3073) (zB.of (x := (-4)) (-4) (by decide)) (by decide) (by decide))⟩, hI8, hF8, (by intro v hv; cases hv; intro n j hn; exact ((hp8_0 n j hn)).trans (((hF7q 6 n j rfl)).trans (rfl)))⟩
      · skip
        have b22x : zB a3 (-2147483648) (-2) := by have q1 := b3; have q2 := (zB.of (x := (-1)) (-1) (by decide)); simp only [z32lt, z32le, z32eq, Int32.reduceToInt, Int32.toInt_zero] at h17_4; constructor <;> omega
        refine z_iconst (pc := 20) (v := -1) C dX9_road_20 (by decide) ?_
        exact z_iret (pc := 21) C hr dX9_road_21 ⟨⟨_, rfl, (zB.wk (a' := (-4)) (b' := 3073) (zB.of (x := (-1)) (-1) (by decide)) (by decide) (by decide))⟩, hI, hF, (by intro v hv; cases hv; intro n j hn; exact rfl)⟩
    · skip
      refine z_if_eq (pc := 12) 20 C dX9_road_12 (by decide) (fun _ => ?_) (fun h => absurd (by decide) h)
      refine z_iconst (pc := 20) (v := -1) C dX9_road_20 (by decide) ?_
      exact z_iret (pc := 21) C hr dX9_road_21 ⟨⟨_, rfl, (zB.wk (a' := (-4)) (b' := 3073) (zB.of (x := (-1)) (-1) (by decide)) (by decide) (by decide))⟩, hI, hF, (by intro v hv; cases hv; intro n j hn; exact rfl)⟩
  · skip
    refine z_if_eq (pc := 4) 20 C dX9_road_4 (by decide) (fun _ => ?_) (fun h => absurd (by decide) h)
    refine z_iconst (pc := 20) (v := -1) C dX9_road_20 (by decide) ?_
    exact z_iret (pc := 21) C hr dX9_road_21 ⟨⟨_, rfl, (zB.wk (a' := (-4)) (b' := 3073) (zB.of (x := (-1)) (-1) (by decide)) (by decide) (by decide))⟩, hI, hF, (by intro v hv; cases hv; intro n j hn; exact rfl)⟩

set_option maxRecDepth 100000 in
set_option maxHeartbeats 4000000 in
theorem x_X9_lands (d : Nat) (f : zM)  (hI : zInv f) : ZM (d + 4) yX9_lands cX9_lands 1 (some .int) [zr 0 0] f (fun r g => (∃ v, r = some (zi v) ∧ zB v 0 63) ∧ zInv g ∧ zFr [(6, some 1), (6, some 4), (6, some 5), (6, some 6), (11, some 8), (11, some 9), (13, some 6), (13, some 7), (14, none), (15, none), (16, none)] f g ∧ (∀ v : Int32, r = some (zi v) → (∀ n j, n ≠ 2 → g 6 n j = f 6 n j))) := by
  refine ZM.intro (by decide +kernel) (Nat.le_of_ble_eq_true rfl) ?_
  intro X C hr hn
  have hF : zFr [(6, some 1), (6, some 4), (6, some 5), (6, some 6), (11, some 8), (11, some 9), (13, some 6), (13, some 7), (14, none), (15, none), (16, none)] f f := zFr.rf _ _
  show Z X 0 [some (zr 0 0)] [] f
  refine z_aload_n (pc := 0) C dX9_lands_0 rfl ?_
  refine z_getR (pc := 1) C zf_X9_10 rfl rfl (by decide) dX9_lands_1 ?_
  refine z_callV (pc := 4) C zk_X9_280 (w_X8_weighAll _ _  hI) rfl rfl (by decide) rfl rfl (Nat.le_of_ble_eq_true rfl) dX9_lands_4 (fun r1 g1 q1 => ?_)
  obtain ⟨rfl, hI1, hF1q⟩ := q1
  have hF1 := zFr.tr hF hF1q (by decide)
  simp only [Option.toList, List.cons_append, List.nil_append]
  refine z_aload_n (pc := 7) C dX9_lands_7 rfl ?_
  refine z_getR (pc := 8) C zf_X9_24 rfl rfl (by decide) dX9_lands_8 ?_
  refine z_callV (pc := 11) C zk_X9_293 (x_X5_reach _ _  hI1) rfl rfl (by decide) rfl rfl (Nat.le_of_ble_eq_true rfl) dX9_lands_11 (fun r2 g2 q2 => ?_)
  obtain ⟨⟨v2, rfl, b2x⟩, hI2, hF2q, hp2_0⟩ := q2
  have hp2_0 := hp2_0 _ rfl
  have hF2 := zFr.tr hF1 hF2q (by decide)
  simp only [Option.toList, List.cons_append, List.nil_append]
  exact z_iret (pc := 14) C hr dX9_lands_14 ⟨⟨_, rfl, b2x⟩, hI2, hF2, (by intro v hv; cases hv; intro n j hn; exact ((hp2_0 n j hn)).trans (((hF1q 6 n j rfl)).trans (rfl)))⟩
