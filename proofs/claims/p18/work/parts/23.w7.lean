set_option maxRecDepth 100000 in
set_option maxHeartbeats 4000000 in
theorem w_X10_ones (d : Nat) (f : zM) (a0 : Int32) (b0 : zB a0 0 63) (hI : zInv f) : ZM d yX10_ones cX10_ones 3 (some .int) [zi a0] f (fun r g => (∃ v, r = some (zi v) ∧ zB v 0 63) ∧ zInv g ∧ zFr [] f g) := by
  refine ZM.intro (by decide +kernel) (Nat.le_of_ble_eq_true rfl) ?_
  intro X C hr hn
  have hF : zFr [] f f := zFr.rf _ _
  have J : ∀ t : Nat, (∀ a4_1 : Int32, zB a4_1 0 63 → ∀ a4_2 : Int32, zB a4_2 0 63 → ∀ g : zM, zInv g → zFr [] f g → (a4_1.toInt + a4_2.toInt ≤ 63) → (0 + 3 * (a4_2.toInt - 0) : Int) < t → Z X 4 [some (zi a0), some (zi a4_1), some (zi a4_2)] [] g) := by
    intro t
    induction t with
    | zero =>
      intros; exfalso; omega
    | succ t ih =>
      have ih0 := ih
      intro a4_1 b4_1 a4_2 b4_2 g4_ hI4_ hF4_ hR4_0 hM4_
      refine z_iload_n (pc := 4) C dX10_ones_4 rfl ?_
      refine z_if_eq (pc := 5) 20 C dX10_ones_5 (by decide) (fun h5_0 => ?_) (fun h5_0 => ?_)
      · skip
        have b2x : zB a4_2 0 0 := by have q1 := b4_2; have q2 := (zB.of (x := 0) 0 (by decide)); simp only [z32lt, z32le, z32eq, Int32.reduceToInt, Int32.toInt_zero] at h5_0; constructor <;> omega
        refine z_iload_n (pc := 20) C dX10_ones_20 rfl ?_
        exact z_iret (pc := 21) C hr dX10_ones_21 ⟨⟨_, rfl, b4_1⟩, hI4_, hF4_⟩
      · skip
        have b3x : zB a4_2 1 63 := by have q1 := b4_2; have q2 := (zB.of (x := 0) 0 (by decide)); simp only [z32lt, z32le, z32eq, Int32.reduceToInt, Int32.toInt_zero] at h5_0; constructor <;> omega
        refine z_iinc (pc := 8) (v := 1) C dX10_ones_8 rfl (by decide) (by rw [hn]; decide) rfl ?_
        obtain ⟨v4, hv4, e4⟩ : ∃ v : Int32, v = a4_1 + 1 ∧ v.toInt = a4_1.toInt + 1 := ⟨_, rfl, zadd_eb b4_1 (zB.of (x := 1) 1 (by decide)) (by decide) (by decide)⟩
        rw [← hv4]
        have b4x : zB v4 1 64 := by have q9 := b4_1; constructor <;> omega
        refine z_iload_n (pc := 11) C dX10_ones_11 rfl ?_
        refine z_iload_n (pc := 12) C dX10_ones_12 rfl ?_
        refine z_iconst (pc := 13) (v := 1) C dX10_ones_13 (by decide) ?_
        refine z_isub (pc := 14) C dX10_ones_14 ?_
        refine w_gp (fun v => v.toInt = a4_2.toInt - 1) (zsub_eb b3x (zB.of (x := 1) 1 (by decide)) (by decide) (by decide)) (fun v5 e5 => ?_)
        have b5x : zB v5 0 62 := by have q1 := b3x; have q2 := (zB.of (x := 1) 1 (by decide)); constructor <;> omega
        refine z_iand (pc := 15) C dX10_ones_15 ?_
        refine w_gp (fun v => zB v 0 62 ∧ v.toInt ≤ v5.toInt) (zand_r b3x b5x (by decide)) (fun v6 e6 => ?_)
        have b6x := e6.1
        have r6 := e6.2
        refine z_istore_n (pc := 16) C dX10_ones_16 (by rw [hn]; decide) rfl ?_
        refine z_goto (pc := 17) 4 C dX10_ones_17 (by decide) ?_
        exact ih0 v4 (by constructor <;> omega) v6 (zB.wk (a' := 0) (b' := 63) b6x (by decide) (by decide)) g4_ hI4_ hF4_ (by omega) (by omega)
  have J0 := J 204
  show Z X 0 [some (zi a0), none, none] [] f
  refine z_iconst (pc := 0) (v := 0) C dX10_ones_0 (by decide) ?_
  refine z_istore_n (pc := 1) C dX10_ones_1 (by rw [hn]; decide) rfl ?_
  refine z_iload_n (pc := 2) C dX10_ones_2 rfl ?_
  refine z_istore_n (pc := 3) C dX10_ones_3 (by rw [hn]; decide) rfl ?_
  exact J0 0 (zB.wk (a' := 0) (b' := 63) (zB.of (x := 0) 0 (by decide)) (by decide) (by decide)) a0 b0 f hI hF (by have qc0 : (0 : Int32).toInt = 0 := (by decide); omega) (by have qc0 : (0 : Int32).toInt = 0 := (by decide); omega)

set_option maxRecDepth 100000 in
set_option maxHeartbeats 4000000 in
theorem w_X10_paper (d : Nat) (f : zM) (a1 : Int32) (b1 : zB a1 (-2147483648) 2147483647) (a2 : Int32) (b2 : zB a2 (-2147483648) 2147483647) (hI : zInv f) : ZM (d + 2) yX10_paper cX10_paper 5 (some .int) [zr 25 0, zi a1, zi a2] f (fun r g => (∃ v, r = some (zi v) ∧ zB v (-2147483648) 2147483647) ∧ zInv g ∧ zFr [] f g) := by
  refine ZM.intro (by decide +kernel) (Nat.le_of_ble_eq_true rfl) ?_
  intro X C hr hn
  have hF : zFr [] f f := zFr.rf _ _
  have J : ∀ t : Nat, (∀ g : zM, zInv g → zFr [] f g → (5 : Int) < t → Z X 20 [some (zr 25 0), some (zi a1), some (zi a2), none, none] [] g) ∧ (zB a1 0 11 → zB a2 0 7 → ∀ a41_3 : Int32, zB a41_3 0 2 → ∀ g : zM, zInv g → zFr [] f g → (4 : Int) < t → Z X 41 [some (zr 25 0), some (zi a1), some (zi a2), some (zi a41_3), none] [] g) ∧ (zB a1 0 11 → zB a2 3 4 → ∀ a51_3 : Int32, zB a51_3 0 2 → ∀ g : zM, zInv g → zFr [] f g → (3 : Int) < t → Z X 51 [some (zr 25 0), some (zi a1), some (zi a2), some (zi a51_3), none] [] g) ∧ (zB a1 0 11 → zB a2 0 7 → ∀ a55_3 : Int32, zB a55_3 0 2 → ∀ g : zM, zInv g → zFr [] f g → (2 : Int) < t → Z X 55 [some (zr 25 0), some (zi a1), some (zi a2), some (zi a55_3), none] [] g) ∧ (zB a1 0 11 → zB a2 0 7 → ∀ a56_3 : Int32, zB a56_3 0 2 → ∀ a56_s0 : Int32, zB a56_s0 0 1 → ∀ g : zM, zInv g → zFr [] f g → (1 : Int) < t → Z X 56 [some (zr 25 0), some (zi a1), some (zi a2), some (zi a56_3), none] [zi a56_s0] g) ∧ (zB a1 0 11 → zB a2 0 7 → ∀ a79_3 : Int32, zB a79_3 0 2 → ∀ a79_4 : Int32, zB a79_4 0 1 → ∀ a79_s0 : Int32, zB a79_s0 (-2147483648) 2147483647 → ∀ g : zM, zInv g → zFr [] f g → (0 : Int) < t → Z X 79 [some (zr 25 0), some (zi a1), some (zi a2), some (zi a79_3), some (zi a79_4)] [zi a79_s0] g) := by
    intro t
    induction t with
    | zero =>
      refine ⟨?_, ?_, ?_, ?_, ?_, ?_⟩ <;> (intros; exfalso; omega)
    | succ t ih =>
      obtain ⟨ih0, ih1, ih2, ih3, ih4, ih5⟩ := ih
      refine ⟨?_, ?_, ?_, ?_, ?_, ?_⟩
      · skip
        intro g20_ hI20_ hF20_ hM20_
        refine z_iconst (pc := 20) (v := -1) C dX10_paper_20 (by decide) ?_
        exact z_iret (pc := 21) C hr dX10_paper_21 ⟨⟨_, rfl, (zB.wk (a' := (-2147483648)) (b' := 2147483647) (zB.of (x := (-1)) (-1) (by decide)) (by decide) (by decide))⟩, hI20_, hF20_⟩
      · skip
        intro b41_1 b41_2 a41_3 b41_3 g41_ hI41_ hF41_ hM41_
        refine z_iload_n (pc := 41) C dX10_paper_41 rfl ?_
        refine z_iconst (pc := 42) (v := 4) C dX10_paper_42 (by decide) ?_
        refine z_icmp_ne (pc := 43) 55 C dX10_paper_43 (by decide) (fun h43_0 => ?_) (fun h43_0 => ?_)
        · skip
          exact ih3 b41_1 b41_2 a41_3 b41_3 g41_ hI41_ hF41_  (by omega)
        · skip
          have b2x : zB a2 4 4 := by have q1 := b41_2; have q2 := (zB.of (x := 4) 4 (by decide)); simp only [z32lt, z32le, z32eq, Int32.reduceToInt, Int32.toInt_zero] at h43_0; constructor <;> omega
          refine z_iload_n (pc := 46) C dX10_paper_46 rfl ?_
          refine z_iconst (pc := 47) (v := 1) C dX10_paper_47 (by decide) ?_
          refine z_icmp_eq (pc := 48) 55 C dX10_paper_48 (by decide) (fun h48_2 => ?_) (fun h48_2 => ?_)
          · skip
            have b4x : zB a41_3 1 1 := by have q1 := b41_3; have q2 := (zB.of (x := 1) 1 (by decide)); simp only [z32lt, z32le, z32eq, Int32.reduceToInt, Int32.toInt_zero] at h48_2; constructor <;> omega
            exact ih3 b41_1 (zB.wk (a' := 0) (b' := 7) b2x (by decide) (by decide)) a41_3 (zB.wk (a' := 0) (b' := 2) b4x (by decide) (by decide)) g41_ hI41_ hF41_  (by omega)
          · skip
            exact ih2 b41_1 (zB.wk (a' := 3) (b' := 4) b2x (by decide) (by decide)) a41_3 b41_3 g41_ hI41_ hF41_  (by omega)
      · skip
        intro b51_1 b51_2 a51_3 b51_3 g51_ hI51_ hF51_ hM51_
        refine z_iconst (pc := 51) (v := 1) C dX10_paper_51 (by decide) ?_
        refine z_goto (pc := 52) 56 C dX10_paper_52 (by decide) ?_
        exact ih4 b51_1 (zB.wk (a' := 0) (b' := 7) b51_2 (by decide) (by decide)) a51_3 b51_3 1 (zB.wk (a' := 0) (b' := 1) (zB.of (x := 1) 1 (by decide)) (by decide) (by decide)) g51_ hI51_ hF51_  (by have qc0 : (1 : Int32).toInt = 1 := (by decide); omega)
      · skip
        intro b55_1 b55_2 a55_3 b55_3 g55_ hI55_ hF55_ hM55_
        refine z_iconst (pc := 55) (v := 0) C dX10_paper_55 (by decide) ?_
        exact ih4 b55_1 b55_2 a55_3 b55_3 0 (zB.wk (a' := 0) (b' := 1) (zB.of (x := 0) 0 (by decide)) (by decide) (by decide)) g55_ hI55_ hF55_  (by have qc0 : (0 : Int32).toInt = 0 := (by decide); omega)
      · skip
        intro b56_1 b56_2 a56_3 b56_3 a56_s0 b56_s0 g56_ hI56_ hF56_ hM56_
        refine z_istore (pc := 56) C dX10_paper_56 (by rw [hn]; decide) rfl ?_
        refine z_iload (pc := 58) C dX10_paper_58 rfl ?_
        refine z_if_eq (pc := 60) 68 C dX10_paper_60 (by decide) (fun h60_4 => ?_) (fun h60_4 => ?_)
        · skip
          have b6x : zB a56_s0 0 0 := by have q1 := b56_s0; have q2 := (zB.of (x := 0) 0 (by decide)); simp only [z32lt, z32le, z32eq, Int32.reduceToInt, Int32.toInt_zero] at h60_4; constructor <;> omega
          refine z_aload_n (pc := 68) C dX10_paper_68 rfl ?_
          refine z_getR (pc := 69) C zf_X10_16 rfl rfl (by decide) dX10_paper_69 ?_
          refine z_bipush (pc := 72) (v := 8) C dX10_paper_72 (by decide) ?_
          refine z_iload_n (pc := 74) C dX10_paper_74 rfl ?_
          refine z_imul (pc := 75) C dX10_paper_75 ?_
          refine w_gp (fun v => v.toInt = 8 * a1.toInt) (zmul_kb 8 (by decide) (by decide) b56_1 (by decide) (by decide)) (fun v7 e7 => ?_)
          have b7x : zB v7 0 88 := zmul_bb e7 (by decide) b56_1
          refine z_iload_n (pc := 76) C dX10_paper_76 rfl ?_
          refine z_iadd (pc := 77) C dX10_paper_77 ?_
          refine w_gp (fun v => v.toInt = v7.toInt + a2.toInt) (zadd_eb b7x b56_2 (by decide) (by decide)) (fun v8 e8 => ?_)
          have b8x : zB v8 0 95 := by have q1 := b7x; have q2 := b56_2; constructor <;> omega
          refine z_iald (pc := 78) C rfl (by decide) (zIx b8x (by decide) (by decide)) dX10_paper_78 ?_
          refine w_gb (-2147483648) 2147483647 (zB_any _) (fun v9 b9x => ?_)
          exact ih5 b56_1 b56_2 a56_3 b56_3 a56_s0 (zB.wk (a' := 0) (b' := 1) b6x (by decide) (by decide)) v9 b9x g56_ hI56_ hF56_  (by omega)
        · skip
          have b10x : zB a56_s0 1 1 := by have q1 := b56_s0; have q2 := (zB.of (x := 0) 0 (by decide)); simp only [z32lt, z32le, z32eq, Int32.reduceToInt, Int32.toInt_zero] at h60_4; constructor <;> omega
          refine z_bipush (pc := 63) (v := -12) C dX10_paper_63 (by decide) ?_
          refine z_goto (pc := 65) 79 C dX10_paper_65 (by decide) ?_
          exact ih5 b56_1 b56_2 a56_3 b56_3 a56_s0 (zB.wk (a' := 0) (b' := 1) b10x (by decide) (by decide)) (-12) (zB.wk (a' := (-2147483648)) (b' := 2147483647) (zB.of (x := (-12)) (-12) (by decide)) (by decide) (by decide)) g56_ hI56_ hF56_  (by have qc0 : ((-12) : Int32).toInt = (-12) := (by decide); omega)
      · skip
        intro b79_1 b79_2 a79_3 b79_3 a79_4 b79_4 a79_s0 b79_s0 g79_ hI79_ hF79_ hM79_
        exact z_iret (pc := 79) C hr dX10_paper_79 ⟨⟨_, rfl, b79_s0⟩, hI79_, hF79_⟩
  obtain ⟨J0, J1, J2, J3, J4, J5⟩ := J 17
  show Z X 0 [some (zr 25 0), some (zi a1), some (zi a2), none, none] [] f
  refine z_aload_n (pc := 0) C dX10_paper_0 rfl ?_
  refine z_iload_n (pc := 1) C dX10_paper_1 rfl ?_
  refine z_callVb (pc := 2) C zk_X10_109 (m_X10_isPaper _ _ _ hI) rfl rfl (by decide) rfl rfl (Nat.le_of_ble_eq_true rfl) dX10_paper_2 (fun h2_10 => ?_) (fun h2_10 => ?_)
  · skip
    have b12x : zB a1 0 11 := (zltc h2_10 (hI 25 0 4).2)
    refine z_if_eq (pc := 5) 20 C dX10_paper_5 (by decide) (fun h => absurd h (by decide)) (fun _ => ?_)
    refine z_iload_n (pc := 8) C dX10_paper_8 rfl ?_
    refine z_i2l (pc := 9) C dX10_paper_9 ?_
    refine z_lconst (pc := 10) (v := 0) C dX10_paper_10 (by decide) ?_
    refine z_ldc2 (pc := 11) C zw_1146 dX10_paper_11 ?_
    refine z_callSb (pc := 14) C zk_X10_69 (m_X10_in _ _ _ _ _) rfl rfl (Nat.le_of_ble_eq_true rfl) dX10_paper_14 (fun h14_12 => ?_) (fun h14_12 => ?_)
    · skip
      have b14x : zB a2 0 7 := zin64 h14_12 rfl rfl
      refine z_if_ne (pc := 17) 22 C dX10_paper_17 (by decide) (fun _ => ?_) (fun h => absurd h (by decide))
      refine z_aload_n (pc := 22) C dX10_paper_22 rfl ?_
      refine z_getR (pc := 23) C zf_X10_16 rfl rfl (by decide) dX10_paper_23 ?_
      refine z_bipush (pc := 26) (v := 8) C dX10_paper_26 (by decide) ?_
      refine z_iload_n (pc := 28) C dX10_paper_28 rfl ?_
      refine z_imul (pc := 29) C dX10_paper_29 ?_
      refine w_gp (fun v => v.toInt = 8 * a1.toInt) (zmul_kb 8 (by decide) (by decide) b12x (by decide) (by decide)) (fun v15 e15 => ?_)
      have b15x : zB v15 0 88 := zmul_bb e15 (by decide) b12x
      refine z_iald (pc := 30) C rfl (by decide) (zIx b15x (by decide) (by decide)) dX10_paper_30 ?_
      refine w_gb 0 2 (by have hq9 := hI 28 0 v15.toNatClampNeg; rw [zrg28 (r := 0) (by have hq : v15.toNatClampNeg = v15.toInt.toNat := rfl; have hq2 := b15x; omega)] at hq9; exact hq9) (fun v16 b16x => ?_)
      refine z_istore_n (pc := 31) C dX10_paper_31 (by rw [hn]; decide) rfl ?_
      refine z_iload_n (pc := 32) C dX10_paper_32 rfl ?_
      refine z_iconst (pc := 33) (v := 3) C dX10_paper_33 (by decide) ?_
      refine z_icmp_ne (pc := 34) 41 C dX10_paper_34 (by decide) (fun h34_16 => ?_) (fun h34_16 => ?_)
      · skip
        exact J1 b12x b14x v16 b16x f hI hF  (by omega)
      · skip
        have b18x : zB a2 3 3 := by have q1 := b14x; have q2 := (zB.of (x := 3) 3 (by decide)); simp only [z32lt, z32le, z32eq, Int32.reduceToInt, Int32.toInt_zero] at h34_16; constructor <;> omega
        refine z_iload_n (pc := 37) C dX10_paper_37 rfl ?_
        refine z_if_ne (pc := 38) 51 C dX10_paper_38 (by decide) (fun h38_18 => ?_) (fun h38_18 => ?_)
        · skip
          have b20x : zB v16 1 2 := by have q1 := b16x; have q2 := (zB.of (x := 0) 0 (by decide)); simp only [z32lt, z32le, z32eq, Int32.reduceToInt, Int32.toInt_zero] at h38_18; constructor <;> omega
          exact J2 b12x (zB.wk (a' := 3) (b' := 4) b18x (by decide) (by decide)) v16 (zB.wk (a' := 0) (b' := 2) b20x (by decide) (by decide)) f hI hF  (by omega)
        · skip
          have b21x : zB v16 0 0 := by have q1 := b16x; have q2 := (zB.of (x := 0) 0 (by decide)); simp only [z32lt, z32le, z32eq, Int32.reduceToInt, Int32.toInt_zero] at h38_18; constructor <;> omega
          exact J1 b12x (zB.wk (a' := 0) (b' := 7) b18x (by decide) (by decide)) v16 (zB.wk (a' := 0) (b' := 2) b21x (by decide) (by decide)) f hI hF  (by omega)
    · skip
      refine z_if_ne (pc := 17) 22 C dX10_paper_17 (by decide) (fun h => absurd (by decide) h) (fun _ => ?_)
      exact J0  f hI hF  (by omega)
  · skip
    refine z_if_eq (pc := 5) 20 C dX10_paper_5 (by decide) (fun _ => ?_) (fun h => absurd (by decide) h)
    exact J0  f hI hF  (by omega)

set_option maxRecDepth 100000 in
set_option maxHeartbeats 4000000 in
theorem w_X10_safe (d : Nat) (f : zM) (a1 : Int32) (b1 : zB a1 (-2147483648) 2147483647) (hI : zInv f) : ZM (d + 5) yX10_safe cX10_safe 6 (some .int) [zr 25 0, zi a1] f (fun r g => (∃ v, r = some (zi v) ∧ zB v (-1) 63) ∧ zInv g ∧ zFr [(31, none)] f g) := by
  refine ZM.intro (by decide +kernel) (Nat.le_of_ble_eq_true rfl) ?_
  intro X C hr hn
  have hF : zFr [(31, none)] f f := zFr.rf _ _
  have J : ∀ t : Nat, (zB a1 0 1 → ∀ a20_2 : Int32, zB a20_2 0 63 → ∀ a20_3 : Int32, zB a20_3 0 6 → ∀ g : zM, zInv g → zFr [(31, none)] f g → (123 + 126 * (6 - a20_3.toInt) : Int) < t → Z X 20 [some (zr 25 0), some (zi a1), some (zi a20_2), some (zi a20_3), none, none] [] g) ∧ (zB a1 0 1 → ∀ a41_2 : Int32, zB a41_2 0 63 → ∀ a41_3 : Int32, zB a41_3 0 5 → ∀ g : zM, zInv g → zFr [(31, none)] f g → (122 + 126 * (6 - a41_3.toInt) : Int) < t → Z X 41 [some (zr 25 0), some (zi a1), some (zi a41_2), some (zi a41_3), none, none] [] g) ∧ (zB a1 0 1 → ∀ a46_2 : Int32, zB a46_2 0 63 → ∀ a46_3 : Int32, zB a46_3 0 5 → ∀ a46_s0 : Int32, zB a46_s0 0 1 → ∀ g : zM, zInv g → zFr [(31, none)] f g → (121 + 126 * (6 - a46_3.toInt) : Int) < t → Z X 46 [some (zr 25 0), some (zi a1), some (zi a46_2), some (zi a46_3), none, none] [zi a46_s0] g) ∧ (zB a1 0 1 → ∀ a51_2 : Int32, zB a51_2 0 63 → ∀ a51_3 : Int32, zB a51_3 0 5 → ∀ a51_4 : Int32, zB a51_4 0 1 → ∀ a51_5 : Int32, zB a51_5 0 12 → ∀ g : zM, zInv g → zFr [(31, none)] f g → (3 + 9 * (12 - a51_5.toInt) + 126 * (6 - a51_3.toInt) : Int) < t → Z X 51 [some (zr 25 0), some (zi a1), some (zi a51_2), some (zi a51_3), some (zi a51_4), some (zi a51_5)] [] g) ∧ (zB a1 0 1 → ∀ a86_2 : Int32, zB a86_2 0 63 → ∀ a86_3 : Int32, zB a86_3 0 5 → ∀ a86_4 : Int32, zB a86_4 1 1 → ∀ a86_5 : Int32, zB a86_5 0 11 → ∀ a86_s0 : Int32, zB a86_s0 0 1 → ∀ g : zM, zInv g → zFr [(31, none)] f g → (2 + 9 * (12 - a86_5.toInt) + 126 * (6 - a86_3.toInt) : Int) < t → Z X 86 [some (zr 25 0), some (zi a1), some (zi a86_2), some (zi a86_3), some (zi a86_4), some (zi a86_5)] [zi a86_s0] g) ∧ (zB a1 0 1 → ∀ a94_2 : Int32, zB a94_2 0 63 → ∀ a94_3 : Int32, zB a94_3 0 5 → ∀ a94_4 : Int32, zB a94_4 0 1 → ∀ a94_5 : Int32, zB a94_5 0 12 → ∀ g : zM, zInv g → zFr [(31, none)] f g → (1 + 126 * (6 - a94_3.toInt) : Int) < t → Z X 94 [some (zr 25 0), some (zi a1), some (zi a94_2), some (zi a94_3), some (zi a94_4), some (zi a94_5)] [] g) ∧ (zB a1 0 1 → ∀ a107_2 : Int32, zB a107_2 0 63 → ∀ a107_3 : Int32, zB a107_3 0 5 → ∀ a107_4 : Int32, zB a107_4 0 1 → ∀ a107_5 : Int32, zB a107_5 0 12 → ∀ a107_s0 : Int32, zB a107_s0 0 63 → ∀ a107_s1 : Int32, zB a107_s1 0 32 → ∀ g : zM, zInv g → zFr [(31, none)] f g → (0 + 126 * (6 - a107_3.toInt) : Int) < t → Z X 107 [some (zr 25 0), some (zi a1), some (zi a107_2), some (zi a107_3), some (zi a107_4), some (zi a107_5)] [zi a107_s1, zi a107_s0] g) := by
    intro t
    induction t with
    | zero =>
      refine ⟨?_, ?_, ?_, ?_, ?_, ?_, ?_⟩ <;> (intros; exfalso; omega)
    | succ t ih =>
      obtain ⟨ih0, ih1, ih2, ih3, ih4, ih5, ih6⟩ := ih
      refine ⟨?_, ?_, ?_, ?_, ?_, ?_, ?_⟩
      · skip
        intro b20_1 a20_2 b20_2 a20_3 b20_3 g20_ hI20_ hF20_ hM20_
        refine z_iload_n (pc := 20) C dX10_safe_20 rfl ?_
        refine z_bipush (pc := 21) (v := 6) C dX10_safe_21 (by decide) ?_
        refine z_icmp_ge (pc := 23) 115 C dX10_safe_23 (by decide) (fun h23_0 => ?_) (fun h23_0 => ?_)
        · skip
          have b2x : zB a20_3 6 6 := by have q1 := b20_3; have q2 := (zB.of (x := 6) 6 (by decide)); simp only [z32lt, z32le, z32eq, Int32.reduceToInt, Int32.toInt_zero] at h23_0; constructor <;> omega
          refine z_iload_n (pc := 115) C dX10_safe_115 rfl ?_
          exact z_iret (pc := 116) C hr dX10_safe_116 ⟨⟨_, rfl, (zB.wk (a' := (-1)) (b' := 63) b20_2 (by decide) (by decide))⟩, hI20_, hF20_⟩
        · skip
          have b3x : zB a20_3 0 5 := by have q1 := b20_3; have q2 := (zB.of (x := 6) 6 (by decide)); simp only [z32lt, z32le, z32eq, Int32.reduceToInt, Int32.toInt_zero] at h23_0; constructor <;> omega
          refine z_iload_n (pc := 26) C dX10_safe_26 rfl ?_
          refine z_if_eq (pc := 27) 41 C dX10_safe_27 (by decide) (fun h27_3 => ?_) (fun h27_3 => ?_)
          · skip
            have b5x : zB a1 0 0 := by have q1 := b20_1; have q2 := (zB.of (x := 0) 0 (by decide)); simp only [z32lt, z32le, z32eq, Int32.reduceToInt, Int32.toInt_zero] at h27_3; constructor <;> omega
            exact ih1 (zB.wk (a' := 0) (b' := 1) b5x (by decide) (by decide)) a20_2 b20_2 a20_3 b3x g20_ hI20_ hF20_  (by omega)
          · skip
            have b6x : zB a1 1 1 := by have q1 := b20_1; have q2 := (zB.of (x := 0) 0 (by decide)); simp only [z32lt, z32le, z32eq, Int32.reduceToInt, Int32.toInt_zero] at h27_3; constructor <;> omega
            refine z_aload_n (pc := 30) C dX10_safe_30 rfl ?_
            refine z_iload_n (pc := 31) C dX10_safe_31 rfl ?_
            refine z_sipush (pc := 32) (v := 255) C dX10_safe_32 (by decide) ?_
            refine z_callV (pc := 35) C zk_X10_165 (w_X10_triedAt _ _ a20_3 b3x 255 (zB.wk (a' := 0) (b' := 255) (zB.of (x := 255) 255 (by decide)) (by decide) (by decide)) hI20_) rfl rfl (by decide) rfl rfl (Nat.le_of_ble_eq_true rfl) dX10_safe_35 (fun r7 g7 q7 => ?_)
            obtain ⟨⟨v7, rfl, b7x⟩, hI7, hF7q⟩ := q7
            obtain rfl := zFr_nil hF7q
            simp only [Option.toList, List.cons_append, List.nil_append]
            refine z_if_ne (pc := 38) 45 C dX10_safe_38 (by decide) (fun h38_7 => ?_) (fun h38_7 => ?_)
            · skip
              have b9x : zB v7 1 255 := by have q1 := b7x; have q2 := (zB.of (x := 0) 0 (by decide)); simp only [z32lt, z32le, z32eq, Int32.reduceToInt, Int32.toInt_zero] at h38_7; constructor <;> omega
              refine z_iconst (pc := 45) (v := 0) C dX10_safe_45 (by decide) ?_
              exact ih2 (zB.wk (a' := 0) (b' := 1) b6x (by decide) (by decide)) a20_2 b20_2 a20_3 b3x 0 (zB.wk (a' := 0) (b' := 1) (zB.of (x := 0) 0 (by decide)) (by decide) (by decide)) g20_ hI20_ hF20_  (by have qc0 : (0 : Int32).toInt = 0 := (by decide); omega)
            · skip
              have b10x : zB v7 0 0 := by have q1 := b7x; have q2 := (zB.of (x := 0) 0 (by decide)); simp only [z32lt, z32le, z32eq, Int32.reduceToInt, Int32.toInt_zero] at h38_7; constructor <;> omega
              exact ih1 (zB.wk (a' := 0) (b' := 1) b6x (by decide) (by decide)) a20_2 b20_2 a20_3 b3x g20_ hI20_ hF20_  (by omega)
      · skip
        intro b41_1 a41_2 b41_2 a41_3 b41_3 g41_ hI41_ hF41_ hM41_
        refine z_iconst (pc := 41) (v := 1) C dX10_safe_41 (by decide) ?_
        refine z_goto (pc := 42) 46 C dX10_safe_42 (by decide) ?_
        exact ih2 b41_1 a41_2 b41_2 a41_3 b41_3 1 (zB.wk (a' := 0) (b' := 1) (zB.of (x := 1) 1 (by decide)) (by decide) (by decide)) g41_ hI41_ hF41_  (by have qc0 : (1 : Int32).toInt = 1 := (by decide); omega)
      · skip
        intro b46_1 a46_2 b46_2 a46_3 b46_3 a46_s0 b46_s0 g46_ hI46_ hF46_ hM46_
        refine z_istore (pc := 46) C dX10_safe_46 (by rw [hn]; decide) rfl ?_
        refine z_iconst (pc := 48) (v := 0) C dX10_safe_48 (by decide) ?_
        refine z_istore (pc := 49) C dX10_safe_49 (by rw [hn]; decide) rfl ?_
        exact ih3 b46_1 a46_2 b46_2 a46_3 b46_3 a46_s0 b46_s0 0 (zB.wk (a' := 0) (b' := 12) (zB.of (x := 0) 0 (by decide)) (by decide) (by decide)) g46_ hI46_ hF46_  (by have qc0 : (0 : Int32).toInt = 0 := (by decide); omega)
      · skip
        intro b51_1 a51_2 b51_2 a51_3 b51_3 a51_4 b51_4 a51_5 b51_5 g51_ hI51_ hF51_ hM51_
        refine z_iload (pc := 51) C dX10_safe_51 rfl ?_
        refine z_aload_n (pc := 53) C dX10_safe_53 rfl ?_
        refine z_getI (pc := 54) C zf_X10_77 rfl rfl (by decide) dX10_safe_54 ?_
        refine w_gb 0 12 (hI51_ 25 _ 4) (fun v11 b11x => ?_)
        refine z_icmp_ge (pc := 57) 94 C dX10_safe_57 (by decide) (fun h57_11 => ?_) (fun h57_11 => ?_)
        · skip
          exact ih5 b51_1 a51_2 b51_2 a51_3 b51_3 a51_4 b51_4 a51_5 b51_5 g51_ hI51_ hF51_  (by omega)
        · skip
          have b13x : zB a51_5 0 11 := by have q1 := b51_5; have q2 := b11x; simp only [z32lt, z32le, z32eq, Int32.reduceToInt, Int32.toInt_zero] at h57_11; constructor <;> omega
          have b14x : zB v11 1 12 := by have q1 := b51_5; have q2 := b11x; simp only [z32lt, z32le, z32eq, Int32.reduceToInt, Int32.toInt_zero] at h57_11; constructor <;> omega
          refine z_iload (pc := 60) C dX10_safe_60 rfl ?_
          refine z_if_eq (pc := 62) 94 C dX10_safe_62 (by decide) (fun h62_14 => ?_) (fun h62_14 => ?_)
          · skip
            have b16x : zB a51_4 0 0 := by have q1 := b51_4; have q2 := (zB.of (x := 0) 0 (by decide)); simp only [z32lt, z32le, z32eq, Int32.reduceToInt, Int32.toInt_zero] at h62_14; constructor <;> omega
            exact ih5 b51_1 a51_2 b51_2 a51_3 b51_3 a51_4 (zB.wk (a' := 0) (b' := 1) b16x (by decide) (by decide)) a51_5 (zB.wk (a' := 0) (b' := 12) b13x (by decide) (by decide)) g51_ hI51_ hF51_  (by omega)
          · skip
            have b17x : zB a51_4 1 1 := by have q1 := b51_4; have q2 := (zB.of (x := 0) 0 (by decide)); simp only [z32lt, z32le, z32eq, Int32.reduceToInt, Int32.toInt_zero] at h62_14; constructor <;> omega
            refine z_aload_n (pc := 65) C dX10_safe_65 rfl ?_
            refine z_iload (pc := 66) C dX10_safe_66 rfl ?_
            refine z_iload_n (pc := 68) C dX10_safe_68 rfl ?_
            refine z_iconst (pc := 69) (v := 0) C dX10_safe_69 (by decide) ?_
            refine z_bipush (pc := 70) (v := -4) C dX10_safe_70 (by decide) ?_
            refine z_sipush (pc := 72) (v := 255) C dX10_safe_72 (by decide) ?_
            refine z_callV (pc := 75) C zk_X10_147 (w_X10_goes _ _ a51_5 b13x a51_3 b51_3 0 (zB.wk (a' := 0) (b' := 1) (zB.of (x := 0) 0 (by decide)) (by decide) (by decide)) (-4) (zB.wk (a' := (-4)) (b' := 5) (zB.of (x := (-4)) (-4) (by decide)) (by decide) (by decide)) 255 (zB.wk (a' := 0) (b' := 255) (zB.of (x := 255) 255 (by decide)) (by decide) (by decide)) hI51_) rfl rfl (by decide) rfl rfl (Nat.le_of_ble_eq_true rfl) dX10_safe_75 (fun r18 g18 q18 => ?_)
            obtain ⟨⟨v18, rfl, b18x⟩, hI18, hF18q⟩ := q18
            obtain rfl := zFr_nil hF18q
            simp only [Option.toList, List.cons_append, List.nil_append]
            refine z_if_ne (pc := 78) 85 C dX10_safe_78 (by decide) (fun h78_18 => ?_) (fun h78_18 => ?_)
            · skip
              have b20x : zB v18 1 255 := by have q1 := b18x; have q2 := (zB.of (x := 0) 0 (by decide)); simp only [z32lt, z32le, z32eq, Int32.reduceToInt, Int32.toInt_zero] at h78_18; constructor <;> omega
              refine z_iconst (pc := 85) (v := 0) C dX10_safe_85 (by decide) ?_
              exact ih4 b51_1 a51_2 b51_2 a51_3 b51_3 a51_4 b17x a51_5 b13x 0 (zB.wk (a' := 0) (b' := 1) (zB.of (x := 0) 0 (by decide)) (by decide) (by decide)) g51_ hI51_ hF51_  (by have qc0 : (0 : Int32).toInt = 0 := (by decide); omega)
            · skip
              have b21x : zB v18 0 0 := by have q1 := b18x; have q2 := (zB.of (x := 0) 0 (by decide)); simp only [z32lt, z32le, z32eq, Int32.reduceToInt, Int32.toInt_zero] at h78_18; constructor <;> omega
              refine z_iconst (pc := 81) (v := 1) C dX10_safe_81 (by decide) ?_
              refine z_goto (pc := 82) 86 C dX10_safe_82 (by decide) ?_
              exact ih4 b51_1 a51_2 b51_2 a51_3 b51_3 a51_4 b17x a51_5 b13x 1 (zB.wk (a' := 0) (b' := 1) (zB.of (x := 1) 1 (by decide)) (by decide) (by decide)) g51_ hI51_ hF51_  (by have qc0 : (1 : Int32).toInt = 1 := (by decide); omega)
      · skip
        intro b86_1 a86_2 b86_2 a86_3 b86_3 a86_4 b86_4 a86_5 b86_5 a86_s0 b86_s0 g86_ hI86_ hF86_ hM86_
        refine z_istore (pc := 86) C dX10_safe_86 (by rw [hn]; decide) rfl ?_
        refine z_iinc (pc := 88) (v := 1) C dX10_safe_88 rfl (by decide) (by rw [hn]; decide) rfl ?_
        obtain ⟨v22, hv22, e22⟩ : ∃ v : Int32, v = a86_5 + 1 ∧ v.toInt = a86_5.toInt + 1 := ⟨_, rfl, zadd_eb b86_5 (zB.of (x := 1) 1 (by decide)) (by decide) (by decide)⟩
        rw [← hv22]
        have b22x : zB v22 1 12 := by have q9 := b86_5; constructor <;> omega
        refine z_goto (pc := 91) 51 C dX10_safe_91 (by decide) ?_
        exact ih3 b86_1 a86_2 b86_2 a86_3 b86_3 a86_s0 b86_s0 v22 (zB.wk (a' := 0) (b' := 12) b22x (by decide) (by decide)) g86_ hI86_ hF86_  (by omega)
      · skip
        intro b94_1 a94_2 b94_2 a94_3 b94_3 a94_4 b94_4 a94_5 b94_5 g94_ hI94_ hF94_ hM94_
        refine z_iload_n (pc := 94) C dX10_safe_94 rfl ?_
        refine z_iload (pc := 95) C dX10_safe_95 rfl ?_
        refine z_if_eq (pc := 97) 106 C dX10_safe_97 (by decide) (fun h97_22 => ?_) (fun h97_22 => ?_)
        · skip
          have b24x : zB a94_4 0 0 := by have q1 := b94_4; have q2 := (zB.of (x := 0) 0 (by decide)); simp only [z32lt, z32le, z32eq, Int32.reduceToInt, Int32.toInt_zero] at h97_22; constructor <;> omega
          refine z_iconst (pc := 106) (v := 0) C dX10_safe_106 (by decide) ?_
          exact ih6 b94_1 a94_2 b94_2 a94_3 b94_3 a94_4 (zB.wk (a' := 0) (b' := 1) b24x (by decide) (by decide)) a94_5 b94_5 a94_2 b94_2 0 (zB.wk (a' := 0) (b' := 32) (zB.of (x := 0) 0 (by decide)) (by decide) (by decide)) g94_ hI94_ hF94_  (by have qc0 : (0 : Int32).toInt = 0 := (by decide); omega)
        · skip
          have b25x : zB a94_4 1 1 := by have q1 := b94_4; have q2 := (zB.of (x := 0) 0 (by decide)); simp only [z32lt, z32le, z32eq, Int32.reduceToInt, Int32.toInt_zero] at h97_22; constructor <;> omega
          refine z_iconst (pc := 100) (v := 1) C dX10_safe_100 (by decide) ?_
          refine z_iload_n (pc := 101) C dX10_safe_101 rfl ?_
          refine z_ishl (pc := 102) C dX10_safe_102 ?_
          refine w_gb 0 32 (zshl_b b94_3 5 (by decide) (by decide)) (fun v26 b26x => ?_)
          refine z_goto (pc := 103) 107 C dX10_safe_103 (by decide) ?_
          exact ih6 b94_1 a94_2 b94_2 a94_3 b94_3 a94_4 (zB.wk (a' := 0) (b' := 1) b25x (by decide) (by decide)) a94_5 b94_5 a94_2 b94_2 v26 b26x g94_ hI94_ hF94_  (by omega)
      · skip
        intro b107_1 a107_2 b107_2 a107_3 b107_3 a107_4 b107_4 a107_5 b107_5 a107_s0 b107_s0 a107_s1 b107_s1 g107_ hI107_ hF107_ hM107_
        refine z_ior (pc := 107) C dX10_safe_107 ?_
        refine w_gb 0 63 (zor_b 6 b107_s0 b107_s1 (by decide) (by decide) (by decide) (by decide) (by decide)) (fun v27 b27x => ?_)
        refine z_istore_n (pc := 108) C dX10_safe_108 (by rw [hn]; decide) rfl ?_
        refine z_iinc (pc := 109) (v := 1) C dX10_safe_109 rfl (by decide) (by rw [hn]; decide) rfl ?_
        obtain ⟨v28, hv28, e28⟩ : ∃ v : Int32, v = a107_3 + 1 ∧ v.toInt = a107_3.toInt + 1 := ⟨_, rfl, zadd_eb b107_3 (zB.of (x := 1) 1 (by decide)) (by decide) (by decide)⟩
        rw [← hv28]
        have b28x : zB v28 1 6 := by have q9 := b107_3; constructor <;> omega
        refine z_goto (pc := 112) 20 C dX10_safe_112 (by decide) ?_
        refine w_mask [4, 5] ?_
        exact ih0 b107_1 v27 b27x v28 (zB.wk (a' := 0) (b' := 6) b28x (by decide) (by decide)) g107_ hI107_ hF107_  (by omega)
  obtain ⟨J0, J1, J2, J3, J4, J5, J6⟩ := J 1017
  show Z X 0 [some (zr 25 0), some (zi a1), none, none, none, none] [] f
  refine z_iload_n (pc := 0) C dX10_safe_0 rfl ?_
  refine z_i2l (pc := 1) C dX10_safe_1 ?_
  refine z_lconst (pc := 2) (v := 0) C dX10_safe_2 (by decide) ?_
  refine z_lconst (pc := 3) (v := 1) C dX10_safe_3 (by decide) ?_
  refine z_callSb (pc := 4) C zk_X10_69 (m_X10_in _ _ _ _ _) rfl rfl (Nat.le_of_ble_eq_true rfl) dX10_safe_4 (fun h4_28 => ?_) (fun h4_28 => ?_)
  · skip
    have b30x : zB a1 0 1 := zin64 h4_28 rfl rfl
    refine z_if_ne (pc := 7) 12 C dX10_safe_7 (by decide) (fun _ => ?_) (fun h => absurd h (by decide))
    refine z_aload_n (pc := 12) C dX10_safe_12 rfl ?_
    refine z_callV (pc := 13) C zk_X10_151 (w_X10_findOpen _ _  hI) rfl rfl (by decide) rfl rfl (Nat.le_of_ble_eq_true rfl) dX10_safe_13 (fun r31 g31 q31 => ?_)
    obtain ⟨rfl, hI31, hF31q⟩ := q31
    have hF31 := zFr.tr hF hF31q (by decide)
    simp only [Option.toList, List.cons_append, List.nil_append]
    refine z_iconst (pc := 16) (v := 0) C dX10_safe_16 (by decide) ?_
    refine z_istore_n (pc := 17) C dX10_safe_17 (by rw [hn]; decide) rfl ?_
    refine z_iconst (pc := 18) (v := 0) C dX10_safe_18 (by decide) ?_
    refine z_istore_n (pc := 19) C dX10_safe_19 (by rw [hn]; decide) rfl ?_
    exact J0 b30x 0 (zB.wk (a' := 0) (b' := 63) (zB.of (x := 0) 0 (by decide)) (by decide) (by decide)) 0 (zB.wk (a' := 0) (b' := 6) (zB.of (x := 0) 0 (by decide)) (by decide) (by decide)) g31 hI31 hF31  (by have qc0 : (0 : Int32).toInt = 0 := (by decide); omega)
  · skip
    refine z_if_ne (pc := 7) 12 C dX10_safe_7 (by decide) (fun h => absurd (by decide) h) (fun _ => ?_)
    refine z_iconst (pc := 10) (v := -1) C dX10_safe_10 (by decide) ?_
    exact z_iret (pc := 11) C hr dX10_safe_11 ⟨⟨_, rfl, (zB.wk (a' := (-1)) (b' := 63) (zB.of (x := (-1)) (-1) (by decide)) (by decide) (by decide))⟩, hI, hF⟩

set_option maxRecDepth 100000 in
set_option maxHeartbeats 4000000 in
theorem w_X10_ahead (d : Nat) (f : zM) (a1 : Int32) (b1 : zB a1 (-2147483648) 2147483647) (hI : zInv f) : ZM (d + 9) yX10_ahead cX10_ahead 5 (some .int) [zr 25 0, zi a1] f (fun r g => (∃ v, r = some (zi v) ∧ zB v (-4) 7) ∧ zInv g ∧ zFr [(31, none)] f g) := by
  refine ZM.intro (by decide +kernel) (Nat.le_of_ble_eq_true rfl) ?_
  intro X C hr hn
  have hF : zFr [(31, none)] f f := zFr.rf _ _
  have J : ∀ t : Nat, (zB a1 0 2147483647 → ∀ a12_2 : Int32, zB a12_2 0 8 → ∀ g : zM, zInv g → zFr [(31, none)] f g → (67 + 70 * (8 - a12_2.toInt) : Int) < t → Z X 12 [some (zr 25 0), some (zi a1), some (zi a12_2), none, none] [] g) ∧ (zB a1 0 2147483647 → ∀ a25_2 : Int32, zB a25_2 0 7 → ∀ a25_3 : Int32, zB a25_3 (-2147483648) 2147483647 → ∀ a25_4 : Int32, zB a25_4 0 8 → ∀ g : zM, zInv g → zFr [(31, none)] f g → (3 + 7 * (8 - a25_4.toInt) + 70 * (8 - a25_2.toInt) : Int) < t → Z X 25 [some (zr 25 0), some (zi a1), some (zi a25_2), some (zi a25_3), some (zi a25_4)] [] g) ∧ (zB a1 0 2147483647 → ∀ a64_2 : Int32, zB a64_2 0 7 → ∀ a64_3 : Int32, zB a64_3 (-2147483648) 2147483647 → ∀ a64_4 : Int32, zB a64_4 0 7 → ∀ a64_s0 : Int32, zB a64_s0 (-2147483648) 2147483647 → ∀ g : zM, zInv g → zFr [(31, none)] f g → (2 + 7 * (8 - a64_4.toInt) + 70 * (8 - a64_2.toInt) : Int) < t → Z X 64 [some (zr 25 0), some (zi a1), some (zi a64_2), some (zi a64_3), some (zi a64_4)] [zi a64_s0] g) ∧ (zB a1 0 2147483647 → ∀ a65_2 : Int32, zB a65_2 0 7 → ∀ a65_3 : Int32, zB a65_3 (-2147483648) 2147483647 → ∀ a65_4 : Int32, zB a65_4 0 7 → ∀ a65_s0 : Int32, zB a65_s0 (-2147483648) 2147483647 → ∀ a65_s1 : Int32, zB a65_s1 0 1 → ∀ g : zM, zInv g → zFr [(31, none)] f g → (1 + 7 * (8 - a65_4.toInt) + 70 * (8 - a65_2.toInt) : Int) < t → Z X 65 [some (zr 25 0), some (zi a1), some (zi a65_2), some (zi a65_3), some (zi a65_4)] [zi a65_s1, zi a65_s0] g) ∧ (zB a1 0 2147483647 → ∀ a88_2 : Int32, zB a88_2 0 7 → ∀ a88_3 : Int32, zB a88_3 (-2147483648) 2147483647 → ∀ a88_4 : Int32, zB a88_4 0 8 → ∀ g : zM, zInv g → zFr [(31, none)] f g → (0 + 70 * (8 - a88_2.toInt) : Int) < t → Z X 88 [some (zr 25 0), some (zi a1), some (zi a88_2), some (zi a88_3), some (zi a88_4)] [] g) := by
    intro t
    induction t with
    | zero =>
      refine ⟨?_, ?_, ?_, ?_, ?_⟩ <;> (intros; exfalso; omega)
    | succ t ih =>
      obtain ⟨ih0, ih1, ih2, ih3, ih4⟩ := ih
      refine ⟨?_, ?_, ?_, ?_, ?_⟩
      · skip
        intro b12_1 a12_2 b12_2 g12_ hI12_ hF12_ hM12_
        refine z_iload_n (pc := 12) C dX10_ahead_12 rfl ?_
        refine z_aload_n (pc := 13) C dX10_ahead_13 rfl ?_
        refine z_getI (pc := 14) C zf_X10_126 rfl rfl (by decide) dX10_ahead_14 ?_
        refine w_gb 0 8 (hI12_ 25 _ 6) (fun v1 b1x => ?_)
        refine z_icmp_ge (pc := 17) 94 C dX10_ahead_17 (by decide) (fun h17_1 => ?_) (fun h17_1 => ?_)
        · skip
          refine z_bipush (pc := 94) (v := -4) C dX10_ahead_94 (by decide) ?_
          exact z_iret (pc := 96) C hr dX10_ahead_96 ⟨⟨_, rfl, (zB.wk (a' := (-4)) (b' := 7) (zB.of (x := (-4)) (-4) (by decide)) (by decide) (by decide))⟩, hI12_, hF12_⟩
        · skip
          have b3x : zB a12_2 0 7 := by have q1 := b12_2; have q2 := b1x; simp only [z32lt, z32le, z32eq, Int32.reduceToInt, Int32.toInt_zero] at h17_1; constructor <;> omega
          have b4x : zB v1 1 8 := by have q1 := b12_2; have q2 := b1x; simp only [z32lt, z32le, z32eq, Int32.reduceToInt, Int32.toInt_zero] at h17_1; constructor <;> omega
          refine z_iconst (pc := 20) (v := 0) C dX10_ahead_20 (by decide) ?_
          refine z_istore_n (pc := 21) C dX10_ahead_21 (by rw [hn]; decide) rfl ?_
          refine z_iconst (pc := 22) (v := 0) C dX10_ahead_22 (by decide) ?_
          refine z_istore (pc := 23) C dX10_ahead_23 (by rw [hn]; decide) rfl ?_
          exact ih1 b12_1 a12_2 b3x 0 (zB.wk (a' := (-2147483648)) (b' := 2147483647) (zB.of (x := 0) 0 (by decide)) (by decide) (by decide)) 0 (zB.wk (a' := 0) (b' := 8) (zB.of (x := 0) 0 (by decide)) (by decide) (by decide)) g12_ hI12_ hF12_  (by have qc0 : (0 : Int32).toInt = 0 := (by decide); omega)
      · skip
        intro b25_1 a25_2 b25_2 a25_3 b25_3 a25_4 b25_4 g25_ hI25_ hF25_ hM25_
        refine z_iload (pc := 25) C dX10_ahead_25 rfl ?_
        refine z_aload_n (pc := 27) C dX10_ahead_27 rfl ?_
        refine z_getI (pc := 28) C zf_X10_126 rfl rfl (by decide) dX10_ahead_28 ?_
        refine w_gb 0 8 (hI25_ 25 _ 6) (fun v5 b5x => ?_)
        refine z_icmp_ge (pc := 31) 73 C dX10_ahead_31 (by decide) (fun h31_5 => ?_) (fun h31_5 => ?_)
        · skip
          refine z_aload_n (pc := 73) C dX10_ahead_73 rfl ?_
          refine z_iload_n (pc := 74) C dX10_ahead_74 rfl ?_
          refine z_callV (pc := 75) C zk_X10_182 (w_X10_standsFor _ _ a25_2 b25_2 hI25_) rfl rfl (by decide) rfl rfl (Nat.le_of_ble_eq_true rfl) dX10_ahead_75 (fun r7 g7 q7 => ?_)
          obtain ⟨⟨v7, rfl, b7x⟩, hI7, hF7q⟩ := q7
          obtain rfl := zFr_nil hF7q
          simp only [Option.toList, List.cons_append, List.nil_append]
          refine z_if_eq (pc := 78) 88 C dX10_ahead_78 (by decide) (fun h78_7 => ?_) (fun h78_7 => ?_)
          · skip
            have b9x : zB v7 0 0 := by have q1 := b7x; have q2 := (zB.of (x := 0) 0 (by decide)); simp only [z32lt, z32le, z32eq, Int32.reduceToInt, Int32.toInt_zero] at h78_7; constructor <;> omega
            exact ih4 b25_1 a25_2 b25_2 a25_3 b25_3 a25_4 b25_4 g25_ hI25_ hF25_  (by omega)
          · skip
            have b10x : zB v7 1 255 := by have q1 := b7x; have q2 := (zB.of (x := 0) 0 (by decide)); simp only [z32lt, z32le, z32eq, Int32.reduceToInt, Int32.toInt_zero] at h78_7; constructor <;> omega
            refine z_iload_n (pc := 81) C dX10_ahead_81 rfl ?_
            refine z_iload_n (pc := 82) C dX10_ahead_82 rfl ?_
            refine z_icmp_ne (pc := 83) 88 C dX10_ahead_83 (by decide) (fun h83_10 => ?_) (fun h83_10 => ?_)
            · skip
              exact ih4 b25_1 a25_2 b25_2 a25_3 b25_3 a25_4 b25_4 g25_ hI25_ hF25_  (by omega)
            · skip
              have b12x : zB a25_3 0 2147483647 := by have q1 := b25_3; have q2 := b25_1; simp only [z32lt, z32le, z32eq, Int32.reduceToInt, Int32.toInt_zero] at h83_10; constructor <;> omega
              refine z_iload_n (pc := 86) C dX10_ahead_86 rfl ?_
              exact z_iret (pc := 87) C hr dX10_ahead_87 ⟨⟨_, rfl, (zB.wk (a' := (-4)) (b' := 7) b25_2 (by decide) (by decide))⟩, hI25_, hF25_⟩
        · skip
          have b13x : zB a25_4 0 7 := by have q1 := b25_4; have q2 := b5x; simp only [z32lt, z32le, z32eq, Int32.reduceToInt, Int32.toInt_zero] at h31_5; constructor <;> omega
          have b14x : zB v5 1 8 := by have q1 := b25_4; have q2 := b5x; simp only [z32lt, z32le, z32eq, Int32.reduceToInt, Int32.toInt_zero] at h31_5; constructor <;> omega
          refine z_iload_n (pc := 34) C dX10_ahead_34 rfl ?_
          refine z_iload (pc := 35) C dX10_ahead_35 rfl ?_
          refine z_iload_n (pc := 37) C dX10_ahead_37 rfl ?_
          refine z_icmp_eq (pc := 38) 64 C dX10_ahead_38 (by decide) (fun h38_14 => ?_) (fun h38_14 => ?_)
          · skip
            exact ih2 b25_1 a25_2 b25_2 a25_3 b25_3 a25_4 b13x a25_3 b25_3 g25_ hI25_ hF25_  (by omega)
          · skip
            refine z_aload_n (pc := 41) C dX10_ahead_41 rfl ?_
            refine z_iload (pc := 42) C dX10_ahead_42 rfl ?_
            refine z_callV (pc := 44) C zk_X10_182 (w_X10_standsFor _ _ a25_4 b13x hI25_) rfl rfl (by decide) rfl rfl (Nat.le_of_ble_eq_true rfl) dX10_ahead_44 (fun r16 g16 q16 => ?_)
            obtain ⟨⟨v16, rfl, b16x⟩, hI16, hF16q⟩ := q16
            obtain rfl := zFr_nil hF16q
            simp only [Option.toList, List.cons_append, List.nil_append]
            refine z_if_eq (pc := 47) 64 C dX10_ahead_47 (by decide) (fun h47_16 => ?_) (fun h47_16 => ?_)
            · skip
              have b18x : zB v16 0 0 := by have q1 := b16x; have q2 := (zB.of (x := 0) 0 (by decide)); simp only [z32lt, z32le, z32eq, Int32.reduceToInt, Int32.toInt_zero] at h47_16; constructor <;> omega
              exact ih2 b25_1 a25_2 b25_2 a25_3 b25_3 a25_4 b13x a25_3 b25_3 g25_ hI25_ hF25_  (by omega)
            · skip
              have b19x : zB v16 1 255 := by have q1 := b16x; have q2 := (zB.of (x := 0) 0 (by decide)); simp only [z32lt, z32le, z32eq, Int32.reduceToInt, Int32.toInt_zero] at h47_16; constructor <;> omega
              refine z_aload_n (pc := 50) C dX10_ahead_50 rfl ?_
              refine z_iload (pc := 51) C dX10_ahead_51 rfl ?_
              refine z_iload_n (pc := 53) C dX10_ahead_53 rfl ?_
              refine z_callV (pc := 54) C zk_X10_191 (w_X10_isAhead _ _ a25_4 b13x a25_2 b25_2 hI25_) rfl rfl (by decide) rfl rfl (Nat.le_of_ble_eq_true rfl) dX10_ahead_54 (fun r20 g20 q20 => ?_)
              obtain ⟨⟨v20, rfl, b20x⟩, hI20, hF20q⟩ := q20
              obtain rfl := zFr_nil hF20q
              simp only [Option.toList, List.cons_append, List.nil_append]
              refine z_if_eq (pc := 57) 64 C dX10_ahead_57 (by decide) (fun h57_20 => ?_) (fun h57_20 => ?_)
              · skip
                have b22x : zB v20 0 0 := by have q1 := b20x; have q2 := (zB.of (x := 0) 0 (by decide)); simp only [z32lt, z32le, z32eq, Int32.reduceToInt, Int32.toInt_zero] at h57_20; constructor <;> omega
                exact ih2 b25_1 a25_2 b25_2 a25_3 b25_3 a25_4 b13x a25_3 b25_3 g25_ hI25_ hF25_  (by omega)
              · skip
                have b23x : zB v20 1 1 := by have q1 := b20x; have q2 := (zB.of (x := 0) 0 (by decide)); simp only [z32lt, z32le, z32eq, Int32.reduceToInt, Int32.toInt_zero] at h57_20; constructor <;> omega
                refine z_iconst (pc := 60) (v := 1) C dX10_ahead_60 (by decide) ?_
                refine z_goto (pc := 61) 65 C dX10_ahead_61 (by decide) ?_
                exact ih3 b25_1 a25_2 b25_2 a25_3 b25_3 a25_4 b13x a25_3 b25_3 1 (zB.wk (a' := 0) (b' := 1) (zB.of (x := 1) 1 (by decide)) (by decide) (by decide)) g25_ hI25_ hF25_  (by have qc0 : (1 : Int32).toInt = 1 := (by decide); omega)
      · skip
        intro b64_1 a64_2 b64_2 a64_3 b64_3 a64_4 b64_4 a64_s0 b64_s0 g64_ hI64_ hF64_ hM64_
        refine z_iconst (pc := 64) (v := 0) C dX10_ahead_64 (by decide) ?_
        exact ih3 b64_1 a64_2 b64_2 a64_3 b64_3 a64_4 b64_4 a64_s0 b64_s0 0 (zB.wk (a' := 0) (b' := 1) (zB.of (x := 0) 0 (by decide)) (by decide) (by decide)) g64_ hI64_ hF64_  (by have qc0 : (0 : Int32).toInt = 0 := (by decide); omega)
      · skip
        intro b65_1 a65_2 b65_2 a65_3 b65_3 a65_4 b65_4 a65_s0 b65_s0 a65_s1 b65_s1 g65_ hI65_ hF65_ hM65_
        refine z_iadd (pc := 65) C dX10_ahead_65 ?_
        refine w_gb (-2147483648) 2147483647 (zB_any _) (fun v24 b24x => ?_)
        refine z_istore_n (pc := 66) C dX10_ahead_66 (by rw [hn]; decide) rfl ?_
        refine z_iinc (pc := 67) (v := 1) C dX10_ahead_67 rfl (by decide) (by rw [hn]; decide) rfl ?_
        obtain ⟨v25, hv25, e25⟩ : ∃ v : Int32, v = a65_4 + 1 ∧ v.toInt = a65_4.toInt + 1 := ⟨_, rfl, zadd_eb b65_4 (zB.of (x := 1) 1 (by decide)) (by decide) (by decide)⟩
        rw [← hv25]
        have b25x : zB v25 1 8 := by have q9 := b65_4; constructor <;> omega
        refine z_goto (pc := 70) 25 C dX10_ahead_70 (by decide) ?_
        exact ih1 b65_1 a65_2 b65_2 v24 b24x v25 (zB.wk (a' := 0) (b' := 8) b25x (by decide) (by decide)) g65_ hI65_ hF65_  (by omega)
      · skip
        intro b88_1 a88_2 b88_2 a88_3 b88_3 a88_4 b88_4 g88_ hI88_ hF88_ hM88_
        refine z_iinc (pc := 88) (v := 1) C dX10_ahead_88 rfl (by decide) (by rw [hn]; decide) rfl ?_
        obtain ⟨v26, hv26, e26⟩ : ∃ v : Int32, v = a88_2 + 1 ∧ v.toInt = a88_2.toInt + 1 := ⟨_, rfl, zadd_eb b88_2 (zB.of (x := 1) 1 (by decide)) (by decide) (by decide)⟩
        rw [← hv26]
        have b26x : zB v26 1 8 := by have q9 := b88_2; constructor <;> omega
        refine z_goto (pc := 91) 12 C dX10_ahead_91 (by decide) ?_
        refine w_mask [3, 4] ?_
        exact ih0 b88_1 v26 (zB.wk (a' := 0) (b' := 8) b26x (by decide) (by decide)) g88_ hI88_ hF88_  (by omega)
  obtain ⟨J0, J1, J2, J3, J4⟩ := J 709
  show Z X 0 [some (zr 25 0), some (zi a1), none, none, none] [] f
  refine z_iload_n (pc := 0) C dX10_ahead_0 rfl ?_
  refine z_if_ge (pc := 1) 6 C dX10_ahead_1 (by decide) (fun h1_26 => ?_) (fun h1_26 => ?_)
  · skip
    have b28x : zB a1 0 2147483647 := by have q1 := b1; have q2 := (zB.of (x := 0) 0 (by decide)); simp only [z32lt, z32le, z32eq, Int32.reduceToInt, Int32.toInt_zero] at h1_26; constructor <;> omega
    refine z_aload_n (pc := 6) C dX10_ahead_6 rfl ?_
    refine z_callV (pc := 7) C zk_X10_151 (w_X10_findOpen _ _  hI) rfl rfl (by decide) rfl rfl (Nat.le_of_ble_eq_true rfl) dX10_ahead_7 (fun r29 g29 q29 => ?_)
    obtain ⟨rfl, hI29, hF29q⟩ := q29
    have hF29 := zFr.tr hF hF29q (by decide)
    simp only [Option.toList, List.cons_append, List.nil_append]
    refine z_iconst (pc := 10) (v := 0) C dX10_ahead_10 (by decide) ?_
    refine z_istore_n (pc := 11) C dX10_ahead_11 (by rw [hn]; decide) rfl ?_
    exact J0 b28x 0 (zB.wk (a' := 0) (b' := 8) (zB.of (x := 0) 0 (by decide)) (by decide) (by decide)) g29 hI29 hF29  (by have qc0 : (0 : Int32).toInt = 0 := (by decide); omega)
  · skip
    have b30x : zB a1 (-2147483648) (-1) := by have q1 := b1; have q2 := (zB.of (x := 0) 0 (by decide)); simp only [z32lt, z32le, z32eq, Int32.reduceToInt, Int32.toInt_zero] at h1_26; constructor <;> omega
    refine z_iconst (pc := 4) (v := -1) C dX10_ahead_4 (by decide) ?_
    exact z_iret (pc := 5) C hr dX10_ahead_5 ⟨⟨_, rfl, (zB.wk (a' := (-4)) (b' := 7) (zB.of (x := (-1)) (-1) (by decide)) (by decide) (by decide))⟩, hI, hF⟩

set_option maxRecDepth 100000 in
set_option maxHeartbeats 4000000 in
theorem w_X10_promises (d : Nat) (f : zM) (a1 : Int32) (b1 : zB a1 (-2147483648) 2147483647) (a2 : Int32) (b2 : zB a2 (-2147483648) 2147483647) (hI : zInv f) : ZM (d + 6) yX10_promises cX10_promises 6 (some .int) [zr 25 0, zi a1, zi a2] f (fun r g => (∃ v, r = some (zi v) ∧ zB v (-4) 7) ∧ zInv g ∧ zFr [(31, none)] f g) := by
  refine ZM.intro (by decide +kernel) (Nat.le_of_ble_eq_true rfl) ?_
  intro X C hr hn
  have hF : zFr [(31, none)] f f := zFr.rf _ _
  have J : ∀ t : Nat, (∀ g : zM, zInv g → zFr [(31, none)] f g → (109 : Int) < t → Z X 15 [some (zr 25 0), some (zi a1), some (zi a2), none, none, none] [] g) ∧ (zB a1 0 5 → zB a2 0 7 → ∀ a27_3 : Int32, zB a27_3 (-4) 7 → ∀ a27_4 : Int32, zB a27_4 0 12 → ∀ g : zM, zInv g → zFr [(31, none)] f g → (4 + 8 * (12 - a27_4.toInt) : Int) < t → Z X 27 [some (zr 25 0), some (zi a1), some (zi a2), some (zi a27_3), some (zi a27_4), none] [] g) ∧ (zB a1 0 5 → zB a2 0 7 → ∀ a115_3 : Int32, zB a115_3 (-4) 7 → ∀ a115_4 : Int32, zB a115_4 0 11 → ∀ a115_5 : Int32, zB a115_5 0 7 → ∀ g : zM, zInv g → zFr [(31, none)] f g → (3 + 8 * (12 - a115_4.toInt) : Int) < t → Z X 115 [some (zr 25 0), some (zi a1), some (zi a2), some (zi a115_3), some (zi a115_4), some (zi a115_5)] [] g) ∧ (zB a1 0 5 → zB a2 0 7 → ∀ a120_3 : Int32, zB a120_3 0 7 → ∀ a120_4 : Int32, zB a120_4 0 11 → ∀ a120_5 : Int32, zB a120_5 0 7 → ∀ g : zM, zInv g → zFr [(31, none)] f g → (2 + 8 * (12 - a120_4.toInt) : Int) < t → Z X 120 [some (zr 25 0), some (zi a1), some (zi a2), some (zi a120_3), some (zi a120_4), some (zi a120_5)] [] g) ∧ (zB a1 0 5 → zB a2 0 7 → ∀ a121_3 : Int32, zB a121_3 (-4) 7 → ∀ a121_4 : Int32, zB a121_4 0 11 → ∀ a121_5 : Int32, zB a121_5 0 7 → ∀ a121_s0 : Int32, zB a121_s0 0 7 → ∀ g : zM, zInv g → zFr [(31, none)] f g → (1 + 8 * (12 - a121_4.toInt) : Int) < t → Z X 121 [some (zr 25 0), some (zi a1), some (zi a2), some (zi a121_3), some (zi a121_4), some (zi a121_5)] [zi a121_s0] g) ∧ (zB a1 0 5 → zB a2 0 7 → ∀ a122_3 : Int32, zB a122_3 (-4) 7 → ∀ a122_4 : Int32, zB a122_4 0 11 → ∀ a122_5 : Int32, zB a122_5 0 7 → ∀ g : zM, zInv g → zFr [(31, none)] f g → (0 + 8 * (12 - a122_4.toInt) : Int) < t → Z X 122 [some (zr 25 0), some (zi a1), some (zi a2), some (zi a122_3), some (zi a122_4), some (zi a122_5)] [] g) := by
    intro t
    induction t with
    | zero =>
      refine ⟨?_, ?_, ?_, ?_, ?_, ?_⟩ <;> (intros; exfalso; omega)
    | succ t ih =>
      obtain ⟨ih0, ih1, ih2, ih3, ih4, ih5⟩ := ih
      refine ⟨?_, ?_, ?_, ?_, ?_, ?_⟩
      · skip
        intro g15_ hI15_ hF15_ hM15_
        refine z_iconst (pc := 15) (v := -1) C dX10_promises_15 (by decide) ?_
        exact z_iret (pc := 16) C hr dX10_promises_16 ⟨⟨_, rfl, (zB.wk (a' := (-4)) (b' := 7) (zB.of (x := (-1)) (-1) (by decide)) (by decide) (by decide))⟩, hI15_, hF15_⟩
      · skip
        intro b27_1 b27_2 a27_3 b27_3 a27_4 b27_4 g27_ hI27_ hF27_ hM27_
        refine z_iload (pc := 27) C dX10_promises_27 rfl ?_
        refine z_aload_n (pc := 29) C dX10_promises_29 rfl ?_
        refine z_getI (pc := 30) C zf_X10_77 rfl rfl (by decide) dX10_promises_30 ?_
        refine w_gb 0 12 (hI27_ 25 _ 4) (fun v1 b1x => ?_)
        refine z_icmp_ge (pc := 33) 128 C dX10_promises_33 (by decide) (fun h33_1 => ?_) (fun h33_1 => ?_)
        · skip
          refine z_iload_n (pc := 128) C dX10_promises_128 rfl ?_
          exact z_iret (pc := 129) C hr dX10_promises_129 ⟨⟨_, rfl, b27_3⟩, hI27_, hF27_⟩
        · skip
          have b3x : zB a27_4 0 11 := by have q1 := b27_4; have q2 := b1x; simp only [z32lt, z32le, z32eq, Int32.reduceToInt, Int32.toInt_zero] at h33_1; constructor <;> omega
          have b4x : zB v1 1 12 := by have q1 := b27_4; have q2 := b1x; simp only [z32lt, z32le, z32eq, Int32.reduceToInt, Int32.toInt_zero] at h33_1; constructor <;> omega
          refine z_aload_n (pc := 36) C dX10_promises_36 rfl ?_
          refine z_getR (pc := 37) C zf_X10_16 rfl rfl (by decide) dX10_promises_37 ?_
          refine z_bipush (pc := 40) (v := 8) C dX10_promises_40 (by decide) ?_
          refine z_iload (pc := 42) C dX10_promises_42 rfl ?_
          refine z_imul (pc := 44) C dX10_promises_44 ?_
          refine w_gp (fun v => v.toInt = 8 * a27_4.toInt) (zmul_kb 8 (by decide) (by decide) b3x (by decide) (by decide)) (fun v5 e5 => ?_)
          have b5x : zB v5 0 88 := zmul_bb e5 (by decide) b3x
          refine z_bipush (pc := 45) (v := 7) C dX10_promises_45 (by decide) ?_
          refine z_iadd (pc := 47) C dX10_promises_47 ?_
          refine w_gp (fun v => v.toInt = v5.toInt + 7) (zadd_eb b5x (zB.of (x := 7) 7 (by decide)) (by decide) (by decide)) (fun v6 e6 => ?_)
          have b6x : zB v6 7 95 := by have q1 := b5x; have q2 := (zB.of (x := 7) 7 (by decide)); constructor <;> omega
          refine z_iald (pc := 48) C rfl (by decide) (zIx b6x (by decide) (by decide)) dX10_promises_48 ?_
          refine w_gb 0 7 (by have hq9 := hI27_ 28 0 v6.toNatClampNeg; rw [zrg28 (r := 7) (by have hq : v6.toNatClampNeg = v6.toInt.toNat := rfl; have hq2 := b6x; omega)] at hq9; exact hq9) (fun v7 b7x => ?_)
          refine z_istore (pc := 49) C dX10_promises_49 (by rw [hn]; decide) rfl ?_
          refine z_aload_n (pc := 51) C dX10_promises_51 rfl ?_
          refine z_getR (pc := 52) C zf_X10_16 rfl rfl (by decide) dX10_promises_52 ?_
          refine z_bipush (pc := 55) (v := 8) C dX10_promises_55 (by decide) ?_
          refine z_iload (pc := 57) C dX10_promises_57 rfl ?_
          refine z_imul (pc := 59) C dX10_promises_59 ?_
          refine w_gp (fun v => v.toInt = 8 * a27_4.toInt) (zmul_kb 8 (by decide) (by decide) b3x (by decide) (by decide)) (fun v8 e8 => ?_)
          have b8x : zB v8 0 88 := zmul_bb e8 (by decide) b3x
          refine z_iconst (pc := 60) (v := 2) C dX10_promises_60 (by decide) ?_
          refine z_iadd (pc := 61) C dX10_promises_61 ?_
          refine w_gp (fun v => v.toInt = v8.toInt + 2) (zadd_eb b8x (zB.of (x := 2) 2 (by decide)) (by decide) (by decide)) (fun v9 e9 => ?_)
          have b9x : zB v9 2 90 := by have q1 := b8x; have q2 := (zB.of (x := 2) 2 (by decide)); constructor <;> omega
          refine z_iald (pc := 62) C rfl (by decide) (zIx b9x (by decide) (by decide)) dX10_promises_62 ?_
          refine w_gb 0 5 (by have hq9 := hI27_ 28 0 v9.toNatClampNeg; rw [zrg28 (r := 2) (by have hq : v9.toNatClampNeg = v9.toInt.toNat := rfl; have hq2 := b9x; omega)] at hq9; exact hq9) (fun v10 b10x => ?_)
          refine z_iload_n (pc := 63) C dX10_promises_63 rfl ?_
          refine z_icmp_ne (pc := 64) 122 C dX10_promises_64 (by decide) (fun h64_10 => ?_) (fun h64_10 => ?_)
          · skip
            exact ih5 b27_1 b27_2 a27_3 b27_3 a27_4 b3x v7 b7x g27_ hI27_ hF27_  (by omega)
          · skip
            refine z_aload_n (pc := 67) C dX10_promises_67 rfl ?_
            refine z_iload (pc := 68) C dX10_promises_68 rfl ?_
            refine z_callV (pc := 70) C zk_X10_154 (w_X10_goesNow _ _ a27_4 b3x hI27_) rfl rfl (by decide) rfl rfl (Nat.le_of_ble_eq_true rfl) dX10_promises_70 (fun r12 g12 q12 => ?_)
            obtain ⟨⟨v12, rfl, b12x⟩, hI12, hF12q⟩ := q12
            obtain rfl := zFr_nil hF12q
            simp only [Option.toList, List.cons_append, List.nil_append]
            refine z_iload_n (pc := 73) C dX10_promises_73 rfl ?_
            refine z_ishr (pc := 74) C dX10_promises_74 ?_
            refine w_gb (-2147483648) 2147483647 (zB_any _) (fun v13 b13x => ?_)
            refine z_iconst (pc := 75) (v := 1) C dX10_promises_75 (by decide) ?_
            refine z_iand (pc := 76) C dX10_promises_76 ?_
            refine w_gb 0 1 (zand_b b13x (zB.of (x := 1) 1 (by decide)) (by decide)) (fun v14 b14x => ?_)
            refine z_iconst (pc := 77) (v := 1) C dX10_promises_77 (by decide) ?_
            refine z_icmp_ne (pc := 78) 122 C dX10_promises_78 (by decide) (fun h78_14 => ?_) (fun h78_14 => ?_)
            · skip
              have b16x : zB v14 0 0 := by have q1 := b14x; have q2 := (zB.of (x := 1) 1 (by decide)); simp only [z32lt, z32le, z32eq, Int32.reduceToInt, Int32.toInt_zero] at h78_14; constructor <;> omega
              exact ih5 b27_1 b27_2 a27_3 b27_3 a27_4 b3x v7 b7x g27_ hI27_ hF27_  (by omega)
            · skip
              have b17x : zB v14 1 1 := by have q1 := b14x; have q2 := (zB.of (x := 1) 1 (by decide)); simp only [z32lt, z32le, z32eq, Int32.reduceToInt, Int32.toInt_zero] at h78_14; constructor <;> omega
              refine z_iload_n (pc := 81) C dX10_promises_81 rfl ?_
              refine z_if_lt (pc := 82) 115 C dX10_promises_82 (by decide) (fun h82_17 => ?_) (fun h82_17 => ?_)
              · skip
                have b19x : zB a27_3 (-4) (-1) := by have q1 := b27_3; have q2 := (zB.of (x := 0) 0 (by decide)); simp only [z32lt, z32le, z32eq, Int32.reduceToInt, Int32.toInt_zero] at h82_17; constructor <;> omega
                exact ih2 b27_1 b27_2 a27_3 (zB.wk (a' := (-4)) (b' := 7) b19x (by decide) (by decide)) a27_4 b3x v7 b7x g27_ hI27_ hF27_  (by omega)
              · skip
                have b20x : zB a27_3 0 7 := by have q1 := b27_3; have q2 := (zB.of (x := 0) 0 (by decide)); simp only [z32lt, z32le, z32eq, Int32.reduceToInt, Int32.toInt_zero] at h82_17; constructor <;> omega
                refine z_iload (pc := 85) C dX10_promises_85 rfl ?_
                refine z_callS (pc := 87) C zk_X10_194 (w_X10_ones _ _ v7 (zB.wk (a' := 0) (b' := 63) b7x (by decide) (by decide)) hI27_) rfl rfl (Nat.le_of_ble_eq_true rfl) dX10_promises_87 (fun r21 g21 q21 => ?_)
                obtain ⟨⟨v21, rfl, b21x⟩, hI21, hF21q⟩ := q21
                obtain rfl := zFr_nil hF21q
                simp only [Option.toList, List.cons_append, List.nil_append]
                refine z_iload_n (pc := 90) C dX10_promises_90 rfl ?_
                refine z_callS (pc := 91) C zk_X10_194 (w_X10_ones _ _ a27_3 (zB.wk (a' := 0) (b' := 63) b20x (by decide) (by decide)) hI27_) rfl rfl (Nat.le_of_ble_eq_true rfl) dX10_promises_91 (fun r22 g22 q22 => ?_)
                obtain ⟨⟨v22, rfl, b22x⟩, hI22, hF22q⟩ := q22
                obtain rfl := zFr_nil hF22q
                simp only [Option.toList, List.cons_append, List.nil_append]
                refine z_icmp_lt (pc := 94) 115 C dX10_promises_94 (by decide) (fun h94_22 => ?_) (fun h94_22 => ?_)
                · skip
                  have b24x : zB v21 0 62 := by have q1 := b21x; have q2 := b22x; simp only [z32lt, z32le, z32eq, Int32.reduceToInt, Int32.toInt_zero] at h94_22; constructor <;> omega
                  have b25x : zB v22 1 63 := by have q1 := b21x; have q2 := b22x; simp only [z32lt, z32le, z32eq, Int32.reduceToInt, Int32.toInt_zero] at h94_22; constructor <;> omega
                  exact ih2 b27_1 b27_2 a27_3 (zB.wk (a' := (-4)) (b' := 7) b20x (by decide) (by decide)) a27_4 b3x v7 b7x g27_ hI27_ hF27_  (by omega)
                · skip
                  refine z_iload (pc := 97) C dX10_promises_97 rfl ?_
                  refine z_callS (pc := 99) C zk_X10_194 (w_X10_ones _ _ v7 (zB.wk (a' := 0) (b' := 63) b7x (by decide) (by decide)) hI27_) rfl rfl (Nat.le_of_ble_eq_true rfl) dX10_promises_99 (fun r26 g26 q26 => ?_)
                  obtain ⟨⟨v26, rfl, b26x⟩, hI26, hF26q⟩ := q26
                  obtain rfl := zFr_nil hF26q
                  simp only [Option.toList, List.cons_append, List.nil_append]
                  refine z_iload_n (pc := 102) C dX10_promises_102 rfl ?_
                  refine z_callS (pc := 103) C zk_X10_194 (w_X10_ones _ _ a27_3 (zB.wk (a' := 0) (b' := 63) b20x (by decide) (by decide)) hI27_) rfl rfl (Nat.le_of_ble_eq_true rfl) dX10_promises_103 (fun r27 g27 q27 => ?_)
                  obtain ⟨⟨v27, rfl, b27x⟩, hI27, hF27q⟩ := q27
                  obtain rfl := zFr_nil hF27q
                  simp only [Option.toList, List.cons_append, List.nil_append]
                  refine z_icmp_ne (pc := 106) 120 C dX10_promises_106 (by decide) (fun h106_27 => ?_) (fun h106_27 => ?_)
                  · skip
                    exact ih3 b27_1 b27_2 a27_3 b20x a27_4 b3x v7 b7x g27_ hI27_ hF27_  (by omega)
                  · skip
                    refine z_iload (pc := 109) C dX10_promises_109 rfl ?_
                    refine z_iload_n (pc := 111) C dX10_promises_111 rfl ?_
                    refine z_icmp_ge (pc := 112) 120 C dX10_promises_112 (by decide) (fun h112_28 => ?_) (fun h112_28 => ?_)
                    · skip
                      exact ih3 b27_1 b27_2 a27_3 b20x a27_4 b3x v7 b7x g27_ hI27_ hF27_  (by omega)
                    · skip
                      have b30x : zB v7 0 6 := by have q1 := b7x; have q2 := b20x; simp only [z32lt, z32le, z32eq, Int32.reduceToInt, Int32.toInt_zero] at h112_28; constructor <;> omega
                      have b31x : zB a27_3 1 7 := by have q1 := b7x; have q2 := b20x; simp only [z32lt, z32le, z32eq, Int32.reduceToInt, Int32.toInt_zero] at h112_28; constructor <;> omega
                      exact ih2 b27_1 b27_2 a27_3 (zB.wk (a' := (-4)) (b' := 7) b31x (by decide) (by decide)) a27_4 b3x v7 (zB.wk (a' := 0) (b' := 7) b30x (by decide) (by decide)) g27_ hI27_ hF27_  (by omega)
      · skip
        intro b115_1 b115_2 a115_3 b115_3 a115_4 b115_4 a115_5 b115_5 g115_ hI115_ hF115_ hM115_
        refine z_iload (pc := 115) C dX10_promises_115 rfl ?_
        refine z_goto (pc := 117) 121 C dX10_promises_117 (by decide) ?_
        exact ih4 b115_1 b115_2 a115_3 b115_3 a115_4 b115_4 a115_5 b115_5 a115_5 b115_5 g115_ hI115_ hF115_  (by omega)
      · skip
        intro b120_1 b120_2 a120_3 b120_3 a120_4 b120_4 a120_5 b120_5 g120_ hI120_ hF120_ hM120_
        refine z_iload_n (pc := 120) C dX10_promises_120 rfl ?_
        exact ih4 b120_1 b120_2 a120_3 (zB.wk (a' := (-4)) (b' := 7) b120_3 (by decide) (by decide)) a120_4 b120_4 a120_5 b120_5 a120_3 b120_3 g120_ hI120_ hF120_  (by omega)
      · skip
        intro b121_1 b121_2 a121_3 b121_3 a121_4 b121_4 a121_5 b121_5 a121_s0 b121_s0 g121_ hI121_ hF121_ hM121_
        refine z_istore_n (pc := 121) C dX10_promises_121 (by rw [hn]; decide) rfl ?_
        exact ih5 b121_1 b121_2 a121_s0 (zB.wk (a' := (-4)) (b' := 7) b121_s0 (by decide) (by decide)) a121_4 b121_4 a121_5 b121_5 g121_ hI121_ hF121_  (by omega)
      · skip
        intro b122_1 b122_2 a122_3 b122_3 a122_4 b122_4 a122_5 b122_5 g122_ hI122_ hF122_ hM122_
        refine z_iinc (pc := 122) (v := 1) C dX10_promises_122 rfl (by decide) (by rw [hn]; decide) rfl ?_
        obtain ⟨v32, hv32, e32⟩ : ∃ v : Int32, v = a122_4 + 1 ∧ v.toInt = a122_4.toInt + 1 := ⟨_, rfl, zadd_eb b122_4 (zB.of (x := 1) 1 (by decide)) (by decide) (by decide)⟩
        rw [← hv32]
        have b32x : zB v32 1 12 := by have q9 := b122_4; constructor <;> omega
        refine z_goto (pc := 125) 27 C dX10_promises_125 (by decide) ?_
        refine w_mask [5] ?_
        exact ih1 b122_1 b122_2 a122_3 b122_3 v32 (zB.wk (a' := 0) (b' := 12) b32x (by decide) (by decide)) g122_ hI122_ hF122_  (by omega)
  obtain ⟨J0, J1, J2, J3, J4, J5⟩ := J 121
  show Z X 0 [some (zr 25 0), some (zi a1), some (zi a2), none, none, none] [] f
  refine z_iload_n (pc := 0) C dX10_promises_0 rfl ?_
  refine z_callSb (pc := 1) C zk_X10_83 (m_X10_isLand _ _ _) rfl rfl (Nat.le_of_ble_eq_true rfl) dX10_promises_1 (fun h1_32 => ?_) (fun h1_32 => ?_)
  · skip
    have b34x : zB a1 0 5 := h1_32
    refine z_if_eq (pc := 4) 15 C dX10_promises_4 (by decide) (fun h => absurd h (by decide)) (fun _ => ?_)
    refine z_aload_n (pc := 7) C dX10_promises_7 rfl ?_
    refine z_iload_n (pc := 8) C dX10_promises_8 rfl ?_
    refine z_callVb (pc := 9) C zk_X10_120 (m_X10_isDeed _ _ _ hI) rfl rfl (by decide) rfl rfl (Nat.le_of_ble_eq_true rfl) dX10_promises_9 (fun h9_34 => ?_) (fun h9_34 => ?_)
    · skip
      have b36x : zB a2 0 7 := (zltc h9_34 (hI 25 0 2).2)
      refine z_if_ne (pc := 12) 17 C dX10_promises_12 (by decide) (fun _ => ?_) (fun h => absurd h (by decide))
      refine z_aload_n (pc := 17) C dX10_promises_17 rfl ?_
      refine z_callV (pc := 18) C zk_X10_151 (w_X10_findOpen _ _  hI) rfl rfl (by decide) rfl rfl (Nat.le_of_ble_eq_true rfl) dX10_promises_18 (fun r37 g37 q37 => ?_)
      obtain ⟨rfl, hI37, hF37q⟩ := q37
      have hF37 := zFr.tr hF hF37q (by decide)
      simp only [Option.toList, List.cons_append, List.nil_append]
      refine z_bipush (pc := 21) (v := -4) C dX10_promises_21 (by decide) ?_
      refine z_istore_n (pc := 23) C dX10_promises_23 (by rw [hn]; decide) rfl ?_
      refine z_iconst (pc := 24) (v := 0) C dX10_promises_24 (by decide) ?_
      refine z_istore (pc := 25) C dX10_promises_25 (by rw [hn]; decide) rfl ?_
      exact J1 b34x b36x (-4) (zB.wk (a' := (-4)) (b' := 7) (zB.of (x := (-4)) (-4) (by decide)) (by decide) (by decide)) 0 (zB.wk (a' := 0) (b' := 12) (zB.of (x := 0) 0 (by decide)) (by decide) (by decide)) g37 hI37 hF37  (by have qc0 : ((-4) : Int32).toInt = (-4) := (by decide); have qc1 : (0 : Int32).toInt = 0 := (by decide); omega)
    · skip
      refine z_if_ne (pc := 12) 17 C dX10_promises_12 (by decide) (fun h => absurd (by decide) h) (fun _ => ?_)
      exact J0  f hI hF  (by omega)
  · skip
    refine z_if_eq (pc := 4) 15 C dX10_promises_4 (by decide) (fun _ => ?_) (fun h => absurd (by decide) h)
    exact J0  f hI hF  (by omega)

set_option maxRecDepth 100000 in
set_option maxHeartbeats 4000000 in
theorem w_X10_mended (d : Nat) (f : zM) (a1 : Int32) (b1 : zB a1 (-2147483648) 2147483647) (a2 : Int32) (b2 : zB a2 (-2147483648) 2147483647) (hI : zInv f) : ZM (d + 5) yX10_mended cX10_mended 9 (some .int) [zr 25 0, zi a1, zi a2] f (fun r g => (∃ v, r = some (zi v) ∧ zB v (-4) 9998) ∧ zInv g ∧ zFr [(35, none)] f g) := by
  refine ZM.intro (by decide +kernel) (Nat.le_of_ble_eq_true rfl) ?_
  intro X C hr hn
  have hF : zFr [(35, none)] f f := zFr.rf _ _
  have J : ∀ t : Nat, (∀ g : zM, zInv g → zFr [(35, none)] f g → (9143005 : Int) < t → Z X 15 [some (zr 25 0), some (zi a1), some (zi a2), none, none, none, none, none, none] [] g) ∧ (zB a1 0 5 → zB a2 0 7 → ∀ a35_3 : Int32, zB a35_3 0 12 → ∀ g : zM, zInv g → zFr [(35, none)] f g → (653068 + 653072 * (12 - a35_3.toInt) : Int) < t → Z X 35 [some (zr 25 0), some (zi a1), some (zi a2), some (zi a35_3), none, none, none, none, none] [] g) ∧ (zB a1 0 5 → zB a2 0 7 → ∀ a90_3 : Int32, zB a90_3 0 11 → ∀ a90_s1 : Int32, zB a90_s1 0 11 → ∀ a90_s2 : Int32, zB a90_s2 0 9999 → ∀ g : zM, zInv g → zFr [(35, none)] f g → (653067 + 653072 * (12 - a90_3.toInt) : Int) < t → Z X 90 [some (zr 25 0), some (zi a1), some (zi a2), some (zi a90_3), none, none, none, none, none] [zi a90_s2, zi a90_s1, zr 35 0] g) ∧ (zB a1 0 5 → zB a2 0 7 → ∀ a99_3 : Int32, zB a99_3 0 12 → ∀ g : zM, zInv g → zFr [(35, none)] f g → (46642 + 46648 * (12 - a99_3.toInt) : Int) < t → Z X 99 [some (zr 25 0), some (zi a1), some (zi a2), some (zi a99_3), none, none, none, none, none] [] g) ∧ (zB a1 0 5 → zB a2 0 7 → ∀ a110_3 : Int32, zB a110_3 0 11 → ∀ a110_4 : Int32, zB a110_4 0 12 → ∀ g : zM, zInv g → zFr [(35, none)] f g → (3325 + 3332 * (12 - a110_4.toInt) + 46648 * (12 - a110_3.toInt) : Int) < t → Z X 110 [some (zr 25 0), some (zi a1), some (zi a2), some (zi a110_3), some (zi a110_4), none, none, none, none] [] g) ∧ (zB a1 0 5 → zB a2 0 7 → ∀ a137_3 : Int32, zB a137_3 0 11 → ∀ a137_4 : Int32, zB a137_4 0 11 → ∀ a137_5 : Int32, zB a137_5 0 7 → ∀ a137_6 : Int32, zB a137_6 0 12 → ∀ g : zM, zInv g → zFr [(35, none)] f g → (230 + 238 * (12 - a137_6.toInt) + 3332 * (12 - a137_4.toInt) + 46648 * (12 - a137_3.toInt) : Int) < t → Z X 137 [some (zr 25 0), some (zi a1), some (zi a2), some (zi a137_3), some (zi a137_4), some (zi a137_5), some (zi a137_6), none, none] [] g) ∧ (zB a1 0 5 → zB a2 0 7 → ∀ a203_3 : Int32, zB a203_3 0 11 → ∀ a203_4 : Int32, zB a203_4 0 11 → ∀ a203_5 : Int32, zB a203_5 0 7 → ∀ a203_6 : Int32, zB a203_6 0 11 → ∀ a203_s1 : Int32, zB a203_s1 0 11 → ∀ a203_s2 : Int32, zB a203_s2 0 7 → ∀ a203_s3 : Int32, zB a203_s3 0 5 → ∀ a203_s4 : Int32, zB a203_s4 0 1 → ∀ a203_s5 : Int32, zB a203_s5 (-4) 5 → ∀ g : zM, zInv g → zFr [(35, none)] f g → (229 + 238 * (12 - a203_6.toInt) + 3332 * (12 - a203_4.toInt) + 46648 * (12 - a203_3.toInt) : Int) < t → Z X 203 [some (zr 25 0), some (zi a1), some (zi a2), some (zi a203_3), some (zi a203_4), some (zi a203_5), some (zi a203_6), none, none] [zi a203_s5, zi a203_s4, zi a203_s3, zi a203_s2, zi a203_s1, zr 25 0] g) ∧ (zB a1 0 5 → zB a2 0 7 → ∀ a256_3 : Int32, zB a256_3 0 11 → ∀ a256_4 : Int32, zB a256_4 0 11 → ∀ a256_5 : Int32, zB a256_5 0 7 → ∀ a256_6 : Int32, zB a256_6 0 11 → ∀ a256_7 : Int32, zB a256_7 0 1 → ∀ a256_8 : Int32, zB a256_8 0 20063 → ∀ a256_s1 : Int32, zB a256_s1 0 11 → ∀ g : zM, zInv g → zFr [(35, none)] f g → (228 + 238 * (12 - a256_6.toInt) + 3332 * (12 - a256_4.toInt) + 46648 * (12 - a256_3.toInt) : Int) < t → Z X 256 [some (zr 25 0), some (zi a1), some (zi a2), some (zi a256_3), some (zi a256_4), some (zi a256_5), some (zi a256_6), some (zi a256_7), some (zi a256_8)] [zi a256_s1, zr 35 0] g) ∧ (zB a1 0 5 → zB a2 0 7 → ∀ a263_3 : Int32, zB a263_3 0 11 → ∀ a263_4 : Int32, zB a263_4 0 11 → ∀ a263_5 : Int32, zB a263_5 0 7 → ∀ a263_6 : Int32, zB a263_6 0 11 → ∀ a263_7 : Int32, zB a263_7 0 1 → ∀ a263_8 : Int32, zB a263_8 0 20063 → ∀ a263_s1 : Int32, zB a263_s1 0 11 → ∀ a263_s2 : Int32, zB a263_s2 0 20000 → ∀ g : zM, zInv g → zFr [(35, none)] f g → (227 + 238 * (12 - a263_6.toInt) + 3332 * (12 - a263_4.toInt) + 46648 * (12 - a263_3.toInt) : Int) < t → Z X 263 [some (zr 25 0), some (zi a1), some (zi a2), some (zi a263_3), some (zi a263_4), some (zi a263_5), some (zi a263_6), some (zi a263_7), some (zi a263_8)] [zi a263_s2, zi a263_s1, zr 35 0] g) ∧ (zB a1 0 5 → zB a2 0 7 → ∀ a270_3 : Int32, zB a270_3 0 11 → ∀ a270_4 : Int32, zB a270_4 0 11 → ∀ a270_5 : Int32, zB a270_5 0 7 → ∀ a270_6 : Int32, zB a270_6 0 12 → ∀ g : zM, zInv g → zFr [(35, none)] f g → (226 + 3332 * (12 - a270_4.toInt) + 46648 * (12 - a270_3.toInt) : Int) < t → Z X 270 [some (zr 25 0), some (zi a1), some (zi a2), some (zi a270_3), some (zi a270_4), some (zi a270_5), some (zi a270_6), none, none] [] g) ∧ (zB a1 0 5 → zB a2 0 7 → ∀ a314_3 : Int32, zB a314_3 0 12 → ∀ a314_s0 : Int32, zB a314_s0 0 9999 → ∀ g : zM, zInv g → zFr [(35, none)] f g → (225 : Int) < t → Z X 314 [some (zr 25 0), some (zi a1), some (zi a2), some (zi a314_3), none, none, none, none, none] [zi a314_s0] g) ∧ (zB a1 0 5 → zB a2 0 7 → ∀ a318_3 : Int32, zB a318_3 0 20000 → ∀ a318_4 : Int32, zB a318_4 0 12 → ∀ g : zM, zInv g → zFr [(35, none)] f g → (3 + 17 * (12 - a318_4.toInt) : Int) < t → Z X 318 [some (zr 25 0), some (zi a1), some (zi a2), some (zi a318_3), some (zi a318_4), none, none, none, none] [] g) ∧ (zB a1 0 5 → zB a2 0 7 → ∀ a364_3 : Int32, zB a364_3 0 20000 → ∀ a364_4 : Int32, zB a364_4 0 11 → ∀ g : zM, zInv g → zFr [(35, none)] f g → (2 + 17 * (12 - a364_4.toInt) : Int) < t → Z X 364 [some (zr 25 0), some (zi a1), some (zi a2), some (zi a364_3), some (zi a364_4), none, none, none, none] [] g) ∧ (zB a1 0 5 → zB a2 0 7 → ∀ a365_3 : Int32, zB a365_3 0 20000 → ∀ a365_4 : Int32, zB a365_4 0 11 → ∀ a365_s0 : Int32, zB a365_s0 0 20000 → ∀ g : zM, zInv g → zFr [(35, none)] f g → (1 + 17 * (12 - a365_4.toInt) : Int) < t → Z X 365 [some (zr 25 0), some (zi a1), some (zi a2), some (zi a365_3), some (zi a365_4), none, none, none, none] [zi a365_s0] g) ∧ (zB a1 0 5 → zB a2 0 7 → ∀ a385_3 : Int32, zB a385_3 0 20000 → ∀ a385_4 : Int32, zB a385_4 0 12 → ∀ a385_s0 : Int32, zB a385_s0 (-4) 9998 → ∀ g : zM, zInv g → zFr [(35, none)] f g → (0 : Int) < t → Z X 385 [some (zr 25 0), some (zi a1), some (zi a2), some (zi a385_3), some (zi a385_4), none, none, none, none] [zi a385_s0] g) := by
    intro t
    induction t with
    | zero =>
      refine ⟨?_, ?_, ?_, ?_, ?_, ?_, ?_, ?_, ?_, ?_, ?_, ?_, ?_, ?_, ?_⟩ <;> (intros; exfalso; omega)
    | succ t ih =>
      obtain ⟨ih0, ih1, ih2, ih3, ih4, ih5, ih6, ih7, ih8, ih9, ih10, ih11, ih12, ih13, ih14⟩ := ih
      refine ⟨?_, ?_, ?_, ?_, ?_, ?_, ?_, ?_, ?_, ?_, ?_, ?_, ?_, ?_, ?_⟩
      · skip
        intro g15_ hI15_ hF15_ hM15_
        refine z_iconst (pc := 15) (v := -1) C dX10_mended_15 (by decide) ?_
        exact z_iret (pc := 16) C hr dX10_mended_16 ⟨⟨_, rfl, (zB.wk (a' := (-4)) (b' := 9998) (zB.of (x := (-1)) (-1) (by decide)) (by decide) (by decide))⟩, hI15_, hF15_⟩
      · skip
        intro b35_1 b35_2 a35_3 b35_3 g35_ hI35_ hF35_ hM35_
        refine z_iload_n (pc := 35) C dX10_mended_35 rfl ?_
        refine z_aload_n (pc := 36) C dX10_mended_36 rfl ?_
        refine z_getI (pc := 37) C zf_X10_77 rfl rfl (by decide) dX10_mended_37 ?_
        refine w_gb 0 12 (hI35_ 25 _ 4) (fun v1 b1x => ?_)
        refine z_icmp_ge (pc := 40) 97 C dX10_mended_40 (by decide) (fun h40_1 => ?_) (fun h40_1 => ?_)
        · skip
          refine z_iconst (pc := 97) (v := 0) C dX10_mended_97 (by decide) ?_
          refine z_istore_n (pc := 98) C dX10_mended_98 (by rw [hn]; decide) rfl ?_
          exact ih3 b35_1 b35_2 0 (zB.wk (a' := 0) (b' := 12) (zB.of (x := 0) 0 (by decide)) (by decide) (by decide)) g35_ hI35_ hF35_  (by have qc0 : (0 : Int32).toInt = 0 := (by decide); omega)
        · skip
          have b3x : zB a35_3 0 11 := by have q1 := b35_3; have q2 := b1x; simp only [z32lt, z32le, z32eq, Int32.reduceToInt, Int32.toInt_zero] at h40_1; constructor <;> omega
          have b4x : zB v1 1 12 := by have q1 := b35_3; have q2 := b1x; simp only [z32lt, z32le, z32eq, Int32.reduceToInt, Int32.toInt_zero] at h40_1; constructor <;> omega
          refine z_aload_n (pc := 43) C dX10_mended_43 rfl ?_
          refine z_getR (pc := 44) C zf_X10_37 rfl rfl (by decide) dX10_mended_44 ?_
          refine z_iload_n (pc := 47) C dX10_mended_47 rfl ?_
          refine z_aload_n (pc := 48) C dX10_mended_48 rfl ?_
          refine z_iload_n (pc := 49) C dX10_mended_49 rfl ?_
          refine z_iload_n (pc := 50) C dX10_mended_50 rfl ?_
          refine z_aload_n (pc := 51) C dX10_mended_51 rfl ?_
          refine z_getR (pc := 52) C zf_X10_22 rfl rfl (by decide) dX10_mended_52 ?_
          refine z_iconst (pc := 55) (v := 1) C dX10_mended_55 (by decide) ?_
          refine z_iald (pc := 56) C rfl (by decide) (zIx (zB.of (x := 1) 1 (by decide)) (by decide) (by decide)) dX10_mended_56 ?_
          refine w_gb 0 5 (hI35_ 30 _ 1) (fun v5 b5x => ?_)
          refine z_aload_n (pc := 57) C dX10_mended_57 rfl ?_
          refine z_getR (pc := 58) C zf_X10_22 rfl rfl (by decide) dX10_mended_58 ?_
          refine z_iconst (pc := 61) (v := 3) C dX10_mended_61 (by decide) ?_
          refine z_iald (pc := 62) C rfl (by decide) (zIx (zB.of (x := 3) 3 (by decide)) (by decide) (by decide)) dX10_mended_62 ?_
          refine w_gb 0 1 (hI35_ 30 _ 3) (fun v6 b6x => ?_)
          refine z_aload_n (pc := 63) C dX10_mended_63 rfl ?_
          refine z_getR (pc := 64) C zf_X10_22 rfl rfl (by decide) dX10_mended_64 ?_
          refine z_iconst (pc := 67) (v := 4) C dX10_mended_67 (by decide) ?_
          refine z_iald (pc := 68) C rfl (by decide) (zIx (zB.of (x := 4) 4 (by decide)) (by decide) (by decide)) dX10_mended_68 ?_
          refine w_gb (-4) 5 (hI35_ 30 _ 4) (fun v7 b7x => ?_)
          refine z_callV (pc := 69) C zk_X10_197 (w_X10_canFollow _ _ a35_3 b3x a2 b35_2 v5 b5x v6 b6x v7 b7x hI35_) rfl rfl (by decide) rfl rfl (Nat.le_of_ble_eq_true rfl) dX10_mended_69 (fun r8 g8 q8 => ?_)
          obtain ⟨⟨v8, rfl, b8x⟩, hI8, hF8q⟩ := q8
          obtain rfl := zFr_nil hF8q
          simp only [Option.toList, List.cons_append, List.nil_append]
          refine z_if_eq (pc := 72) 87 C dX10_mended_72 (by decide) (fun h72_8 => ?_) (fun h72_8 => ?_)
          · skip
            have b10x : zB v8 0 0 := by have q1 := b8x; have q2 := (zB.of (x := 0) 0 (by decide)); simp only [z32lt, z32le, z32eq, Int32.reduceToInt, Int32.toInt_zero] at h72_8; constructor <;> omega
            refine z_sipush (pc := 87) (v := 9999) C dX10_mended_87 (by decide) ?_
            exact ih2 b35_1 b35_2 a35_3 b3x a35_3 b3x 9999 (zB.wk (a' := 0) (b' := 9999) (zB.of (x := 9999) 9999 (by decide)) (by decide) (by decide)) g35_ hI35_ hF35_  (by have qc0 : (9999 : Int32).toInt = 9999 := (by decide); omega)
          · skip
            have b11x : zB v8 1 1 := by have q1 := b8x; have q2 := (zB.of (x := 0) 0 (by decide)); simp only [z32lt, z32le, z32eq, Int32.reduceToInt, Int32.toInt_zero] at h72_8; constructor <;> omega
            refine z_aload_n (pc := 75) C dX10_mended_75 rfl ?_
            refine z_iload_n (pc := 76) C dX10_mended_76 rfl ?_
            refine z_iload_n (pc := 77) C dX10_mended_77 rfl ?_
            refine z_callV (pc := 78) C zk_X10_141 (w_X10_standing _ _ a35_3 b3x a2 b35_2 hI35_) rfl rfl (by decide) rfl rfl (Nat.le_of_ble_eq_true rfl) dX10_mended_78 (fun r12 g12 q12 => ?_)
            obtain ⟨⟨v12, rfl, b12x⟩, hI12, hF12q⟩ := q12
            obtain rfl := zFr_nil hF12q
            simp only [Option.toList, List.cons_append, List.nil_append]
            refine z_callS (pc := 81) C zk_X10_194 (w_X10_ones _ _ v12 b12x hI35_) rfl rfl (Nat.le_of_ble_eq_true rfl) dX10_mended_81 (fun r13 g13 q13 => ?_)
            obtain ⟨⟨v13, rfl, b13x⟩, hI13, hF13q⟩ := q13
            obtain rfl := zFr_nil hF13q
            simp only [Option.toList, List.cons_append, List.nil_append]
            refine z_goto (pc := 84) 90 C dX10_mended_84 (by decide) ?_
            exact ih2 b35_1 b35_2 a35_3 b3x a35_3 b3x v13 (zB.wk (a' := 0) (b' := 9999) b13x (by decide) (by decide)) g35_ hI35_ hF35_  (by omega)
      · skip
        intro b90_1 b90_2 a90_3 b90_3 a90_s1 b90_s1 a90_s2 b90_s2 g90_ hI90_ hF90_ hM90_
        refine z_iast (pc := 90) C rfl (by decide) (zIx b90_s1 (by decide) (by decide)) dX10_mended_90 ?_
        refine w_mem hI90_ hF90_ (zB.wk (a' := 0) (b' := 20000) b90_s2 (by decide) (by decide)) rfl (fun g14 hI14 hF14 => ?_)
        refine z_iinc (pc := 91) (v := 1) C dX10_mended_91 rfl (by decide) (by rw [hn]; decide) rfl ?_
        obtain ⟨v15, hv15, e15⟩ : ∃ v : Int32, v = a90_3 + 1 ∧ v.toInt = a90_3.toInt + 1 := ⟨_, rfl, zadd_eb b90_3 (zB.of (x := 1) 1 (by decide)) (by decide) (by decide)⟩
        rw [← hv15]
        have b15x : zB v15 1 12 := by have q9 := b90_3; constructor <;> omega
        refine z_goto (pc := 94) 35 C dX10_mended_94 (by decide) ?_
        exact ih1 b90_1 b90_2 v15 (zB.wk (a' := 0) (b' := 12) b15x (by decide) (by decide)) g14 hI14 hF14  (by omega)
      · skip
        intro b99_1 b99_2 a99_3 b99_3 g99_ hI99_ hF99_ hM99_
        refine z_iload_n (pc := 99) C dX10_mended_99 rfl ?_
        refine z_aload_n (pc := 100) C dX10_mended_100 rfl ?_
        refine z_getI (pc := 101) C zf_X10_77 rfl rfl (by decide) dX10_mended_101 ?_
        refine w_gb 0 12 (hI99_ 25 _ 4) (fun v16 b16x => ?_)
        refine z_icmp_ge (pc := 104) 282 C dX10_mended_104 (by decide) (fun h104_16 => ?_) (fun h104_16 => ?_)
        · skip
          refine z_aload_n (pc := 282) C dX10_mended_282 rfl ?_
          refine z_iload_n (pc := 283) C dX10_mended_283 rfl ?_
          refine z_iload_n (pc := 284) C dX10_mended_284 rfl ?_
          refine z_sipush (pc := 285) (v := 255) C dX10_mended_285 (by decide) ?_
          refine z_callV (pc := 288) C zk_X10_161 (w_X10_isTried _ _ a2 b99_2 a1 b99_1 255 (zB.wk (a' := 0) (b' := 255) (zB.of (x := 255) 255 (by decide)) (by decide) (by decide)) hI99_) rfl rfl (by decide) rfl rfl (Nat.le_of_ble_eq_true rfl) dX10_mended_288 (fun r18 g18 q18 => ?_)
          obtain ⟨⟨v18, rfl, b18x⟩, hI18, hF18q⟩ := q18
          obtain rfl := zFr_nil hF18q
          simp only [Option.toList, List.cons_append, List.nil_append]
          refine z_if_ne (pc := 291) 297 C dX10_mended_291 (by decide) (fun h291_18 => ?_) (fun h291_18 => ?_)
          · skip
            have b20x : zB v18 1 1 := by have q1 := b18x; have q2 := (zB.of (x := 0) 0 (by decide)); simp only [z32lt, z32le, z32eq, Int32.reduceToInt, Int32.toInt_zero] at h291_18; constructor <;> omega
            refine z_aload_n (pc := 297) C dX10_mended_297 rfl ?_
            refine z_getR (pc := 298) C zf_X10_22 rfl rfl (by decide) dX10_mended_298 ?_
            refine z_iconst (pc := 301) (v := 1) C dX10_mended_301 (by decide) ?_
            refine z_iald (pc := 302) C rfl (by decide) (zIx (zB.of (x := 1) 1 (by decide)) (by decide) (by decide)) dX10_mended_302 ?_
            refine w_gb 0 5 (hI99_ 30 _ 1) (fun v21 b21x => ?_)
            refine z_iload_n (pc := 303) C dX10_mended_303 rfl ?_
            refine z_icmp_ne (pc := 304) 311 C dX10_mended_304 (by decide) (fun h304_21 => ?_) (fun h304_21 => ?_)
            · skip
              refine z_sipush (pc := 311) (v := 9999) C dX10_mended_311 (by decide) ?_
              exact ih10 b99_1 b99_2 a99_3 b99_3 9999 (zB.wk (a' := 0) (b' := 9999) (zB.of (x := 9999) 9999 (by decide)) (by decide) (by decide)) g99_ hI99_ hF99_  (by have qc0 : (9999 : Int32).toInt = 9999 := (by decide); omega)
            · skip
              refine z_iconst (pc := 307) (v := 0) C dX10_mended_307 (by decide) ?_
              refine z_goto (pc := 308) 314 C dX10_mended_308 (by decide) ?_
              exact ih10 b99_1 b99_2 a99_3 b99_3 0 (zB.wk (a' := 0) (b' := 9999) (zB.of (x := 0) 0 (by decide)) (by decide) (by decide)) g99_ hI99_ hF99_  (by have qc0 : (0 : Int32).toInt = 0 := (by decide); omega)
          · skip
            have b23x : zB v18 0 0 := by have q1 := b18x; have q2 := (zB.of (x := 0) 0 (by decide)); simp only [z32lt, z32le, z32eq, Int32.reduceToInt, Int32.toInt_zero] at h291_18; constructor <;> omega
            refine z_bipush (pc := 294) (v := -4) C dX10_mended_294 (by decide) ?_
            exact z_iret (pc := 296) C hr dX10_mended_296 ⟨⟨_, rfl, (zB.wk (a' := (-4)) (b' := 9998) (zB.of (x := (-4)) (-4) (by decide)) (by decide) (by decide))⟩, hI99_, hF99_⟩
        · skip
          have b24x : zB a99_3 0 11 := by have q1 := b99_3; have q2 := b16x; simp only [z32lt, z32le, z32eq, Int32.reduceToInt, Int32.toInt_zero] at h104_16; constructor <;> omega
          have b25x : zB v16 1 12 := by have q1 := b99_3; have q2 := b16x; simp only [z32lt, z32le, z32eq, Int32.reduceToInt, Int32.toInt_zero] at h104_16; constructor <;> omega
          refine z_iconst (pc := 107) (v := 0) C dX10_mended_107 (by decide) ?_
          refine z_istore (pc := 108) C dX10_mended_108 (by rw [hn]; decide) rfl ?_
          exact ih4 b99_1 b99_2 a99_3 b24x 0 (zB.wk (a' := 0) (b' := 12) (zB.of (x := 0) 0 (by decide)) (by decide) (by decide)) g99_ hI99_ hF99_  (by have qc0 : (0 : Int32).toInt = 0 := (by decide); omega)
      · skip
        intro b110_1 b110_2 a110_3 b110_3 a110_4 b110_4 g110_ hI110_ hF110_ hM110_
        refine z_iload (pc := 110) C dX10_mended_110 rfl ?_
        refine z_aload_n (pc := 112) C dX10_mended_112 rfl ?_
        refine z_getI (pc := 113) C zf_X10_77 rfl rfl (by decide) dX10_mended_113 ?_
        refine w_gb 0 12 (hI110_ 25 _ 4) (fun v26 b26x => ?_)
        refine z_icmp_ge (pc := 116) 276 C dX10_mended_116 (by decide) (fun h116_26 => ?_) (fun h116_26 => ?_)
        · skip
          refine z_iinc (pc := 276) (v := 1) C dX10_mended_276 rfl (by decide) (by rw [hn]; decide) rfl ?_
          obtain ⟨v28, hv28, e28⟩ : ∃ v : Int32, v = a110_3 + 1 ∧ v.toInt = a110_3.toInt + 1 := ⟨_, rfl, zadd_eb b110_3 (zB.of (x := 1) 1 (by decide)) (by decide) (by decide)⟩
          rw [← hv28]
          have b28x : zB v28 1 12 := by have q9 := b110_3; constructor <;> omega
          refine z_goto (pc := 279) 99 C dX10_mended_279 (by decide) ?_
          refine w_mask [4] ?_
          exact ih3 b110_1 b110_2 v28 (zB.wk (a' := 0) (b' := 12) b28x (by decide) (by decide)) g110_ hI110_ hF110_  (by omega)
        · skip
          have b29x : zB a110_4 0 11 := by have q1 := b110_4; have q2 := b26x; simp only [z32lt, z32le, z32eq, Int32.reduceToInt, Int32.toInt_zero] at h116_26; constructor <;> omega
          have b30x : zB v26 1 12 := by have q1 := b110_4; have q2 := b26x; simp only [z32lt, z32le, z32eq, Int32.reduceToInt, Int32.toInt_zero] at h116_26; constructor <;> omega
          refine z_aload_n (pc := 119) C dX10_mended_119 rfl ?_
          refine z_getR (pc := 120) C zf_X10_16 rfl rfl (by decide) dX10_mended_120 ?_
          refine z_bipush (pc := 123) (v := 8) C dX10_mended_123 (by decide) ?_
          refine z_iload (pc := 125) C dX10_mended_125 rfl ?_
          refine z_imul (pc := 127) C dX10_mended_127 ?_
          refine w_gp (fun v => v.toInt = 8 * a110_4.toInt) (zmul_kb 8 (by decide) (by decide) b29x (by decide) (by decide)) (fun v31 e31 => ?_)
          have b31x : zB v31 0 88 := zmul_bb e31 (by decide) b29x
          refine z_bipush (pc := 128) (v := 7) C dX10_mended_128 (by decide) ?_
          refine z_iadd (pc := 130) C dX10_mended_130 ?_
          refine w_gp (fun v => v.toInt = v31.toInt + 7) (zadd_eb b31x (zB.of (x := 7) 7 (by decide)) (by decide) (by decide)) (fun v32 e32 => ?_)
          have b32x : zB v32 7 95 := by have q1 := b31x; have q2 := (zB.of (x := 7) 7 (by decide)); constructor <;> omega
          refine z_iald (pc := 131) C rfl (by decide) (zIx b32x (by decide) (by decide)) dX10_mended_131 ?_
          refine w_gb 0 7 (by have hq9 := hI110_ 28 0 v32.toNatClampNeg; rw [zrg28 (r := 7) (by have hq : v32.toNatClampNeg = v32.toInt.toNat := rfl; have hq2 := b32x; omega)] at hq9; exact hq9) (fun v33 b33x => ?_)
          refine z_istore (pc := 132) C dX10_mended_132 (by rw [hn]; decide) rfl ?_
          refine z_iconst (pc := 134) (v := 0) C dX10_mended_134 (by decide) ?_
          refine z_istore (pc := 135) C dX10_mended_135 (by rw [hn]; decide) rfl ?_
          exact ih5 b110_1 b110_2 a110_3 b110_3 a110_4 b29x v33 b33x 0 (zB.wk (a' := 0) (b' := 12) (zB.of (x := 0) 0 (by decide)) (by decide) (by decide)) g110_ hI110_ hF110_  (by have qc0 : (0 : Int32).toInt = 0 := (by decide); omega)
      · skip
        intro b137_1 b137_2 a137_3 b137_3 a137_4 b137_4 a137_5 b137_5 a137_6 b137_6 g137_ hI137_ hF137_ hM137_
        refine z_iload (pc := 137) C dX10_mended_137 rfl ?_
        refine z_aload_n (pc := 139) C dX10_mended_139 rfl ?_
        refine z_getI (pc := 140) C zf_X10_77 rfl rfl (by decide) dX10_mended_140 ?_
        refine w_gb 0 12 (hI137_ 25 _ 4) (fun v34 b34x => ?_)
        refine z_icmp_ge (pc := 143) 270 C dX10_mended_143 (by decide) (fun h143_34 => ?_) (fun h143_34 => ?_)
        · skip
          exact ih9 b137_1 b137_2 a137_3 b137_3 a137_4 b137_4 a137_5 b137_5 a137_6 b137_6 g137_ hI137_ hF137_  (by omega)
        · skip
          have b36x : zB a137_6 0 11 := by have q1 := b137_6; have q2 := b34x; simp only [z32lt, z32le, z32eq, Int32.reduceToInt, Int32.toInt_zero] at h143_34; constructor <;> omega
          have b37x : zB v34 1 12 := by have q1 := b137_6; have q2 := b34x; simp only [z32lt, z32le, z32eq, Int32.reduceToInt, Int32.toInt_zero] at h143_34; constructor <;> omega
          refine z_aload_n (pc := 146) C dX10_mended_146 rfl ?_
          refine z_getR (pc := 147) C zf_X10_37 rfl rfl (by decide) dX10_mended_147 ?_
          refine z_iload (pc := 150) C dX10_mended_150 rfl ?_
          refine z_iald (pc := 152) C rfl (by decide) (zIx b137_4 (by decide) (by decide)) dX10_mended_152 ?_
          refine w_gb 0 20000 (hI137_ 35 _ _) (fun v38 b38x => ?_)
          refine z_sipush (pc := 153) (v := 9999) C dX10_mended_153 (by decide) ?_
          refine z_icmp_ge (pc := 156) 270 C dX10_mended_156 (by decide) (fun h156_38 => ?_) (fun h156_38 => ?_)
          · skip
            have b40x : zB v38 9999 20000 := by have q1 := b38x; have q2 := (zB.of (x := 9999) 9999 (by decide)); simp only [z32lt, z32le, z32eq, Int32.reduceToInt, Int32.toInt_zero] at h156_38; constructor <;> omega
            exact ih9 b137_1 b137_2 a137_3 b137_3 a137_4 b137_4 a137_5 b137_5 a137_6 (zB.wk (a' := 0) (b' := 12) b36x (by decide) (by decide)) g137_ hI137_ hF137_  (by omega)
          · skip
            have b41x : zB v38 0 9998 := by have q1 := b38x; have q2 := (zB.of (x := 9999) 9999 (by decide)); simp only [z32lt, z32le, z32eq, Int32.reduceToInt, Int32.toInt_zero] at h156_38; constructor <;> omega
            refine z_aload_n (pc := 159) C dX10_mended_159 rfl ?_
            refine z_iload (pc := 160) C dX10_mended_160 rfl ?_
            refine z_iload_n (pc := 162) C dX10_mended_162 rfl ?_
            refine z_aload_n (pc := 163) C dX10_mended_163 rfl ?_
            refine z_getR (pc := 164) C zf_X10_16 rfl rfl (by decide) dX10_mended_164 ?_
            refine z_bipush (pc := 167) (v := 8) C dX10_mended_167 (by decide) ?_
            refine z_iload (pc := 169) C dX10_mended_169 rfl ?_
            refine z_imul (pc := 171) C dX10_mended_171 ?_
            refine w_gp (fun v => v.toInt = 8 * a137_4.toInt) (zmul_kb 8 (by decide) (by decide) b137_4 (by decide) (by decide)) (fun v42 e42 => ?_)
            have b42x : zB v42 0 88 := zmul_bb e42 (by decide) b137_4
            refine z_iconst (pc := 172) (v := 2) C dX10_mended_172 (by decide) ?_
            refine z_iadd (pc := 173) C dX10_mended_173 ?_
            refine w_gp (fun v => v.toInt = v42.toInt + 2) (zadd_eb b42x (zB.of (x := 2) 2 (by decide)) (by decide) (by decide)) (fun v43 e43 => ?_)
            have b43x : zB v43 2 90 := by have q1 := b42x; have q2 := (zB.of (x := 2) 2 (by decide)); constructor <;> omega
            refine z_iald (pc := 174) C rfl (by decide) (zIx b43x (by decide) (by decide)) dX10_mended_174 ?_
            refine w_gb 0 5 (by have hq9 := hI137_ 28 0 v43.toNatClampNeg; rw [zrg28 (r := 2) (by have hq : v43.toNatClampNeg = v43.toInt.toNat := rfl; have hq2 := b43x; omega)] at hq9; exact hq9) (fun v44 b44x => ?_)
            refine z_iload (pc := 175) C dX10_mended_175 rfl ?_
            refine z_iconst (pc := 177) (v := 1) C dX10_mended_177 (by decide) ?_
            refine z_iand (pc := 178) C dX10_mended_178 ?_
            refine w_gb 0 1 (zand_b b137_5 (zB.of (x := 1) 1 (by decide)) (by decide)) (fun v45 b45x => ?_)
            refine z_iload (pc := 179) C dX10_mended_179 rfl ?_
            refine z_iconst (pc := 181) (v := 4) C dX10_mended_181 (by decide) ?_
            refine z_iand (pc := 182) C dX10_mended_182 ?_
            refine w_gb 0 4 (zand_b b137_5 (zB.of (x := 4) 4 (by decide)) (by decide)) (fun v46 b46x => ?_)
            refine z_if_eq (pc := 183) 201 C dX10_mended_183 (by decide) (fun h183_46 => ?_) (fun h183_46 => ?_)
            · skip
              have b48x : zB v46 0 0 := by have q1 := b46x; have q2 := (zB.of (x := 0) 0 (by decide)); simp only [z32lt, z32le, z32eq, Int32.reduceToInt, Int32.toInt_zero] at h183_46; constructor <;> omega
              refine z_bipush (pc := 201) (v := -4) C dX10_mended_201 (by decide) ?_
              exact ih6 b137_1 b137_2 a137_3 b137_3 a137_4 b137_4 a137_5 b137_5 a137_6 b36x a137_6 b36x a2 b137_2 v44 b44x v45 b45x (-4) (zB.wk (a' := (-4)) (b' := 5) (zB.of (x := (-4)) (-4) (by decide)) (by decide) (by decide)) g137_ hI137_ hF137_  (by have qc0 : ((-4) : Int32).toInt = (-4) := (by decide); omega)
            · skip
              have b49x : zB v46 1 4 := by have q1 := b46x; have q2 := (zB.of (x := 0) 0 (by decide)); simp only [z32lt, z32le, z32eq, Int32.reduceToInt, Int32.toInt_zero] at h183_46; constructor <;> omega
              refine z_aload_n (pc := 186) C dX10_mended_186 rfl ?_
              refine z_getR (pc := 187) C zf_X10_16 rfl rfl (by decide) dX10_mended_187 ?_
              refine z_bipush (pc := 190) (v := 8) C dX10_mended_190 (by decide) ?_
              refine z_iload (pc := 192) C dX10_mended_192 rfl ?_
              refine z_imul (pc := 194) C dX10_mended_194 ?_
              refine w_gp (fun v => v.toInt = 8 * a137_4.toInt) (zmul_kb 8 (by decide) (by decide) b137_4 (by decide) (by decide)) (fun v50 e50 => ?_)
              have b50x : zB v50 0 88 := zmul_bb e50 (by decide) b137_4
              refine z_iconst (pc := 195) (v := 1) C dX10_mended_195 (by decide) ?_
              refine z_iadd (pc := 196) C dX10_mended_196 ?_
              refine w_gp (fun v => v.toInt = v50.toInt + 1) (zadd_eb b50x (zB.of (x := 1) 1 (by decide)) (by decide) (by decide)) (fun v51 e51 => ?_)
              have b51x : zB v51 1 89 := by have q1 := b50x; have q2 := (zB.of (x := 1) 1 (by decide)); constructor <;> omega
              refine z_iald (pc := 197) C rfl (by decide) (zIx b51x (by decide) (by decide)) dX10_mended_197 ?_
              refine w_gb 0 5 (by have hq9 := hI137_ 28 0 v51.toNatClampNeg; rw [zrg28 (r := 1) (by have hq : v51.toNatClampNeg = v51.toInt.toNat := rfl; have hq2 := b51x; omega)] at hq9; exact hq9) (fun v52 b52x => ?_)
              refine z_goto (pc := 198) 203 C dX10_mended_198 (by decide) ?_
              exact ih6 b137_1 b137_2 a137_3 b137_3 a137_4 b137_4 a137_5 b137_5 a137_6 b36x a137_6 b36x a2 b137_2 v44 b44x v45 b45x v52 (zB.wk (a' := (-4)) (b' := 5) b52x (by decide) (by decide)) g137_ hI137_ hF137_  (by omega)
      · skip
        intro b203_1 b203_2 a203_3 b203_3 a203_4 b203_4 a203_5 b203_5 a203_6 b203_6 a203_s1 b203_s1 a203_s2 b203_s2 a203_s3 b203_s3 a203_s4 b203_s4 a203_s5 b203_s5 g203_ hI203_ hF203_ hM203_
        refine z_callV (pc := 203) C zk_X10_197 (w_X10_canFollow _ _ a203_s1 b203_s1 a203_s2 b203_s2 a203_s3 b203_s3 a203_s4 b203_s4 a203_s5 b203_s5 hI203_) rfl rfl (by decide) rfl rfl (Nat.le_of_ble_eq_true rfl) dX10_mended_203 (fun r53 g53 q53 => ?_)
        obtain ⟨⟨v53, rfl, b53x⟩, hI53, hF53q⟩ := q53
        obtain rfl := zFr_nil hF53q
        simp only [Option.toList, List.cons_append, List.nil_append]
        refine z_istore (pc := 206) C dX10_mended_206 (by rw [hn]; decide) rfl ?_
        refine z_aload_n (pc := 208) C dX10_mended_208 rfl ?_
        refine z_getR (pc := 209) C zf_X10_37 rfl rfl (by decide) dX10_mended_209 ?_
        refine z_iload (pc := 212) C dX10_mended_212 rfl ?_
        refine z_iald (pc := 214) C rfl (by decide) (zIx b203_4 (by decide) (by decide)) dX10_mended_214 ?_
        refine w_gb 0 20000 (hI203_ 35 _ _) (fun v54 b54x => ?_)
        refine z_aload_n (pc := 215) C dX10_mended_215 rfl ?_
        refine z_iload (pc := 216) C dX10_mended_216 rfl ?_
        refine z_iload_n (pc := 218) C dX10_mended_218 rfl ?_
        refine z_callV (pc := 219) C zk_X10_141 (w_X10_standing _ _ a203_6 b203_6 a2 b203_2 hI203_) rfl rfl (by decide) rfl rfl (Nat.le_of_ble_eq_true rfl) dX10_mended_219 (fun r55 g55 q55 => ?_)
        obtain ⟨⟨v55, rfl, b55x⟩, hI55, hF55q⟩ := q55
        obtain rfl := zFr_nil hF55q
        simp only [Option.toList, List.cons_append, List.nil_append]
        refine z_callS (pc := 222) C zk_X10_194 (w_X10_ones _ _ v55 b55x hI203_) rfl rfl (Nat.le_of_ble_eq_true rfl) dX10_mended_222 (fun r56 g56 q56 => ?_)
        obtain ⟨⟨v56, rfl, b56x⟩, hI56, hF56q⟩ := q56
        obtain rfl := zFr_nil hF56q
        simp only [Option.toList, List.cons_append, List.nil_append]
        refine z_iadd (pc := 225) C dX10_mended_225 ?_
        refine w_gp (fun v => v.toInt = v54.toInt + v56.toInt) (zadd_eb b54x b56x (by decide) (by decide)) (fun v57 e57 => ?_)
        have b57x : zB v57 0 20063 := by have q1 := b54x; have q2 := b56x; constructor <;> omega
        refine z_istore (pc := 226) C dX10_mended_226 (by rw [hn]; decide) rfl ?_
        refine z_aload_n (pc := 228) C dX10_mended_228 rfl ?_
        refine z_getR (pc := 229) C zf_X10_37 rfl rfl (by decide) dX10_mended_229 ?_
        refine z_iload (pc := 232) C dX10_mended_232 rfl ?_
        refine z_iload (pc := 234) C dX10_mended_234 rfl ?_
        refine z_if_eq (pc := 236) 256 C dX10_mended_236 (by decide) (fun h236_57 => ?_) (fun h236_57 => ?_)
        · skip
          have b59x : zB v53 0 0 := by have q1 := b53x; have q2 := (zB.of (x := 0) 0 (by decide)); simp only [z32lt, z32le, z32eq, Int32.reduceToInt, Int32.toInt_zero] at h236_57; constructor <;> omega
          exact ih7 b203_1 b203_2 a203_3 b203_3 a203_4 b203_4 a203_5 b203_5 a203_6 b203_6 v53 (zB.wk (a' := 0) (b' := 1) b59x (by decide) (by decide)) v57 b57x a203_6 b203_6 g203_ hI203_ hF203_  (by omega)
        · skip
          have b60x : zB v53 1 1 := by have q1 := b53x; have q2 := (zB.of (x := 0) 0 (by decide)); simp only [z32lt, z32le, z32eq, Int32.reduceToInt, Int32.toInt_zero] at h236_57; constructor <;> omega
          refine z_iload (pc := 239) C dX10_mended_239 rfl ?_
          refine z_aload_n (pc := 241) C dX10_mended_241 rfl ?_
          refine z_getR (pc := 242) C zf_X10_37 rfl rfl (by decide) dX10_mended_242 ?_
          refine z_iload (pc := 245) C dX10_mended_245 rfl ?_
          refine z_iald (pc := 247) C rfl (by decide) (zIx b203_6 (by decide) (by decide)) dX10_mended_247 ?_
          refine w_gb 0 20000 (hI203_ 35 _ _) (fun v61 b61x => ?_)
          refine z_icmp_ge (pc := 248) 256 C dX10_mended_248 (by decide) (fun h248_61 => ?_) (fun h248_61 => ?_)
          · skip
            exact ih7 b203_1 b203_2 a203_3 b203_3 a203_4 b203_4 a203_5 b203_5 a203_6 b203_6 v53 (zB.wk (a' := 0) (b' := 1) b60x (by decide) (by decide)) v57 b57x a203_6 b203_6 g203_ hI203_ hF203_  (by omega)
          · skip
            have b63x : zB v57 0 19999 := by have q1 := b57x; have q2 := b61x; simp only [z32lt, z32le, z32eq, Int32.reduceToInt, Int32.toInt_zero] at h248_61; constructor <;> omega
            have b64x : zB v61 1 20000 := by have q1 := b57x; have q2 := b61x; simp only [z32lt, z32le, z32eq, Int32.reduceToInt, Int32.toInt_zero] at h248_61; constructor <;> omega
            refine z_iload (pc := 251) C dX10_mended_251 rfl ?_
            refine z_goto (pc := 253) 263 C dX10_mended_253 (by decide) ?_
            exact ih8 b203_1 b203_2 a203_3 b203_3 a203_4 b203_4 a203_5 b203_5 a203_6 b203_6 v53 (zB.wk (a' := 0) (b' := 1) b60x (by decide) (by decide)) v57 (zB.wk (a' := 0) (b' := 20063) b63x (by decide) (by decide)) a203_6 b203_6 v57 (zB.wk (a' := 0) (b' := 20000) b63x (by decide) (by decide)) g203_ hI203_ hF203_  (by omega)
      · skip
        intro b256_1 b256_2 a256_3 b256_3 a256_4 b256_4 a256_5 b256_5 a256_6 b256_6 a256_7 b256_7 a256_8 b256_8 a256_s1 b256_s1 g256_ hI256_ hF256_ hM256_
        refine z_aload_n (pc := 256) C dX10_mended_256 rfl ?_
        refine z_getR (pc := 257) C zf_X10_37 rfl rfl (by decide) dX10_mended_257 ?_
        refine z_iload (pc := 260) C dX10_mended_260 rfl ?_
        refine z_iald (pc := 262) C rfl (by decide) (zIx b256_6 (by decide) (by decide)) dX10_mended_262 ?_
        refine w_gb 0 20000 (hI256_ 35 _ _) (fun v65 b65x => ?_)
        exact ih8 b256_1 b256_2 a256_3 b256_3 a256_4 b256_4 a256_5 b256_5 a256_6 b256_6 a256_7 b256_7 a256_8 b256_8 a256_s1 b256_s1 v65 b65x g256_ hI256_ hF256_  (by omega)
      · skip
        intro b263_1 b263_2 a263_3 b263_3 a263_4 b263_4 a263_5 b263_5 a263_6 b263_6 a263_7 b263_7 a263_8 b263_8 a263_s1 b263_s1 a263_s2 b263_s2 g263_ hI263_ hF263_ hM263_
        refine z_iast (pc := 263) C rfl (by decide) (zIx b263_s1 (by decide) (by decide)) dX10_mended_263 ?_
        refine w_mem hI263_ hF263_ b263_s2 rfl (fun g66 hI66 hF66 => ?_)
        refine z_iinc (pc := 264) (v := 1) C dX10_mended_264 rfl (by decide) (by rw [hn]; decide) rfl ?_
        obtain ⟨v67, hv67, e67⟩ : ∃ v : Int32, v = a263_6 + 1 ∧ v.toInt = a263_6.toInt + 1 := ⟨_, rfl, zadd_eb b263_6 (zB.of (x := 1) 1 (by decide)) (by decide) (by decide)⟩
        rw [← hv67]
        have b67x : zB v67 1 12 := by have q9 := b263_6; constructor <;> omega
        refine z_goto (pc := 267) 137 C dX10_mended_267 (by decide) ?_
        refine w_mask [7, 8] ?_
        exact ih5 b263_1 b263_2 a263_3 b263_3 a263_4 b263_4 a263_5 b263_5 v67 (zB.wk (a' := 0) (b' := 12) b67x (by decide) (by decide)) g66 hI66 hF66  (by omega)
      · skip
        intro b270_1 b270_2 a270_3 b270_3 a270_4 b270_4 a270_5 b270_5 a270_6 b270_6 g270_ hI270_ hF270_ hM270_
        refine z_iinc (pc := 270) (v := 1) C dX10_mended_270 rfl (by decide) (by rw [hn]; decide) rfl ?_
        obtain ⟨v68, hv68, e68⟩ : ∃ v : Int32, v = a270_4 + 1 ∧ v.toInt = a270_4.toInt + 1 := ⟨_, rfl, zadd_eb b270_4 (zB.of (x := 1) 1 (by decide)) (by decide) (by decide)⟩
        rw [← hv68]
        have b68x : zB v68 1 12 := by have q9 := b270_4; constructor <;> omega
        refine z_goto (pc := 273) 110 C dX10_mended_273 (by decide) ?_
        refine w_mask [5, 6] ?_
        exact ih4 b270_1 b270_2 a270_3 b270_3 v68 (zB.wk (a' := 0) (b' := 12) b68x (by decide) (by decide)) g270_ hI270_ hF270_  (by omega)
      · skip
        intro b314_1 b314_2 a314_3 b314_3 a314_s0 b314_s0 g314_ hI314_ hF314_ hM314_
        refine z_istore_n (pc := 314) C dX10_mended_314 (by rw [hn]; decide) rfl ?_
        refine z_iconst (pc := 315) (v := 0) C dX10_mended_315 (by decide) ?_
        refine z_istore (pc := 316) C dX10_mended_316 (by rw [hn]; decide) rfl ?_
        exact ih11 b314_1 b314_2 a314_s0 (zB.wk (a' := 0) (b' := 20000) b314_s0 (by decide) (by decide)) 0 (zB.wk (a' := 0) (b' := 12) (zB.of (x := 0) 0 (by decide)) (by decide) (by decide)) g314_ hI314_ hF314_  (by have qc0 : (0 : Int32).toInt = 0 := (by decide); omega)
      · skip
        intro b318_1 b318_2 a318_3 b318_3 a318_4 b318_4 g318_ hI318_ hF318_ hM318_
        refine z_iload (pc := 318) C dX10_mended_318 rfl ?_
        refine z_aload_n (pc := 320) C dX10_mended_320 rfl ?_
        refine z_getI (pc := 321) C zf_X10_77 rfl rfl (by decide) dX10_mended_321 ?_
        refine w_gb 0 12 (hI318_ 25 _ 4) (fun v69 b69x => ?_)
        refine z_icmp_ge (pc := 324) 372 C dX10_mended_324 (by decide) (fun h324_69 => ?_) (fun h324_69 => ?_)
        · skip
          refine z_iload_n (pc := 372) C dX10_mended_372 rfl ?_
          refine z_sipush (pc := 373) (v := 9999) C dX10_mended_373 (by decide) ?_
          refine z_icmp_ge (pc := 376) 383 C dX10_mended_376 (by decide) (fun h376_70 => ?_) (fun h376_70 => ?_)
          · skip
            have b72x : zB a318_3 9999 20000 := by have q1 := b318_3; have q2 := (zB.of (x := 9999) 9999 (by decide)); simp only [z32lt, z32le, z32eq, Int32.reduceToInt, Int32.toInt_zero] at h376_70; constructor <;> omega
            refine z_bipush (pc := 383) (v := -4) C dX10_mended_383 (by decide) ?_
            exact ih14 b318_1 b318_2 a318_3 (zB.wk (a' := 0) (b' := 20000) b72x (by decide) (by decide)) a318_4 b318_4 (-4) (zB.wk (a' := (-4)) (b' := 9998) (zB.of (x := (-4)) (-4) (by decide)) (by decide) (by decide)) g318_ hI318_ hF318_  (by have qc0 : ((-4) : Int32).toInt = (-4) := (by decide); omega)
          · skip
            have b73x : zB a318_3 0 9998 := by have q1 := b318_3; have q2 := (zB.of (x := 9999) 9999 (by decide)); simp only [z32lt, z32le, z32eq, Int32.reduceToInt, Int32.toInt_zero] at h376_70; constructor <;> omega
            refine z_iload_n (pc := 379) C dX10_mended_379 rfl ?_
            refine z_goto (pc := 380) 385 C dX10_mended_380 (by decide) ?_
            exact ih14 b318_1 b318_2 a318_3 (zB.wk (a' := 0) (b' := 20000) b73x (by decide) (by decide)) a318_4 b318_4 a318_3 (zB.wk (a' := (-4)) (b' := 9998) b73x (by decide) (by decide)) g318_ hI318_ hF318_  (by omega)
        · skip
          have b74x : zB a318_4 0 11 := by have q1 := b318_4; have q2 := b69x; simp only [z32lt, z32le, z32eq, Int32.reduceToInt, Int32.toInt_zero] at h324_69; constructor <;> omega
          have b75x : zB v69 1 12 := by have q1 := b318_4; have q2 := b69x; simp only [z32lt, z32le, z32eq, Int32.reduceToInt, Int32.toInt_zero] at h324_69; constructor <;> omega
          refine z_aload_n (pc := 327) C dX10_mended_327 rfl ?_
          refine z_getR (pc := 328) C zf_X10_16 rfl rfl (by decide) dX10_mended_328 ?_
          refine z_bipush (pc := 331) (v := 8) C dX10_mended_331 (by decide) ?_
          refine z_iload (pc := 333) C dX10_mended_333 rfl ?_
          refine z_imul (pc := 335) C dX10_mended_335 ?_
          refine w_gp (fun v => v.toInt = 8 * a318_4.toInt) (zmul_kb 8 (by decide) (by decide) b74x (by decide) (by decide)) (fun v76 e76 => ?_)
          have b76x : zB v76 0 88 := zmul_bb e76 (by decide) b74x
          refine z_iconst (pc := 336) (v := 2) C dX10_mended_336 (by decide) ?_
          refine z_iadd (pc := 337) C dX10_mended_337 ?_
          refine w_gp (fun v => v.toInt = v76.toInt + 2) (zadd_eb b76x (zB.of (x := 2) 2 (by decide)) (by decide) (by decide)) (fun v77 e77 => ?_)
          have b77x : zB v77 2 90 := by have q1 := b76x; have q2 := (zB.of (x := 2) 2 (by decide)); constructor <;> omega
          refine z_iald (pc := 338) C rfl (by decide) (zIx b77x (by decide) (by decide)) dX10_mended_338 ?_
          refine w_gb 0 5 (by have hq9 := hI318_ 28 0 v77.toNatClampNeg; rw [zrg28 (r := 2) (by have hq : v77.toNatClampNeg = v77.toInt.toNat := rfl; have hq2 := b77x; omega)] at hq9; exact hq9) (fun v78 b78x => ?_)
          refine z_iload_n (pc := 339) C dX10_mended_339 rfl ?_
          refine z_icmp_ne (pc := 340) 364 C dX10_mended_340 (by decide) (fun h340_78 => ?_) (fun h340_78 => ?_)
          · skip
            exact ih12 b318_1 b318_2 a318_3 b318_3 a318_4 b74x g318_ hI318_ hF318_  (by omega)
          · skip
            refine z_aload_n (pc := 343) C dX10_mended_343 rfl ?_
            refine z_getR (pc := 344) C zf_X10_37 rfl rfl (by decide) dX10_mended_344 ?_
            refine z_iload (pc := 347) C dX10_mended_347 rfl ?_
            refine z_iald (pc := 349) C rfl (by decide) (zIx b74x (by decide) (by decide)) dX10_mended_349 ?_
            refine w_gb 0 20000 (hI318_ 35 _ _) (fun v80 b80x => ?_)
            refine z_iload_n (pc := 350) C dX10_mended_350 rfl ?_
            refine z_icmp_ge (pc := 351) 364 C dX10_mended_351 (by decide) (fun h351_80 => ?_) (fun h351_80 => ?_)
            · skip
              exact ih12 b318_1 b318_2 a318_3 b318_3 a318_4 b74x g318_ hI318_ hF318_  (by omega)
            · skip
              have b82x : zB v80 0 19999 := by have q1 := b80x; have q2 := b318_3; simp only [z32lt, z32le, z32eq, Int32.reduceToInt, Int32.toInt_zero] at h351_80; constructor <;> omega
              have b83x : zB a318_3 1 20000 := by have q1 := b80x; have q2 := b318_3; simp only [z32lt, z32le, z32eq, Int32.reduceToInt, Int32.toInt_zero] at h351_80; constructor <;> omega
              refine z_aload_n (pc := 354) C dX10_mended_354 rfl ?_
              refine z_getR (pc := 355) C zf_X10_37 rfl rfl (by decide) dX10_mended_355 ?_
              refine z_iload (pc := 358) C dX10_mended_358 rfl ?_
              refine z_iald (pc := 360) C rfl (by decide) (zIx b74x (by decide) (by decide)) dX10_mended_360 ?_
              refine w_gb 0 20000 (hI318_ 35 _ _) (fun v84 b84x => ?_)
              refine z_goto (pc := 361) 365 C dX10_mended_361 (by decide) ?_
              exact ih13 b318_1 b318_2 a318_3 (zB.wk (a' := 0) (b' := 20000) b83x (by decide) (by decide)) a318_4 b74x v84 b84x g318_ hI318_ hF318_  (by omega)
      · skip
        intro b364_1 b364_2 a364_3 b364_3 a364_4 b364_4 g364_ hI364_ hF364_ hM364_
        refine z_iload_n (pc := 364) C dX10_mended_364 rfl ?_
        exact ih13 b364_1 b364_2 a364_3 b364_3 a364_4 b364_4 a364_3 b364_3 g364_ hI364_ hF364_  (by omega)
      · skip
        intro b365_1 b365_2 a365_3 b365_3 a365_4 b365_4 a365_s0 b365_s0 g365_ hI365_ hF365_ hM365_
        refine z_istore_n (pc := 365) C dX10_mended_365 (by rw [hn]; decide) rfl ?_
        refine z_iinc (pc := 366) (v := 1) C dX10_mended_366 rfl (by decide) (by rw [hn]; decide) rfl ?_
        obtain ⟨v85, hv85, e85⟩ : ∃ v : Int32, v = a365_4 + 1 ∧ v.toInt = a365_4.toInt + 1 := ⟨_, rfl, zadd_eb b365_4 (zB.of (x := 1) 1 (by decide)) (by decide) (by decide)⟩
        rw [← hv85]
        have b85x : zB v85 1 12 := by have q9 := b365_4; constructor <;> omega
        refine z_goto (pc := 369) 318 C dX10_mended_369 (by decide) ?_
        exact ih11 b365_1 b365_2 a365_s0 b365_s0 v85 (zB.wk (a' := 0) (b' := 12) b85x (by decide) (by decide)) g365_ hI365_ hF365_  (by omega)
      · skip
        intro b385_1 b385_2 a385_3 b385_3 a385_4 b385_4 a385_s0 b385_s0 g385_ hI385_ hF385_ hM385_
        exact z_iret (pc := 385) C hr dX10_mended_385 ⟨⟨_, rfl, b385_s0⟩, hI385_, hF385_⟩
  obtain ⟨J0, J1, J2, J3, J4, J5, J6, J7, J8, J9, J10, J11, J12, J13, J14⟩ := J 9143017
  show Z X 0 [some (zr 25 0), some (zi a1), some (zi a2), none, none, none, none, none, none] [] f
  refine z_iload_n (pc := 0) C dX10_mended_0 rfl ?_
  refine z_callSb (pc := 1) C zk_X10_83 (m_X10_isLand _ _ _) rfl rfl (Nat.le_of_ble_eq_true rfl) dX10_mended_1 (fun h1_85 => ?_) (fun h1_85 => ?_)
  · skip
    have b87x : zB a1 0 5 := h1_85
    refine z_if_eq (pc := 4) 15 C dX10_mended_4 (by decide) (fun h => absurd h (by decide)) (fun _ => ?_)
    refine z_aload_n (pc := 7) C dX10_mended_7 rfl ?_
    refine z_iload_n (pc := 8) C dX10_mended_8 rfl ?_
    refine z_callVb (pc := 9) C zk_X10_120 (m_X10_isDeed _ _ _ hI) rfl rfl (by decide) rfl rfl (Nat.le_of_ble_eq_true rfl) dX10_mended_9 (fun h9_87 => ?_) (fun h9_87 => ?_)
    · skip
      have b89x : zB a2 0 7 := (zltc h9_87 (hI 25 0 2).2)
      refine z_if_ne (pc := 12) 17 C dX10_mended_12 (by decide) (fun _ => ?_) (fun h => absurd h (by decide))
      refine z_aload_n (pc := 17) C dX10_mended_17 rfl ?_
      refine z_getR (pc := 18) C zf_X10_22 rfl rfl (by decide) dX10_mended_18 ?_
      refine z_iconst (pc := 21) (v := 5) C dX10_mended_21 (by decide) ?_
      refine z_iald (pc := 22) C rfl (by decide) (zIx (zB.of (x := 5) 5 (by decide)) (by decide) (by decide)) dX10_mended_22 ?_
      refine w_gb 0 255 (hI 30 _ 5) (fun v90 b90x => ?_)
      refine z_iload_n (pc := 23) C dX10_mended_23 rfl ?_
      refine z_ishr (pc := 24) C dX10_mended_24 ?_
      refine w_gb (-2147483648) 2147483647 (zB_any _) (fun v91 b91x => ?_)
      refine z_iconst (pc := 25) (v := 1) C dX10_mended_25 (by decide) ?_
      refine z_iand (pc := 26) C dX10_mended_26 ?_
      refine w_gb 0 1 (zand_b b91x (zB.of (x := 1) 1 (by decide)) (by decide)) (fun v92 b92x => ?_)
      refine z_if_ne (pc := 27) 33 C dX10_mended_27 (by decide) (fun h27_92 => ?_) (fun h27_92 => ?_)
      · skip
        have b94x : zB v92 1 1 := by have q1 := b92x; have q2 := (zB.of (x := 0) 0 (by decide)); simp only [z32lt, z32le, z32eq, Int32.reduceToInt, Int32.toInt_zero] at h27_92; constructor <;> omega
        refine z_iconst (pc := 33) (v := 0) C dX10_mended_33 (by decide) ?_
        refine z_istore_n (pc := 34) C dX10_mended_34 (by rw [hn]; decide) rfl ?_
        exact J1 b87x b89x 0 (zB.wk (a' := 0) (b' := 12) (zB.of (x := 0) 0 (by decide)) (by decide) (by decide)) f hI hF  (by have qc0 : (0 : Int32).toInt = 0 := (by decide); omega)
      · skip
        have b95x : zB v92 0 0 := by have q1 := b92x; have q2 := (zB.of (x := 0) 0 (by decide)); simp only [z32lt, z32le, z32eq, Int32.reduceToInt, Int32.toInt_zero] at h27_92; constructor <;> omega
        refine z_bipush (pc := 30) (v := -4) C dX10_mended_30 (by decide) ?_
        exact z_iret (pc := 32) C hr dX10_mended_32 ⟨⟨_, rfl, (zB.wk (a' := (-4)) (b' := 9998) (zB.of (x := (-4)) (-4) (by decide)) (by decide) (by decide))⟩, hI, hF⟩
    · skip
      refine z_if_ne (pc := 12) 17 C dX10_mended_12 (by decide) (fun h => absurd (by decide) h) (fun _ => ?_)
      exact J0  f hI hF  (by omega)
  · skip
    refine z_if_eq (pc := 4) 15 C dX10_mended_4 (by decide) (fun _ => ?_) (fun h => absurd (by decide) h)
    exact J0  f hI hF  (by omega)
