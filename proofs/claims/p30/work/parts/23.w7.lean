set_option maxRecDepth 100000 in
set_option maxHeartbeats 4000000 in
theorem w_X10_paper (d : Nat) (f : zM) (a1 : Int32) (b1 : zB a1 (-2147483648) 2147483647) (a2 : Int32) (b2 : zB a2 (-2147483648) 2147483647) (hI : zInv f) : ZM (d + 2) yX10_paper cX10_paper 5 (some .int) [zr 25 0, zi a1, zi a2] f (fun r g => (∃ v, r = some (zi v) ∧ zB v (-2147483648) 2147483647) ∧ zInv g ∧ zFr [] f g) := by
  refine ZM.intro (by decide +kernel) (Nat.le_of_ble_eq_true rfl) ?_
  intro X C hr hn
  have hF : zFr [] f f := zFr.rf _ _
  have J : ∀ t : Nat, (∀ g : zM, zInv g → zFr [] f g → (5 : Int) < t → Z X 20 [some (zr 25 0), some (zi a1), some (zi a2), none, none] [] g) ∧ (zB a1 0 11 → zB a2 0 7 → ∀ a41_3 : Int32, zB a41_3 0 2 → ∀ g : zM, zInv g → zFr [] f g → (4 : Int) < t → Z X 41 [some (zr 25 0), some (zi a1), some (zi a2), some (zi a41_3), none] [] g) ∧ (zB a1 0 11 → zB a2 3 4 → ∀ a51_3 : Int32, zB a51_3 0 2 → ∀ g : zM, zInv g → zFr [] f g → (3 : Int) < t → Z X 51 [some (zr 25 0), some (zi a1), some (zi a2), some (zi a51_3), none] [] g) ∧ (zB a1 0 11 → zB a2 0 7 → ∀ a55_3 : Int32, zB a55_3 0 2 → ∀ g : zM, zInv g → zFr [] f g → (2 : Int) < t → Z X 55 [some (zr 25 0), some (zi a1), some (zi a2), some (zi a55_3), none] [] g) ∧ (zB a1 0 11 → zB a2 0 7 → ∀ a56_3 : Int32, zB a56_3 0 2 → ∀ a56_s0 : Int32, zB a56_s0 0 1 → ∀ g : zM, zInv g → zFr [] f g → (1 : Int) < t → Z X 56 [some (zr 25 0), some (zi a1), some (zi a2), some (zi a56_3), none] [zi a56_s0] g) ∧ (zB a1 0 11 → zB a2 0 7 → ∀ a79_3 : Int32, zB a79_3 0 2 → ∀ a79_4 : Int32, zB a79_4 0 1 → ∀ a79_s0 : Int32, zB a79_s0 (-2147483648) 2147483647 → ∀ g : zM, zInv g → zFr [] f g → (0 : Int) < t → Z X 79 [some (zr 25 0), some (zi a1), some (zi a2), some (zi a79_3), some (zi a79_4)] [zi a79_s0] g) := by
    intro t
    induction t with
    | zero =>
      refine ⟨?_, ?_, ?_, ?_, ?_, ?_⟩ <;> (intros; exfalso; omega)
    | succ t ih =>
      obtain ⟨ih0, ih1, ih2, ih3, ih4, ih5⟩ := ih
      refine ⟨?_, ?_, ?_, ?_, ?_, ?_⟩
      · skip
        intro g20_ hI20_ hF20_ hM20_
        refine z_iconst (pc := 20) (v := -1) C dX10_paper_20 (by decide) ?_
        exact z_iret (pc := 21) C hr dX10_paper_21 ⟨⟨_, rfl, (zB.wk (a' := (-2147483648)) (b' := 2147483647) (zB.of (x := (-1)) (-1) (by decide)) (by decide) (by decide))⟩, hI20_, hF20_⟩
      · skip
        intro b41_1 b41_2 a41_3 b41_3 g41_ hI41_ hF41_ hM41_
        refine z_iload_n (pc := 41) C dX10_paper_41 rfl ?_
        refine z_iconst (pc := 42) (v := 4) C dX10_paper_42 (by decide) ?_
        refine z_icmp_ne (pc := 43) 55 C dX10_paper_43 (by decide) (fun h43_0 => ?_) (fun h43_0 => ?_)
        · skip
          exact ih3 b41_1 b41_2 a41_3 b41_3 g41_ hI41_ hF41_  (by omega)
        · skip
          have b2x : zB a2 4 4 := by have q1 := b41_2; have q2 := (zB.of (x := 4) 4 (by decide)); simp only [z32lt, z32le, z32eq, Int32.reduceToInt, Int32.toInt_zero] at h43_0; constructor <;> omega
          refine z_iload_n (pc := 46) C dX10_paper_46 rfl ?_
          refine z_iconst (pc := 47) (v := 1) C dX10_paper_47 (by decide) ?_
          refine z_icmp_eq (pc := 48) 55 C dX10_paper_48 (by decide) (fun h48_2 => ?_) (fun h48_2 => ?_)
          · skip
            have b4x : zB a41_3 1 1 := by have q1 := b41_3; have q2 := (zB.of (x := 1) 1 (by decide)); simp only [z32lt, z32le, z32eq, Int32.reduceToInt, Int32.toInt_zero] at h48_2; constructor <;> omega
            exact ih3 b41_1 (zB.wk (a' := 0) (b' := 7) b2x (by decide) (by decide)) a41_3 (zB.wk (a' := 0) (b' := 2) b4x (by decide) (by decide)) g41_ hI41_ hF41_  (by omega)
          · skip
            exact ih2 b41_1 (zB.wk (a' := 3) (b' := 4) b2x (by decide) (by decide)) a41_3 b41_3 g41_ hI41_ hF41_  (by omega)
      · skip
        intro b51_1 b51_2 a51_3 b51_3 g51_ hI51_ hF51_ hM51_
        refine z_iconst (pc := 51) (v := 1) C dX10_paper_51 (by decide) ?_
        refine z_goto (pc := 52) 56 C dX10_paper_52 (by decide) ?_
        exact ih4 b51_1 (zB.wk (a' := 0) (b' := 7) b51_2 (by decide) (by decide)) a51_3 b51_3 1 (zB.wk (a' := 0) (b' := 1) (zB.of (x := 1) 1 (by decide)) (by decide) (by decide)) g51_ hI51_ hF51_  (by have qc0 : (1 : Int32).toInt = 1 := (by decide); omega)
      · skip
        intro b55_1 b55_2 a55_3 b55_3 g55_ hI55_ hF55_ hM55_
        refine z_iconst (pc := 55) (v := 0) C dX10_paper_55 (by decide) ?_
        exact ih4 b55_1 b55_2 a55_3 b55_3 0 (zB.wk (a' := 0) (b' := 1) (zB.of (x := 0) 0 (by decide)) (by decide) (by decide)) g55_ hI55_ hF55_  (by have qc0 : (0 : Int32).toInt = 0 := (by decide); omega)
      · skip
        intro b56_1 b56_2 a56_3 b56_3 a56_s0 b56_s0 g56_ hI56_ hF56_ hM56_
        refine z_istore (pc := 56) C dX10_paper_56 (by rw [hn]; decide) rfl ?_
        refine z_iload (pc := 58) C dX10_paper_58 rfl ?_
        refine z_if_eq (pc := 60) 68 C dX10_paper_60 (by decide) (fun h60_4 => ?_) (fun h60_4 => ?_)
        · skip
          have b6x : zB a56_s0 0 0 := by have q1 := b56_s0; have q2 := (zB.of (x := 0) 0 (by decide)); simp only [z32lt, z32le, z32eq, Int32.reduceToInt, Int32.toInt_zero] at h60_4; constructor <;> omega
          refine z_aload_n (pc := 68) C dX10_paper_68 rfl ?_
          refine z_getR (pc := 69) C zf_X10_16 rfl rfl (by decide) dX10_paper_69 ?_
          refine z_bipush (pc := 72) (v := 8) C dX10_paper_72 (by decide) ?_
          refine z_iload_n (pc := 74) C dX10_paper_74 rfl ?_
          refine z_imul (pc := 75) C dX10_paper_75 ?_
          refine w_gp (fun v => v.toInt = 8 * a1.toInt) (zmul_kb 8 (by decide) (by decide) b56_1 (by decide) (by decide)) (fun v7 e7 => ?_)
          have b7x : zB v7 0 88 := zmul_bb e7 (by decide) b56_1
          refine z_iload_n (pc := 76) C dX10_paper_76 rfl ?_
          refine z_iadd (pc := 77) C dX10_paper_77 ?_
          refine w_gp (fun v => v.toInt = v7.toInt + a2.toInt) (zadd_eb b7x b56_2 (by decide) (by decide)) (fun v8 e8 => ?_)
          have b8x : zB v8 0 95 := by have q1 := b7x; have q2 := b56_2; constructor <;> omega
          refine z_iald (pc := 78) C rfl (by decide) (zIx b8x (by decide) (by decide)) dX10_paper_78 ?_
          refine w_gb (-2147483648) 2147483647 (zB_any _) (fun v9 b9x => ?_)
          exact ih5 b56_1 b56_2 a56_3 b56_3 a56_s0 (zB.wk (a' := 0) (b' := 1) b6x (by decide) (by decide)) v9 b9x g56_ hI56_ hF56_  (by omega)
        · skip
          have b10x : zB a56_s0 1 1 := by have q1 := b56_s0; have q2 := (zB.of (x := 0) 0 (by decide)); simp only [z32lt, z32le, z32eq, Int32.reduceToInt, Int32.toInt_zero] at h60_4; constructor <;> omega
          refine z_bipush (pc := 63) (v := -12) C dX10_paper_63 (by decide) ?_
          refine z_goto (pc := 65) 79 C dX10_paper_65 (by decide) ?_
          exact ih5 b56_1 b56_2 a56_3 b56_3 a56_s0 (zB.wk (a' := 0) (b' := 1) b10x (by decide) (by decide)) (-12) (zB.wk (a' := (-2147483648)) (b' := 2147483647) (zB.of (x := (-12)) (-12) (by decide)) (by decide) (by decide)) g56_ hI56_ hF56_  (by have qc0 : ((-12) : Int32).toInt = (-12) := (by decide); omega)
      · skip
        intro b79_1 b79_2 a79_3 b79_3 a79_4 b79_4 a79_s0 b79_s0 g79_ hI79_ hF79_ hM79_
        exact z_iret (pc := 79) C hr dX10_paper_79 ⟨⟨_, rfl, b79_s0⟩, hI79_, hF79_⟩
  obtain ⟨J0, J1, J2, J3, J4, J5⟩ := J 17
  show Z X 0 [some (zr 25 0), some (zi a1), some (zi a2), none, none] [] f
  refine z_aload_n (pc := 0) C dX10_paper_0 rfl ?_
  refine z_iload_n (pc := 1) C dX10_paper_1 rfl ?_
  refine z_callVb (pc := 2) C zk_X10_109 (m_X10_isPaper _ _ _ hI) rfl rfl (by decide) rfl rfl (Nat.le_of_ble_eq_true rfl) dX10_paper_2 (fun h2_10 => ?_) (fun h2_10 => ?_)
  · skip
    have b12x : zB a1 0 11 := (zltc h2_10 (hI 25 0 4).2)
    refine z_if_eq (pc := 5) 20 C dX10_paper_5 (by decide) (fun h => absurd h (by decide)) (fun _ => ?_)
    refine z_iload_n (pc := 8) C dX10_paper_8 rfl ?_
    refine z_i2l (pc := 9) C dX10_paper_9 ?_
    refine z_lconst (pc := 10) (v := 0) C dX10_paper_10 (by decide) ?_
    refine z_ldc2 (pc := 11) C zw_1146 dX10_paper_11 ?_
    refine z_callSb (pc := 14) C zk_X10_69 (m_X10_in _ _ _ _ _) rfl rfl (Nat.le_of_ble_eq_true rfl) dX10_paper_14 (fun h14_12 => ?_) (fun h14_12 => ?_)
    · skip
      have b14x : zB a2 0 7 := zin64 h14_12 rfl rfl
      refine z_if_ne (pc := 17) 22 C dX10_paper_17 (by decide) (fun _ => ?_) (fun h => absurd h (by decide))
      refine z_aload_n (pc := 22) C dX10_paper_22 rfl ?_
      refine z_getR (pc := 23) C zf_X10_16 rfl rfl (by decide) dX10_paper_23 ?_
      refine z_bipush (pc := 26) (v := 8) C dX10_paper_26 (by decide) ?_
      refine z_iload_n (pc := 28) C dX10_paper_28 rfl ?_
      refine z_imul (pc := 29) C dX10_paper_29 ?_
      refine w_gp (fun v => v.toInt = 8 * a1.toInt) (zmul_kb 8 (by decide) (by decide) b12x (by decide) (by decide)) (fun v15 e15 => ?_)
      have b15x : zB v15 0 88 := zmul_bb e15 (by decide) b12x
      refine z_iald (pc := 30) C rfl (by decide) (zIx b15x (by decide) (by decide)) dX10_paper_30 ?_
      refine w_gb 0 2 (by have hq9 := hI 28 0 v15.toNatClampNeg; rw [zrg28 (r := 0) (by have hq : v15.toNatClampNeg = v15.toInt.toNat := rfl; have hq2 := b15x; omega)] at hq9; exact hq9) (fun v16 b16x => ?_)
      refine z_istore_n (pc := 31) C dX10_paper_31 (by rw [hn]; decide) rfl ?_
      refine z_iload_n (pc := 32) C dX10_paper_32 rfl ?_
      refine z_iconst (pc := 33) (v := 3) C dX10_paper_33 (by decide) ?_
      refine z_icmp_ne (pc := 34) 41 C dX10_paper_34 (by decide) (fun h34_16 => ?_) (fun h34_16 => ?_)
      · skip
        exact J1 b12x b14x v16 b16x f hI hF  (by omega)
      · skip
        have b18x : zB a2 3 3 := by have q1 := b14x; have q2 := (zB.of (x := 3) 3 (by decide)); simp only [z32lt, z32le, z32eq, Int32.reduceToInt, Int32.toInt_zero] at h34_16; constructor <;> omega
        refine z_iload_n (pc := 37) C dX10_paper_37 rfl ?_
        refine z_if_ne (pc := 38) 51 C dX10_paper_38 (by decide) (fun h38_18 => ?_) (fun h38_18 => ?_)
        · skip
          have b20x : zB v16 1 2 := by have q1 := b16x; have q2 := (zB.of (x := 0) 0 (by decide)); simp only [z32lt, z32le, z32eq, Int32.reduceToInt, Int32.toInt_zero] at h38_18; constructor <;> omega
          exact J2 b12x (zB.wk (a' := 3) (b' := 4) b18x (by decide) (by decide)) v16 (zB.wk (a' := 0) (b' := 2) b20x (by decide) (by decide)) f hI hF  (by omega)
        · skip
          have b21x : zB v16 0 0 := by have q1 := b16x; have q2 := (zB.of (x := 0) 0 (by decide)); simp only [z32lt, z32le, z32eq, Int32.reduceToInt, Int32.toInt_zero] at h38_18; constructor <;> omega
          exact J1 b12x (zB.wk (a' := 0) (b' := 7) b18x (by decide) (by decide)) v16 (zB.wk (a' := 0) (b' := 2) b21x (by decide) (by decide)) f hI hF  (by omega)
    · skip
      refine z_if_ne (pc := 17) 22 C dX10_paper_17 (by decide) (fun h => absurd (by decide) h) (fun _ => ?_)
      exact J0  f hI hF  (by omega)
  · skip
    refine z_if_eq (pc := 5) 20 C dX10_paper_5 (by decide) (fun _ => ?_) (fun h => absurd (by decide) h)
    exact J0  f hI hF  (by omega)
