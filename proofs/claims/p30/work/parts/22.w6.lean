set_option maxRecDepth 100000 in
set_option maxHeartbeats 4000000 in
theorem m_X10_isDeed (d : Nat) (f : zM) (x : Int32) (hI : zInv f) : ZM (d + 1) yX10_isDeed cX10_isDeed 2 (some .boolean) [zr 25 0, zi x] f (fun r g => r = some (zi (if 0 ≤ x.toInt ∧ x.toInt < (f 25 0 2).toInt then 1 else 0)) ∧ g = f) := by
  refine ZM.intro (by decide +kernel) (Nat.le_of_ble_eq_true rfl) ?_
  intro X C hr hn
  show Z X 0 [some (zr 25 0), some (zi x)] [] f
  refine z_iload_n (pc := 0) C dX10_isDeed_0 rfl ?_
  refine z_i2l (pc := 1) C dX10_isDeed_1 ?_
  refine z_lconst (pc := 2) (v := 0) C dX10_isDeed_2 (by decide) ?_
  refine z_aload_n (pc := 3) C dX10_isDeed_3 rfl ?_
  refine z_getI (pc := 4) C zf_X10_73 rfl rfl (by decide) dX10_isDeed_4 ?_
  refine z_iconst (pc := 7) (v := 1) C dX10_isDeed_7 (by decide) ?_
  refine z_isub (pc := 8) C dX10_isDeed_8 ?_
  refine z_i2l (pc := 9) C dX10_isDeed_9 ?_
  refine z_callSx (pc := 10) C zk_X10_69 (m_X10_in _ _ _ _ _) rfl rfl (Nat.le_of_ble_eq_true rfl) dX10_isDeed_10 ?_
  simp only [Option.toList, List.cons_append, List.nil_append]
  exact z_zret (pc := 13) C hr (by split <;> simp) dX10_isDeed_13 (⟨by have q := hI 25 0 2; have q1 : 0 ≤ (f 25 0 2).toInt := q.1; have q2 : (f 25 0 2).toInt ≤ 8 := q.2; have e : (f 25 0 2 - 1 : Int32).toInt = (f 25 0 2).toInt - 1 := zsub_e (y := 1) (by show _ ≤ _ - (1 : Int); omega) (by show _ - (1 : Int) ≤ _; omega); congr 2; simp only [z64, e, Int64.toInt_zero]; split <;> split <;> first | rfl | omega, rfl⟩)

set_option maxRecDepth 100000 in
set_option maxHeartbeats 4000000 in
theorem m_X10_isPaper (d : Nat) (f : zM) (x : Int32) (hI : zInv f) : ZM (d + 1) yX10_isPaper cX10_isPaper 2 (some .boolean) [zr 25 0, zi x] f (fun r g => r = some (zi (if 0 ≤ x.toInt ∧ x.toInt < (f 25 0 4).toInt then 1 else 0)) ∧ g = f) := by
  refine ZM.intro (by decide +kernel) (Nat.le_of_ble_eq_true rfl) ?_
  intro X C hr hn
  show Z X 0 [some (zr 25 0), some (zi x)] [] f
  refine z_iload_n (pc := 0) C dX10_isPaper_0 rfl ?_
  refine z_i2l (pc := 1) C dX10_isPaper_1 ?_
  refine z_lconst (pc := 2) (v := 0) C dX10_isPaper_2 (by decide) ?_
  refine z_aload_n (pc := 3) C dX10_isPaper_3 rfl ?_
  refine z_getI (pc := 4) C zf_X10_77 rfl rfl (by decide) dX10_isPaper_4 ?_
  refine z_iconst (pc := 7) (v := 1) C dX10_isPaper_7 (by decide) ?_
  refine z_isub (pc := 8) C dX10_isPaper_8 ?_
  refine z_i2l (pc := 9) C dX10_isPaper_9 ?_
  refine z_callSx (pc := 10) C zk_X10_69 (m_X10_in _ _ _ _ _) rfl rfl (Nat.le_of_ble_eq_true rfl) dX10_isPaper_10 ?_
  simp only [Option.toList, List.cons_append, List.nil_append]
  exact z_zret (pc := 13) C hr (by split <;> simp) dX10_isPaper_13 (⟨by have q := hI 25 0 4; have q1 : 0 ≤ (f 25 0 4).toInt := q.1; have q2 : (f 25 0 4).toInt ≤ 12 := q.2; have e : (f 25 0 4 - 1 : Int32).toInt = (f 25 0 4).toInt - 1 := zsub_e (y := 1) (by show _ ≤ _ - (1 : Int); omega) (by show _ - (1 : Int) ≤ _; omega); congr 2; simp only [z64, e, Int64.toInt_zero]; split <;> split <;> first | rfl | omega, rfl⟩)

set_option maxRecDepth 100000 in
set_option maxHeartbeats 4000000 in
theorem w_X10_areCrime (d : Nat) (f : zM) (a1 : Int32) (b1 : zB a1 0 63) (a2 : Int32) (b2 : zB a2 0 23) (hI : zInv f) : ZM d yX10_areCrime cX10_areCrime 3 (some .boolean) [zr 25 0, zi a1, zi a2] f (fun r g => (∃ v, r = some (zi v) ∧ zB v 0 1) ∧ zInv g ∧ zFr [] f g) := by
  refine ZM.intro (by decide +kernel) (Nat.le_of_ble_eq_true rfl) ?_
  intro X C hr hn
  have hF : zFr [] f f := zFr.rf _ _
  have J : ∀ t : Nat, (∀ g : zM, zInv g → zFr [] f g → (1 : Int) < t → Z X 38 [some (zr 25 0), some (zi a1), some (zi a2)] [] g) ∧ (∀ a39_s0 : Int32, zB a39_s0 0 1 → ∀ g : zM, zInv g → zFr [] f g → (0 : Int) < t → Z X 39 [some (zr 25 0), some (zi a1), some (zi a2)] [zi a39_s0] g) := by
    intro t
    induction t with
    | zero =>
      refine ⟨?_, ?_⟩ <;> (intros; exfalso; omega)
    | succ t ih =>
      obtain ⟨ih0, ih1⟩ := ih
      refine ⟨?_, ?_⟩
      · skip
        intro g38_ hI38_ hF38_ hM38_
        refine z_iconst (pc := 38) (v := 0) C dX10_areCrime_38 (by decide) ?_
        exact ih1 0 (zB.wk (a' := 0) (b' := 1) (zB.of (x := 0) 0 (by decide)) (by decide) (by decide)) g38_ hI38_ hF38_  (by have qc0 : (0 : Int32).toInt = 0 := (by decide); omega)
      · skip
        intro a39_s0 b39_s0 g39_ hI39_ hF39_ hM39_
        exact z_zret (pc := 39) C hr (z01 b39_s0) dX10_areCrime_39 ⟨⟨_, rfl, b39_s0⟩, hI39_, hF39_⟩
  obtain ⟨J0, J1⟩ := J 13
  show Z X 0 [some (zr 25 0), some (zi a1), some (zi a2)] [] f
  refine z_aload_n (pc := 0) C dX10_areCrime_0 rfl ?_
  refine z_getR (pc := 1) C zf_X10_7 rfl rfl (by decide) dX10_areCrime_1 ?_
  refine z_bipush (pc := 4) (v := 6) C dX10_areCrime_4 (by decide) ?_
  refine z_iload_n (pc := 6) C dX10_areCrime_6 rfl ?_
  refine z_imul (pc := 7) C dX10_areCrime_7 ?_
  refine w_gp (fun v => v.toInt = 6 * a2.toInt) (zmul_kb 6 (by decide) (by decide) b2 (by decide) (by decide)) (fun v1 e1 => ?_)
  have b1x : zB v1 0 138 := zmul_bb e1 (by decide) b2
  refine z_iconst (pc := 8) (v := 1) C dX10_areCrime_8 (by decide) ?_
  refine z_iadd (pc := 9) C dX10_areCrime_9 ?_
  refine w_gp (fun v => v.toInt = v1.toInt + 1) (zadd_eb b1x (zB.of (x := 1) 1 (by decide)) (by decide) (by decide)) (fun v2 e2 => ?_)
  have b2x : zB v2 1 139 := by have q1 := b1x; have q2 := (zB.of (x := 1) 1 (by decide)); constructor <;> omega
  refine z_iald (pc := 10) C rfl (by decide) (zIx b2x (by decide) (by decide)) dX10_areCrime_10 ?_
  refine w_gb 0 63 (by have hq9 := hI 26 0 v2.toNatClampNeg; rw [zrg26 (r := 1) (by have hq : v2.toNatClampNeg = v2.toInt.toNat := rfl; have hq2 := b2x; omega)] at hq9; exact hq9) (fun v3 b3x => ?_)
  refine z_iload_n (pc := 11) C dX10_areCrime_11 rfl ?_
  refine z_iconst (pc := 12) (v := -1) C dX10_areCrime_12 (by decide) ?_
  refine z_ixor (pc := 13) C dX10_areCrime_13 ?_
  refine w_gb (-2147483648) 2147483647 (zB_any _) (fun v4 b4x => ?_)
  refine z_iand (pc := 14) C dX10_areCrime_14 ?_
  refine w_gb 0 63 (zand_bl b3x b4x (by decide)) (fun v5 b5x => ?_)
  refine z_if_ne (pc := 15) 38 C dX10_areCrime_15 (by decide) (fun h15_5 => ?_) (fun h15_5 => ?_)
  · skip
    have b7x : zB v5 1 63 := by have q1 := b5x; have q2 := (zB.of (x := 0) 0 (by decide)); simp only [z32lt, z32le, z32eq, Int32.reduceToInt, Int32.toInt_zero] at h15_5; constructor <;> omega
    exact J0  f hI hF  (by omega)
  · skip
    have b8x : zB v5 0 0 := by have q1 := b5x; have q2 := (zB.of (x := 0) 0 (by decide)); simp only [z32lt, z32le, z32eq, Int32.reduceToInt, Int32.toInt_zero] at h15_5; constructor <;> omega
    refine z_aload_n (pc := 18) C dX10_areCrime_18 rfl ?_
    refine z_getR (pc := 19) C zf_X10_7 rfl rfl (by decide) dX10_areCrime_19 ?_
    refine z_bipush (pc := 22) (v := 6) C dX10_areCrime_22 (by decide) ?_
    refine z_iload_n (pc := 24) C dX10_areCrime_24 rfl ?_
    refine z_imul (pc := 25) C dX10_areCrime_25 ?_
    refine w_gp (fun v => v.toInt = 6 * a2.toInt) (zmul_kb 6 (by decide) (by decide) b2 (by decide) (by decide)) (fun v9 e9 => ?_)
    have b9x : zB v9 0 138 := zmul_bb e9 (by decide) b2
    refine z_iconst (pc := 26) (v := 2) C dX10_areCrime_26 (by decide) ?_
    refine z_iadd (pc := 27) C dX10_areCrime_27 ?_
    refine w_gp (fun v => v.toInt = v9.toInt + 2) (zadd_eb b9x (zB.of (x := 2) 2 (by decide)) (by decide) (by decide)) (fun v10 e10 => ?_)
    have b10x : zB v10 2 140 := by have q1 := b9x; have q2 := (zB.of (x := 2) 2 (by decide)); constructor <;> omega
    refine z_iald (pc := 28) C rfl (by decide) (zIx b10x (by decide) (by decide)) dX10_areCrime_28 ?_
    refine w_gb 0 63 (by have hq9 := hI 26 0 v10.toNatClampNeg; rw [zrg26 (r := 2) (by have hq : v10.toNatClampNeg = v10.toInt.toNat := rfl; have hq2 := b10x; omega)] at hq9; exact hq9) (fun v11 b11x => ?_)
    refine z_iload_n (pc := 29) C dX10_areCrime_29 rfl ?_
    refine z_iand (pc := 30) C dX10_areCrime_30 ?_
    refine w_gp (fun v => zB v 0 63 ∧ v.toInt ≤ a1.toInt) (zand_r b11x b1 (by decide)) (fun v12 e12 => ?_)
    have b12x := e12.1
    have r12 := e12.2
    refine z_if_ne (pc := 31) 38 C dX10_areCrime_31 (by decide) (fun h31_12 => ?_) (fun h31_12 => ?_)
    · skip
      have b14x : zB v12 1 63 := by have q1 := b12x; have q2 := (zB.of (x := 0) 0 (by decide)); simp only [z32lt, z32le, z32eq, Int32.reduceToInt, Int32.toInt_zero] at h31_12; constructor <;> omega
      exact J0  f hI hF  (by omega)
    · skip
      have b15x : zB v12 0 0 := by have q1 := b12x; have q2 := (zB.of (x := 0) 0 (by decide)); simp only [z32lt, z32le, z32eq, Int32.reduceToInt, Int32.toInt_zero] at h31_12; constructor <;> omega
      refine z_iconst (pc := 34) (v := 1) C dX10_areCrime_34 (by decide) ?_
      refine z_goto (pc := 35) 39 C dX10_areCrime_35 (by decide) ?_
      exact J1 1 (zB.wk (a' := 0) (b' := 1) (zB.of (x := 1) 1 (by decide)) (by decide) (by decide)) f hI hF  (by have qc0 : (1 : Int32).toInt = 1 := (by decide); omega)

set_option maxRecDepth 100000 in
set_option maxHeartbeats 4000000 in
theorem w_X10_crimesOf (d : Nat) (f : zM) (a1 : Int32) (b1 : zB a1 0 63) (a2 : Int32) (b2 : zB a2 0 5) (hI : zInv f) : ZM (d + 1) yX10_crimesOf cX10_crimesOf 5 (some .int) [zr 25 0, zi a1, zi a2] f (fun r g => (∃ v, r = some (zi v) ∧ zB v 0 16777215) ∧ zInv g ∧ zFr [] f g) := by
  refine ZM.intro (by decide +kernel) (Nat.le_of_ble_eq_true rfl) ?_
  intro X C hr hn
  have hF : zFr [] f f := zFr.rf _ _
  have J : ∀ t : Nat, (∀ a5_3 : Int32, zB a5_3 0 16777215 → ∀ a5_4 : Int32, zB a5_4 0 24 → ∀ g : zM, zInv g → zFr [] f g → (2 + 5 * (24 - a5_4.toInt) : Int) < t → Z X 5 [some (zr 25 0), some (zi a1), some (zi a2), some (zi a5_3), some (zi a5_4)] [] g) ∧ (∀ a46_3 : Int32, zB a46_3 0 16777215 → ∀ a46_4 : Int32, zB a46_4 0 23 → ∀ a46_s0 : Int32, zB a46_s0 0 16777215 → ∀ g : zM, zInv g → zFr [] f g → (1 + 5 * (24 - a46_4.toInt) : Int) < t → Z X 46 [some (zr 25 0), some (zi a1), some (zi a2), some (zi a46_3), some (zi a46_4)] [zi a46_s0] g) ∧ (∀ a47_3 : Int32, zB a47_3 0 16777215 → ∀ a47_4 : Int32, zB a47_4 0 23 → ∀ a47_s0 : Int32, zB a47_s0 0 16777215 → ∀ a47_s1 : Int32, zB a47_s1 0 8388608 → ∀ g : zM, zInv g → zFr [] f g → (0 + 5 * (24 - a47_4.toInt) : Int) < t → Z X 47 [some (zr 25 0), some (zi a1), some (zi a2), some (zi a47_3), some (zi a47_4)] [zi a47_s1, zi a47_s0] g) := by
    intro t
    induction t with
    | zero =>
      refine ⟨?_, ?_, ?_⟩ <;> (intros; exfalso; omega)
    | succ t ih =>
      obtain ⟨ih0, ih1, ih2⟩ := ih
      refine ⟨?_, ?_, ?_⟩
      · skip
        intro a5_3 b5_3 a5_4 b5_4 g5_ hI5_ hF5_ hM5_
        refine z_iload (pc := 5) C dX10_crimesOf_5 rfl ?_
        refine z_aload_n (pc := 7) C dX10_crimesOf_7 rfl ?_
        refine z_getI (pc := 8) C zf_X10_80 rfl rfl (by decide) dX10_crimesOf_8 ?_
        refine w_gb 0 24 (hI5_ 25 _ 0) (fun v1 b1x => ?_)
        refine z_icmp_ge (pc := 11) 55 C dX10_crimesOf_11 (by decide) (fun h11_1 => ?_) (fun h11_1 => ?_)
        · skip
          refine z_iload_n (pc := 55) C dX10_crimesOf_55 rfl ?_
          exact z_iret (pc := 56) C hr dX10_crimesOf_56 ⟨⟨_, rfl, b5_3⟩, hI5_, hF5_⟩
        · skip
          have b3x : zB a5_4 0 23 := by have q1 := b5_4; have q2 := b1x; simp only [z32lt, z32le, z32eq, Int32.reduceToInt, Int32.toInt_zero] at h11_1; constructor <;> omega
          have b4x : zB v1 1 24 := by have q1 := b5_4; have q2 := b1x; simp only [z32lt, z32le, z32eq, Int32.reduceToInt, Int32.toInt_zero] at h11_1; constructor <;> omega
          refine z_iload_n (pc := 14) C dX10_crimesOf_14 rfl ?_
          refine z_aload_n (pc := 15) C dX10_crimesOf_15 rfl ?_
          refine z_getR (pc := 16) C zf_X10_7 rfl rfl (by decide) dX10_crimesOf_16 ?_
          refine z_bipush (pc := 19) (v := 6) C dX10_crimesOf_19 (by decide) ?_
          refine z_iload (pc := 21) C dX10_crimesOf_21 rfl ?_
          refine z_imul (pc := 23) C dX10_crimesOf_23 ?_
          refine w_gp (fun v => v.toInt = 6 * a5_4.toInt) (zmul_kb 6 (by decide) (by decide) b3x (by decide) (by decide)) (fun v5 e5 => ?_)
          have b5x : zB v5 0 138 := zmul_bb e5 (by decide) b3x
          refine z_iald (pc := 24) C rfl (by decide) (zIx b5x (by decide) (by decide)) dX10_crimesOf_24 ?_
          refine w_gb 0 5 (by have hq9 := hI5_ 26 0 v5.toNatClampNeg; rw [zrg26 (r := 0) (by have hq : v5.toNatClampNeg = v5.toInt.toNat := rfl; have hq2 := b5x; omega)] at hq9; exact hq9) (fun v6 b6x => ?_)
          refine z_iload_n (pc := 25) C dX10_crimesOf_25 rfl ?_
          refine z_icmp_ne (pc := 26) 46 C dX10_crimesOf_26 (by decide) (fun h26_6 => ?_) (fun h26_6 => ?_)
          · skip
            exact ih1 a5_3 b5_3 a5_4 b3x a5_3 b5_3 g5_ hI5_ hF5_  (by omega)
          · skip
            refine z_aload_n (pc := 29) C dX10_crimesOf_29 rfl ?_
            refine z_iload_n (pc := 30) C dX10_crimesOf_30 rfl ?_
            refine z_iload (pc := 31) C dX10_crimesOf_31 rfl ?_
            refine z_callV (pc := 33) C zk_X10_112 (w_X10_areCrime _ _ a1 b1 a5_4 b3x hI5_) rfl rfl (by decide) rfl rfl (Nat.le_of_ble_eq_true rfl) dX10_crimesOf_33 (fun r8 g8 q8 => ?_)
            obtain ⟨⟨v8, rfl, b8x⟩, hI8, hF8q⟩ := q8
            obtain rfl := zFr_nil hF8q
            simp only [Option.toList, List.cons_append, List.nil_append]
            refine z_if_eq (pc := 36) 46 C dX10_crimesOf_36 (by decide) (fun h36_8 => ?_) (fun h36_8 => ?_)
            · skip
              have b10x : zB v8 0 0 := by have q1 := b8x; have q2 := (zB.of (x := 0) 0 (by decide)); simp only [z32lt, z32le, z32eq, Int32.reduceToInt, Int32.toInt_zero] at h36_8; constructor <;> omega
              exact ih1 a5_3 b5_3 a5_4 b3x a5_3 b5_3 g5_ hI5_ hF5_  (by omega)
            · skip
              have b11x : zB v8 1 1 := by have q1 := b8x; have q2 := (zB.of (x := 0) 0 (by decide)); simp only [z32lt, z32le, z32eq, Int32.reduceToInt, Int32.toInt_zero] at h36_8; constructor <;> omega
              refine z_iconst (pc := 39) (v := 1) C dX10_crimesOf_39 (by decide) ?_
              refine z_iload (pc := 40) C dX10_crimesOf_40 rfl ?_
              refine z_ishl (pc := 42) C dX10_crimesOf_42 ?_
              refine w_gb 0 8388608 (zshl_b b3x 23 (by decide) (by decide)) (fun v12 b12x => ?_)
              refine z_goto (pc := 43) 47 C dX10_crimesOf_43 (by decide) ?_
              exact ih2 a5_3 b5_3 a5_4 b3x a5_3 b5_3 v12 b12x g5_ hI5_ hF5_  (by omega)
      · skip
        intro a46_3 b46_3 a46_4 b46_4 a46_s0 b46_s0 g46_ hI46_ hF46_ hM46_
        refine z_iconst (pc := 46) (v := 0) C dX10_crimesOf_46 (by decide) ?_
        exact ih2 a46_3 b46_3 a46_4 b46_4 a46_s0 b46_s0 0 (zB.wk (a' := 0) (b' := 8388608) (zB.of (x := 0) 0 (by decide)) (by decide) (by decide)) g46_ hI46_ hF46_  (by have qc0 : (0 : Int32).toInt = 0 := (by decide); omega)
      · skip
        intro a47_3 b47_3 a47_4 b47_4 a47_s0 b47_s0 a47_s1 b47_s1 g47_ hI47_ hF47_ hM47_
        refine z_ior (pc := 47) C dX10_crimesOf_47 ?_
        refine w_gb 0 16777215 (zor_b 24 b47_s0 b47_s1 (by decide) (by decide) (by decide) (by decide) (by decide)) (fun v13 b13x => ?_)
        refine z_istore_n (pc := 48) C dX10_crimesOf_48 (by rw [hn]; decide) rfl ?_
        refine z_iinc (pc := 49) (v := 1) C dX10_crimesOf_49 rfl (by decide) (by rw [hn]; decide) rfl ?_
        obtain ⟨v14, hv14, e14⟩ : ∃ v : Int32, v = a47_4 + 1 ∧ v.toInt = a47_4.toInt + 1 := ⟨_, rfl, zadd_eb b47_4 (zB.of (x := 1) 1 (by decide)) (by decide) (by decide)⟩
        rw [← hv14]
        have b14x : zB v14 1 24 := by have q9 := b47_4; constructor <;> omega
        refine z_goto (pc := 52) 5 C dX10_crimesOf_52 (by decide) ?_
        exact ih0 v13 b13x v14 (zB.wk (a' := 0) (b' := 24) b14x (by decide) (by decide)) g47_ hI47_ hF47_  (by omega)
  obtain ⟨J0, J1, J2⟩ := J 139
  show Z X 0 [some (zr 25 0), some (zi a1), some (zi a2), none, none] [] f
  refine z_iconst (pc := 0) (v := 0) C dX10_crimesOf_0 (by decide) ?_
  refine z_istore_n (pc := 1) C dX10_crimesOf_1 (by rw [hn]; decide) rfl ?_
  refine z_iconst (pc := 2) (v := 0) C dX10_crimesOf_2 (by decide) ?_
  refine z_istore (pc := 3) C dX10_crimesOf_3 (by rw [hn]; decide) rfl ?_
  exact J0 0 (zB.wk (a' := 0) (b' := 16777215) (zB.of (x := 0) 0 (by decide)) (by decide) (by decide)) 0 (zB.wk (a' := 0) (b' := 24) (zB.of (x := 0) 0 (by decide)) (by decide) (by decide)) f hI hF  (by have qc0 : (0 : Int32).toInt = 0 := (by decide); omega)

set_option maxRecDepth 100000 in
set_option maxHeartbeats 4000000 in
theorem w_X10_yearsFor (d : Nat) (f : zM) (a1 : Int32) (b1 : zB a1 0 63) (a2 : Int32) (b2 : zB a2 0 5) (hI : zInv f) : ZM (d + 2) yX10_yearsFor cX10_yearsFor 6 (some .int) [zr 25 0, zi a1, zi a2] f (fun r g => (∃ v, r = some (zi v) ∧ zB v 0 40) ∧ zInv g ∧ zFr [] f g) := by
  refine ZM.intro (by decide +kernel) (Nat.le_of_ble_eq_true rfl) ?_
  intro X C hr hn
  have hF : zFr [] f f := zFr.rf _ _
  have J : ∀ t : Nat, (∀ a13_3 : Int32, zB a13_3 0 16777215 → ∀ a13_4 : Int32, zB a13_4 0 40 → ∀ a13_5 : Int32, zB a13_5 0 24 → ∀ g : zM, zInv g → zFr [] f g → (2 + 5 * (24 - a13_5.toInt) : Int) < t → Z X 13 [some (zr 25 0), some (zi a1), some (zi a2), some (zi a13_3), some (zi a13_4), some (zi a13_5)] [] g) ∧ (∀ a64_3 : Int32, zB a64_3 0 16777215 → ∀ a64_4 : Int32, zB a64_4 0 40 → ∀ a64_5 : Int32, zB a64_5 0 23 → ∀ g : zM, zInv g → zFr [] f g → (1 + 5 * (24 - a64_5.toInt) : Int) < t → Z X 64 [some (zr 25 0), some (zi a1), some (zi a2), some (zi a64_3), some (zi a64_4), some (zi a64_5)] [] g) ∧ (∀ a66_3 : Int32, zB a66_3 0 16777215 → ∀ a66_4 : Int32, zB a66_4 0 40 → ∀ a66_5 : Int32, zB a66_5 0 23 → ∀ a66_s0 : Int32, zB a66_s0 0 40 → ∀ g : zM, zInv g → zFr [] f g → (0 + 5 * (24 - a66_5.toInt) : Int) < t → Z X 66 [some (zr 25 0), some (zi a1), some (zi a2), some (zi a66_3), some (zi a66_4), some (zi a66_5)] [zi a66_s0] g) := by
    intro t
    induction t with
    | zero =>
      refine ⟨?_, ?_, ?_⟩ <;> (intros; exfalso; omega)
    | succ t ih =>
      obtain ⟨ih0, ih1, ih2⟩ := ih
      refine ⟨?_, ?_, ?_⟩
      · skip
        intro a13_3 b13_3 a13_4 b13_4 a13_5 b13_5 g13_ hI13_ hF13_ hM13_
        refine z_iload (pc := 13) C dX10_yearsFor_13 rfl ?_
        refine z_aload_n (pc := 15) C dX10_yearsFor_15 rfl ?_
        refine z_getI (pc := 16) C zf_X10_80 rfl rfl (by decide) dX10_yearsFor_16 ?_
        refine w_gb 0 24 (hI13_ 25 _ 0) (fun v1 b1x => ?_)
        refine z_icmp_ge (pc := 19) 74 C dX10_yearsFor_19 (by decide) (fun h19_1 => ?_) (fun h19_1 => ?_)
        · skip
          refine z_iload (pc := 74) C dX10_yearsFor_74 rfl ?_
          exact z_iret (pc := 76) C hr dX10_yearsFor_76 ⟨⟨_, rfl, b13_4⟩, hI13_, hF13_⟩
        · skip
          have b3x : zB a13_5 0 23 := by have q1 := b13_5; have q2 := b1x; simp only [z32lt, z32le, z32eq, Int32.reduceToInt, Int32.toInt_zero] at h19_1; constructor <;> omega
          have b4x : zB v1 1 24 := by have q1 := b13_5; have q2 := b1x; simp only [z32lt, z32le, z32eq, Int32.reduceToInt, Int32.toInt_zero] at h19_1; constructor <;> omega
          refine z_iload_n (pc := 22) C dX10_yearsFor_22 rfl ?_
          refine z_iload (pc := 23) C dX10_yearsFor_23 rfl ?_
          refine z_ishr (pc := 25) C dX10_yearsFor_25 ?_
          refine w_gb (-2147483648) 2147483647 (zB_any _) (fun v5 b5x => ?_)
          refine z_iconst (pc := 26) (v := 1) C dX10_yearsFor_26 (by decide) ?_
          refine z_iand (pc := 27) C dX10_yearsFor_27 ?_
          refine w_gb 0 1 (zand_b b5x (zB.of (x := 1) 1 (by decide)) (by decide)) (fun v6 b6x => ?_)
          refine z_iconst (pc := 28) (v := 1) C dX10_yearsFor_28 (by decide) ?_
          refine z_icmp_ne (pc := 29) 64 C dX10_yearsFor_29 (by decide) (fun h29_6 => ?_) (fun h29_6 => ?_)
          · skip
            have b8x : zB v6 0 0 := by have q1 := b6x; have q2 := (zB.of (x := 1) 1 (by decide)); simp only [z32lt, z32le, z32eq, Int32.reduceToInt, Int32.toInt_zero] at h29_6; constructor <;> omega
            exact ih1 a13_3 b13_3 a13_4 b13_4 a13_5 b3x g13_ hI13_ hF13_  (by omega)
          · skip
            have b9x : zB v6 1 1 := by have q1 := b6x; have q2 := (zB.of (x := 1) 1 (by decide)); simp only [z32lt, z32le, z32eq, Int32.reduceToInt, Int32.toInt_zero] at h29_6; constructor <;> omega
            refine z_aload_n (pc := 32) C dX10_yearsFor_32 rfl ?_
            refine z_getR (pc := 33) C zf_X10_7 rfl rfl (by decide) dX10_yearsFor_33 ?_
            refine z_bipush (pc := 36) (v := 6) C dX10_yearsFor_36 (by decide) ?_
            refine z_iload (pc := 38) C dX10_yearsFor_38 rfl ?_
            refine z_imul (pc := 40) C dX10_yearsFor_40 ?_
            refine w_gp (fun v => v.toInt = 6 * a13_5.toInt) (zmul_kb 6 (by decide) (by decide) b3x (by decide) (by decide)) (fun v10 e10 => ?_)
            have b10x : zB v10 0 138 := zmul_bb e10 (by decide) b3x
            refine z_iconst (pc := 41) (v := 4) C dX10_yearsFor_41 (by decide) ?_
            refine z_iadd (pc := 42) C dX10_yearsFor_42 ?_
            refine w_gp (fun v => v.toInt = v10.toInt + 4) (zadd_eb b10x (zB.of (x := 4) 4 (by decide)) (by decide) (by decide)) (fun v11 e11 => ?_)
            have b11x : zB v11 4 142 := by have q1 := b10x; have q2 := (zB.of (x := 4) 4 (by decide)); constructor <;> omega
            refine z_iald (pc := 43) C rfl (by decide) (zIx b11x (by decide) (by decide)) dX10_yearsFor_43 ?_
            refine w_gb 0 40 (by have hq9 := hI13_ 26 0 v11.toNatClampNeg; rw [zrg26 (r := 4) (by have hq : v11.toNatClampNeg = v11.toInt.toNat := rfl; have hq2 := b11x; omega)] at hq9; exact hq9) (fun v12 b12x => ?_)
            refine z_iload (pc := 44) C dX10_yearsFor_44 rfl ?_
            refine z_icmp_le (pc := 46) 64 C dX10_yearsFor_46 (by decide) (fun h46_12 => ?_) (fun h46_12 => ?_)
            · skip
              exact ih1 a13_3 b13_3 a13_4 b13_4 a13_5 b3x g13_ hI13_ hF13_  (by omega)
            · skip
              have b14x : zB v12 1 40 := by have q1 := b12x; have q2 := b13_4; simp only [z32lt, z32le, z32eq, Int32.reduceToInt, Int32.toInt_zero] at h46_12; constructor <;> omega
              have b15x : zB a13_4 0 39 := by have q1 := b12x; have q2 := b13_4; simp only [z32lt, z32le, z32eq, Int32.reduceToInt, Int32.toInt_zero] at h46_12; constructor <;> omega
              refine z_aload_n (pc := 49) C dX10_yearsFor_49 rfl ?_
              refine z_getR (pc := 50) C zf_X10_7 rfl rfl (by decide) dX10_yearsFor_50 ?_
              refine z_bipush (pc := 53) (v := 6) C dX10_yearsFor_53 (by decide) ?_
              refine z_iload (pc := 55) C dX10_yearsFor_55 rfl ?_
              refine z_imul (pc := 57) C dX10_yearsFor_57 ?_
              refine w_gp (fun v => v.toInt = 6 * a13_5.toInt) (zmul_kb 6 (by decide) (by decide) b3x (by decide) (by decide)) (fun v16 e16 => ?_)
              have b16x : zB v16 0 138 := zmul_bb e16 (by decide) b3x
              refine z_iconst (pc := 58) (v := 4) C dX10_yearsFor_58 (by decide) ?_
              refine z_iadd (pc := 59) C dX10_yearsFor_59 ?_
              refine w_gp (fun v => v.toInt = v16.toInt + 4) (zadd_eb b16x (zB.of (x := 4) 4 (by decide)) (by decide) (by decide)) (fun v17 e17 => ?_)
              have b17x : zB v17 4 142 := by have q1 := b16x; have q2 := (zB.of (x := 4) 4 (by decide)); constructor <;> omega
              refine z_iald (pc := 60) C rfl (by decide) (zIx b17x (by decide) (by decide)) dX10_yearsFor_60 ?_
              refine w_gb 0 40 (by have hq9 := hI13_ 26 0 v17.toNatClampNeg; rw [zrg26 (r := 4) (by have hq : v17.toNatClampNeg = v17.toInt.toNat := rfl; have hq2 := b17x; omega)] at hq9; exact hq9) (fun v18 b18x => ?_)
              refine z_goto (pc := 61) 66 C dX10_yearsFor_61 (by decide) ?_
              exact ih2 a13_3 b13_3 a13_4 (zB.wk (a' := 0) (b' := 40) b15x (by decide) (by decide)) a13_5 b3x v18 b18x g13_ hI13_ hF13_  (by omega)
      · skip
        intro a64_3 b64_3 a64_4 b64_4 a64_5 b64_5 g64_ hI64_ hF64_ hM64_
        refine z_iload (pc := 64) C dX10_yearsFor_64 rfl ?_
        exact ih2 a64_3 b64_3 a64_4 b64_4 a64_5 b64_5 a64_4 b64_4 g64_ hI64_ hF64_  (by omega)
      · skip
        intro a66_3 b66_3 a66_4 b66_4 a66_5 b66_5 a66_s0 b66_s0 g66_ hI66_ hF66_ hM66_
        refine z_istore (pc := 66) C dX10_yearsFor_66 (by rw [hn]; decide) rfl ?_
        refine z_iinc (pc := 68) (v := 1) C dX10_yearsFor_68 rfl (by decide) (by rw [hn]; decide) rfl ?_
        obtain ⟨v19, hv19, e19⟩ : ∃ v : Int32, v = a66_5 + 1 ∧ v.toInt = a66_5.toInt + 1 := ⟨_, rfl, zadd_eb b66_5 (zB.of (x := 1) 1 (by decide)) (by decide) (by decide)⟩
        rw [← hv19]
        have b19x : zB v19 1 24 := by have q9 := b66_5; constructor <;> omega
        refine z_goto (pc := 71) 13 C dX10_yearsFor_71 (by decide) ?_
        exact ih0 a66_3 b66_3 a66_s0 b66_s0 v19 (zB.wk (a' := 0) (b' := 24) b19x (by decide) (by decide)) g66_ hI66_ hF66_  (by omega)
  obtain ⟨J0, J1, J2⟩ := J 139
  show Z X 0 [some (zr 25 0), some (zi a1), some (zi a2), none, none, none] [] f
  refine z_aload_n (pc := 0) C dX10_yearsFor_0 rfl ?_
  refine z_iload_n (pc := 1) C dX10_yearsFor_1 rfl ?_
  refine z_iload_n (pc := 2) C dX10_yearsFor_2 rfl ?_
  refine z_callV (pc := 3) C zk_X10_116 (w_X10_crimesOf _ _ a1 b1 a2 b2 hI) rfl rfl (by decide) rfl rfl (Nat.le_of_ble_eq_true rfl) dX10_yearsFor_3 (fun r20 g20 q20 => ?_)
  obtain ⟨⟨v20, rfl, b20x⟩, hI20, hF20q⟩ := q20
  obtain rfl := zFr_nil hF20q
  simp only [Option.toList, List.cons_append, List.nil_append]
  refine z_istore_n (pc := 6) C dX10_yearsFor_6 (by rw [hn]; decide) rfl ?_
  refine z_iconst (pc := 7) (v := 0) C dX10_yearsFor_7 (by decide) ?_
  refine z_istore (pc := 8) C dX10_yearsFor_8 (by rw [hn]; decide) rfl ?_
  refine z_iconst (pc := 10) (v := 0) C dX10_yearsFor_10 (by decide) ?_
  refine z_istore (pc := 11) C dX10_yearsFor_11 (by rw [hn]; decide) rfl ?_
  exact J0 v20 b20x 0 (zB.wk (a' := 0) (b' := 40) (zB.of (x := 0) 0 (by decide)) (by decide) (by decide)) 0 (zB.wk (a' := 0) (b' := 24) (zB.of (x := 0) 0 (by decide)) (by decide) (by decide)) f hI hF  (by have qc0 : (0 : Int32).toInt = 0 := (by decide); omega)

set_option maxRecDepth 100000 in
set_option maxHeartbeats 4000000 in
theorem w_X10_isDeadly (d : Nat) (f : zM) (a1 : Int32) (b1 : zB a1 0 7) (a2 : Int32) (b2 : zB a2 0 5) (hI : zInv f) : ZM (d + 2) yX10_isDeadly cX10_isDeadly 6 (some .boolean) [zr 25 0, zi a1, zi a2] f (fun r g => (∃ v, r = some (zi v) ∧ zB v 0 1) ∧ zInv g ∧ zFr [] f g) := by
  refine ZM.intro (by decide +kernel) (Nat.le_of_ble_eq_true rfl) ?_
  intro X C hr hn
  have hF : zFr [] f f := zFr.rf _ _
  have J : ∀ t : Nat, (∀ a20_3 : Int32, zB a20_3 0 16777215 → ∀ a20_4 : Int32, zB a20_4 0 1 → ∀ a20_5 : Int32, zB a20_5 0 24 → ∀ g : zM, zInv g → zFr [] f g → (3 + 6 * (24 - a20_5.toInt) : Int) < t → Z X 20 [some (zr 25 0), some (zi a1), some (zi a2), some (zi a20_3), some (zi a20_4), some (zi a20_5)] [] g) ∧ (∀ a60_3 : Int32, zB a60_3 0 16777215 → ∀ a60_4 : Int32, zB a60_4 0 1 → ∀ a60_5 : Int32, zB a60_5 0 23 → ∀ g : zM, zInv g → zFr [] f g → (2 + 6 * (24 - a60_5.toInt) : Int) < t → Z X 60 [some (zr 25 0), some (zi a1), some (zi a2), some (zi a60_3), some (zi a60_4), some (zi a60_5)] [] g) ∧ (∀ a64_3 : Int32, zB a64_3 0 16777215 → ∀ a64_4 : Int32, zB a64_4 0 0 → ∀ a64_5 : Int32, zB a64_5 0 23 → ∀ g : zM, zInv g → zFr [] f g → (1 + 6 * (24 - a64_5.toInt) : Int) < t → Z X 64 [some (zr 25 0), some (zi a1), some (zi a2), some (zi a64_3), some (zi a64_4), some (zi a64_5)] [] g) ∧ (∀ a65_3 : Int32, zB a65_3 0 16777215 → ∀ a65_4 : Int32, zB a65_4 0 1 → ∀ a65_5 : Int32, zB a65_5 0 23 → ∀ a65_s0 : Int32, zB a65_s0 0 1 → ∀ g : zM, zInv g → zFr [] f g → (0 + 6 * (24 - a65_5.toInt) : Int) < t → Z X 65 [some (zr 25 0), some (zi a1), some (zi a2), some (zi a65_3), some (zi a65_4), some (zi a65_5)] [zi a65_s0] g) := by
    intro t
    induction t with
    | zero =>
      refine ⟨?_, ?_, ?_, ?_⟩ <;> (intros; exfalso; omega)
    | succ t ih =>
      obtain ⟨ih0, ih1, ih2, ih3⟩ := ih
      refine ⟨?_, ?_, ?_, ?_⟩
      · skip
        intro a20_3 b20_3 a20_4 b20_4 a20_5 b20_5 g20_ hI20_ hF20_ hM20_
        refine z_iload (pc := 20) C dX10_isDeadly_20 rfl ?_
        refine z_aload_n (pc := 22) C dX10_isDeadly_22 rfl ?_
        refine z_getI (pc := 23) C zf_X10_80 rfl rfl (by decide) dX10_isDeadly_23 ?_
        refine w_gb 0 24 (hI20_ 25 _ 0) (fun v1 b1x => ?_)
        refine z_icmp_ge (pc := 26) 73 C dX10_isDeadly_26 (by decide) (fun h26_1 => ?_) (fun h26_1 => ?_)
        · skip
          refine z_iload (pc := 73) C dX10_isDeadly_73 rfl ?_
          exact z_zret (pc := 75) C hr (z01 b20_4) dX10_isDeadly_75 ⟨⟨_, rfl, b20_4⟩, hI20_, hF20_⟩
        · skip
          have b3x : zB a20_5 0 23 := by have q1 := b20_5; have q2 := b1x; simp only [z32lt, z32le, z32eq, Int32.reduceToInt, Int32.toInt_zero] at h26_1; constructor <;> omega
          have b4x : zB v1 1 24 := by have q1 := b20_5; have q2 := b1x; simp only [z32lt, z32le, z32eq, Int32.reduceToInt, Int32.toInt_zero] at h26_1; constructor <;> omega
          refine z_iload (pc := 29) C dX10_isDeadly_29 rfl ?_
          refine z_if_ne (pc := 31) 60 C dX10_isDeadly_31 (by decide) (fun h31_4 => ?_) (fun h31_4 => ?_)
          · skip
            have b6x : zB a20_4 1 1 := by have q1 := b20_4; have q2 := (zB.of (x := 0) 0 (by decide)); simp only [z32lt, z32le, z32eq, Int32.reduceToInt, Int32.toInt_zero] at h31_4; constructor <;> omega
            exact ih1 a20_3 b20_3 a20_4 (zB.wk (a' := 0) (b' := 1) b6x (by decide) (by decide)) a20_5 b3x g20_ hI20_ hF20_  (by omega)
          · skip
            have b7x : zB a20_4 0 0 := by have q1 := b20_4; have q2 := (zB.of (x := 0) 0 (by decide)); simp only [z32lt, z32le, z32eq, Int32.reduceToInt, Int32.toInt_zero] at h31_4; constructor <;> omega
            refine z_iload_n (pc := 34) C dX10_isDeadly_34 rfl ?_
            refine z_iload (pc := 35) C dX10_isDeadly_35 rfl ?_
            refine z_ishr (pc := 37) C dX10_isDeadly_37 ?_
            refine w_gb (-2147483648) 2147483647 (zB_any _) (fun v8 b8x => ?_)
            refine z_iconst (pc := 38) (v := 1) C dX10_isDeadly_38 (by decide) ?_
            refine z_iand (pc := 39) C dX10_isDeadly_39 ?_
            refine w_gb 0 1 (zand_b b8x (zB.of (x := 1) 1 (by decide)) (by decide)) (fun v9 b9x => ?_)
            refine z_iconst (pc := 40) (v := 1) C dX10_isDeadly_40 (by decide) ?_
            refine z_icmp_ne (pc := 41) 64 C dX10_isDeadly_41 (by decide) (fun h41_9 => ?_) (fun h41_9 => ?_)
            · skip
              have b11x : zB v9 0 0 := by have q1 := b9x; have q2 := (zB.of (x := 1) 1 (by decide)); simp only [z32lt, z32le, z32eq, Int32.reduceToInt, Int32.toInt_zero] at h41_9; constructor <;> omega
              exact ih2 a20_3 b20_3 a20_4 b7x a20_5 b3x g20_ hI20_ hF20_  (by omega)
            · skip
              have b12x : zB v9 1 1 := by have q1 := b9x; have q2 := (zB.of (x := 1) 1 (by decide)); simp only [z32lt, z32le, z32eq, Int32.reduceToInt, Int32.toInt_zero] at h41_9; constructor <;> omega
              refine z_aload_n (pc := 44) C dX10_isDeadly_44 rfl ?_
              refine z_getR (pc := 45) C zf_X10_7 rfl rfl (by decide) dX10_isDeadly_45 ?_
              refine z_bipush (pc := 48) (v := 6) C dX10_isDeadly_48 (by decide) ?_
              refine z_iload (pc := 50) C dX10_isDeadly_50 rfl ?_
              refine z_imul (pc := 52) C dX10_isDeadly_52 ?_
              refine w_gp (fun v => v.toInt = 6 * a20_5.toInt) (zmul_kb 6 (by decide) (by decide) b3x (by decide) (by decide)) (fun v13 e13 => ?_)
              have b13x : zB v13 0 138 := zmul_bb e13 (by decide) b3x
              refine z_iconst (pc := 53) (v := 5) C dX10_isDeadly_53 (by decide) ?_
              refine z_iadd (pc := 54) C dX10_isDeadly_54 ?_
              refine w_gp (fun v => v.toInt = v13.toInt + 5) (zadd_eb b13x (zB.of (x := 5) 5 (by decide)) (by decide) (by decide)) (fun v14 e14 => ?_)
              have b14x : zB v14 5 143 := by have q1 := b13x; have q2 := (zB.of (x := 5) 5 (by decide)); constructor <;> omega
              refine z_iald (pc := 55) C rfl (by decide) (zIx b14x (by decide) (by decide)) dX10_isDeadly_55 ?_
              refine w_gb 0 1 (by have hq9 := hI20_ 26 0 v14.toNatClampNeg; rw [zrg26 (r := 5) (by have hq : v14.toNatClampNeg = v14.toInt.toNat := rfl; have hq2 := b14x; omega)] at hq9; exact hq9) (fun v15 b15x => ?_)
              refine z_iconst (pc := 56) (v := 1) C dX10_isDeadly_56 (by decide) ?_
              refine z_icmp_ne (pc := 57) 64 C dX10_isDeadly_57 (by decide) (fun h57_15 => ?_) (fun h57_15 => ?_)
              · skip
                have b17x : zB v15 0 0 := by have q1 := b15x; have q2 := (zB.of (x := 1) 1 (by decide)); simp only [z32lt, z32le, z32eq, Int32.reduceToInt, Int32.toInt_zero] at h57_15; constructor <;> omega
                exact ih2 a20_3 b20_3 a20_4 b7x a20_5 b3x g20_ hI20_ hF20_  (by omega)
              · skip
                have b18x : zB v15 1 1 := by have q1 := b15x; have q2 := (zB.of (x := 1) 1 (by decide)); simp only [z32lt, z32le, z32eq, Int32.reduceToInt, Int32.toInt_zero] at h57_15; constructor <;> omega
                exact ih1 a20_3 b20_3 a20_4 (zB.wk (a' := 0) (b' := 1) b7x (by decide) (by decide)) a20_5 b3x g20_ hI20_ hF20_  (by omega)
      · skip
        intro a60_3 b60_3 a60_4 b60_4 a60_5 b60_5 g60_ hI60_ hF60_ hM60_
        refine z_iconst (pc := 60) (v := 1) C dX10_isDeadly_60 (by decide) ?_
        refine z_goto (pc := 61) 65 C dX10_isDeadly_61 (by decide) ?_
        exact ih3 a60_3 b60_3 a60_4 b60_4 a60_5 b60_5 1 (zB.wk (a' := 0) (b' := 1) (zB.of (x := 1) 1 (by decide)) (by decide) (by decide)) g60_ hI60_ hF60_  (by have qc0 : (1 : Int32).toInt = 1 := (by decide); omega)
      · skip
        intro a64_3 b64_3 a64_4 b64_4 a64_5 b64_5 g64_ hI64_ hF64_ hM64_
        refine z_iconst (pc := 64) (v := 0) C dX10_isDeadly_64 (by decide) ?_
        exact ih3 a64_3 b64_3 a64_4 (zB.wk (a' := 0) (b' := 1) b64_4 (by decide) (by decide)) a64_5 b64_5 0 (zB.wk (a' := 0) (b' := 1) (zB.of (x := 0) 0 (by decide)) (by decide) (by decide)) g64_ hI64_ hF64_  (by have qc0 : (0 : Int32).toInt = 0 := (by decide); omega)
      · skip
        intro a65_3 b65_3 a65_4 b65_4 a65_5 b65_5 a65_s0 b65_s0 g65_ hI65_ hF65_ hM65_
        refine z_istore (pc := 65) C dX10_isDeadly_65 (by rw [hn]; decide) rfl ?_
        refine z_iinc (pc := 67) (v := 1) C dX10_isDeadly_67 rfl (by decide) (by rw [hn]; decide) rfl ?_
        obtain ⟨v19, hv19, e19⟩ : ∃ v : Int32, v = a65_5 + 1 ∧ v.toInt = a65_5.toInt + 1 := ⟨_, rfl, zadd_eb b65_5 (zB.of (x := 1) 1 (by decide)) (by decide) (by decide)⟩
        rw [← hv19]
        have b19x : zB v19 1 24 := by have q9 := b65_5; constructor <;> omega
        refine z_goto (pc := 70) 20 C dX10_isDeadly_70 (by decide) ?_
        exact ih0 a65_3 b65_3 a65_s0 b65_s0 v19 (zB.wk (a' := 0) (b' := 24) b19x (by decide) (by decide)) g65_ hI65_ hF65_  (by omega)
  obtain ⟨J0, J1, J2, J3⟩ := J 165
  show Z X 0 [some (zr 25 0), some (zi a1), some (zi a2), none, none, none] [] f
  refine z_aload_n (pc := 0) C dX10_isDeadly_0 rfl ?_
  refine z_aload_n (pc := 1) C dX10_isDeadly_1 rfl ?_
  refine z_getR (pc := 2) C zf_X10_13 rfl rfl (by decide) dX10_isDeadly_2 ?_
  refine z_iconst (pc := 5) (v := 5) C dX10_isDeadly_5 (by decide) ?_
  refine z_iload_n (pc := 6) C dX10_isDeadly_6 rfl ?_
  refine z_imul (pc := 7) C dX10_isDeadly_7 ?_
  refine w_gp (fun v => v.toInt = 5 * a1.toInt) (zmul_kb 5 (by decide) (by decide) b1 (by decide) (by decide)) (fun v20 e20 => ?_)
  have b20x : zB v20 0 35 := zmul_bb e20 (by decide) b1
  refine z_iald (pc := 8) C rfl (by decide) (zIx b20x (by decide) (by decide)) dX10_isDeadly_8 ?_
  refine w_gb 0 63 (by have hq9 := hI 27 0 v20.toNatClampNeg; rw [zrg27 (r := 0) (by have hq : v20.toNatClampNeg = v20.toInt.toNat := rfl; have hq2 := b20x; omega)] at hq9; exact hq9) (fun v21 b21x => ?_)
  refine z_iload_n (pc := 9) C dX10_isDeadly_9 rfl ?_
  refine z_callV (pc := 10) C zk_X10_116 (w_X10_crimesOf _ _ v21 b21x a2 b2 hI) rfl rfl (by decide) rfl rfl (Nat.le_of_ble_eq_true rfl) dX10_isDeadly_10 (fun r22 g22 q22 => ?_)
  obtain ⟨⟨v22, rfl, b22x⟩, hI22, hF22q⟩ := q22
  obtain rfl := zFr_nil hF22q
  simp only [Option.toList, List.cons_append, List.nil_append]
  refine z_istore_n (pc := 13) C dX10_isDeadly_13 (by rw [hn]; decide) rfl ?_
  refine z_iconst (pc := 14) (v := 0) C dX10_isDeadly_14 (by decide) ?_
  refine z_istore (pc := 15) C dX10_isDeadly_15 (by rw [hn]; decide) rfl ?_
  refine z_iconst (pc := 17) (v := 0) C dX10_isDeadly_17 (by decide) ?_
  refine z_istore (pc := 18) C dX10_isDeadly_18 (by rw [hn]; decide) rfl ?_
  exact J0 v22 b22x 0 (zB.wk (a' := 0) (b' := 1) (zB.of (x := 0) 0 (by decide)) (by decide) (by decide)) 0 (zB.wk (a' := 0) (b' := 24) (zB.of (x := 0) 0 (by decide)) (by decide) (by decide)) f hI hF  (by have qc0 : (0 : Int32).toInt = 0 := (by decide); omega)

set_option maxRecDepth 100000 in
set_option maxHeartbeats 4000000 in
theorem w_X10_isCovered (d : Nat) (f : zM) (a1 : Int32) (b1 : zB a1 0 11) (a2 : Int32) (b2 : zB a2 0 7) (hI : zInv f) : ZM (d + 3) yX10_isCovered cX10_isCovered 6 (some .boolean) [zr 25 0, zi a1, zi a2] f (fun r g => (∃ v, r = some (zi v) ∧ zB v 0 1) ∧ zInv g ∧ zFr [] f g) := by
  refine ZM.intro (by decide +kernel) (Nat.le_of_ble_eq_true rfl) ?_
  intro X C hr hn
  have hF : zFr [] f f := zFr.rf _ _
  have J : ∀ t : Nat, (∀ a77_3 : Int32, zB a77_3 0 88 → a77_3.toInt % 8 = 0 → ∀ a77_4 : Int32, zB a77_4 0 63 → ∀ a77_5 : Int32, zB a77_5 0 63 → ∀ g : zM, zInv g → zFr [] f g → (3 : Int) < t → Z X 77 [some (zr 25 0), some (zi a1), some (zi a2), some (zi a77_3), some (zi a77_4), some (zi a77_5)] [] g) ∧ (∀ a120_3 : Int32, zB a120_3 0 88 → a120_3.toInt % 8 = 0 → ∀ a120_4 : Int32, zB a120_4 0 63 → ∀ a120_5 : Int32, zB a120_5 0 63 → ∀ a120_s0 : Int32, zB a120_s0 0 1 → ∀ g : zM, zInv g → zFr [] f g → (2 : Int) < t → Z X 120 [some (zr 25 0), some (zi a1), some (zi a2), some (zi a120_3), some (zi a120_4), some (zi a120_5)] [zi a120_s0] g) ∧ (∀ a141_3 : Int32, zB a141_3 0 88 → a141_3.toInt % 8 = 0 → ∀ a141_4 : Int32, zB a141_4 0 63 → ∀ a141_5 : Int32, zB a141_5 0 63 → ∀ g : zM, zInv g → zFr [] f g → (1 : Int) < t → Z X 141 [some (zr 25 0), some (zi a1), some (zi a2), some (zi a141_3), some (zi a141_4), some (zi a141_5)] [] g) ∧ (∀ a146_3 : Int32, zB a146_3 0 88 → a146_3.toInt % 8 = 0 → ∀ a146_4 : Int32, zB a146_4 0 63 → ∀ a146_5 : Int32, zB a146_5 0 63 → ∀ a146_s0 : Int32, zB a146_s0 0 1 → ∀ g : zM, zInv g → zFr [] f g → (0 : Int) < t → Z X 146 [some (zr 25 0), some (zi a1), some (zi a2), some (zi a146_3), some (zi a146_4), some (zi a146_5)] [zi a146_s0] g) := by
    intro t
    induction t with
    | zero =>
      refine ⟨?_, ?_, ?_, ?_⟩ <;> (intros; exfalso; omega)
    | succ t ih =>
      obtain ⟨ih0, ih1, ih2, ih3⟩ := ih
      refine ⟨?_, ?_, ?_, ?_⟩
      · skip
        intro a77_3 b77_3 n77_3 a77_4 b77_4 a77_5 b77_5 g77_ hI77_ hF77_ hM77_
        refine z_iconst (pc := 77) (v := 0) C dX10_isCovered_77 (by decide) ?_
        exact z_zret (pc := 78) C hr (z01 (zB.wk (a' := 0) (b' := 1) (zB.of (x := 0) 0 (by decide)) (by decide) (by decide))) dX10_isCovered_78 ⟨⟨_, rfl, (zB.wk (a' := 0) (b' := 1) (zB.of (x := 0) 0 (by decide)) (by decide) (by decide))⟩, hI77_, hF77_⟩
      · skip
        intro a120_3 b120_3 n120_3 a120_4 b120_4 a120_5 b120_5 a120_s0 b120_s0 g120_ hI120_ hF120_ hM120_
        exact z_zret (pc := 120) C hr (z01 b120_s0) dX10_isCovered_120 ⟨⟨_, rfl, b120_s0⟩, hI120_, hF120_⟩
      · skip
        intro a141_3 b141_3 n141_3 a141_4 b141_4 a141_5 b141_5 g141_ hI141_ hF141_ hM141_
        refine z_iconst (pc := 141) (v := 1) C dX10_isCovered_141 (by decide) ?_
        refine z_goto (pc := 142) 146 C dX10_isCovered_142 (by decide) ?_
        exact ih3 a141_3 b141_3 (by have qc0 : (1 : Int32).toInt = 1 := (by decide); omega) a141_4 b141_4 a141_5 b141_5 1 (zB.wk (a' := 0) (b' := 1) (zB.of (x := 1) 1 (by decide)) (by decide) (by decide)) g141_ hI141_ hF141_  (by have qc0 : (1 : Int32).toInt = 1 := (by decide); omega)
      · skip
        intro a146_3 b146_3 n146_3 a146_4 b146_4 a146_5 b146_5 a146_s0 b146_s0 g146_ hI146_ hF146_ hM146_
        exact z_zret (pc := 146) C hr (z01 b146_s0) dX10_isCovered_146 ⟨⟨_, rfl, b146_s0⟩, hI146_, hF146_⟩
  obtain ⟨J0, J1, J2, J3⟩ := J 15
  show Z X 0 [some (zr 25 0), some (zi a1), some (zi a2), none, none, none] [] f
  refine z_bipush (pc := 0) (v := 8) C dX10_isCovered_0 (by decide) ?_
  refine z_iload_n (pc := 2) C dX10_isCovered_2 rfl ?_
  refine z_imul (pc := 3) C dX10_isCovered_3 ?_
  refine w_gp (fun v => v.toInt = 8 * a1.toInt) (zmul_kb 8 (by decide) (by decide) b1 (by decide) (by decide)) (fun v1 e1 => ?_)
  have b1x : zB v1 0 88 := zmul_bb e1 (by decide) b1
  refine z_istore_n (pc := 4) C dX10_isCovered_4 (by rw [hn]; decide) rfl ?_
  refine z_aload_n (pc := 5) C dX10_isCovered_5 rfl ?_
  refine z_getR (pc := 6) C zf_X10_13 rfl rfl (by decide) dX10_isCovered_6 ?_
  refine z_iconst (pc := 9) (v := 5) C dX10_isCovered_9 (by decide) ?_
  refine z_iload_n (pc := 10) C dX10_isCovered_10 rfl ?_
  refine z_imul (pc := 11) C dX10_isCovered_11 ?_
  refine w_gp (fun v => v.toInt = 5 * a2.toInt) (zmul_kb 5 (by decide) (by decide) b2 (by decide) (by decide)) (fun v2 e2 => ?_)
  have b2x : zB v2 0 35 := zmul_bb e2 (by decide) b2
  refine z_iald (pc := 12) C rfl (by decide) (zIx b2x (by decide) (by decide)) dX10_isCovered_12 ?_
  refine w_gb 0 63 (by have hq9 := hI 27 0 v2.toNatClampNeg; rw [zrg27 (r := 0) (by have hq : v2.toNatClampNeg = v2.toInt.toNat := rfl; have hq2 := b2x; omega)] at hq9; exact hq9) (fun v3 b3x => ?_)
  refine z_istore (pc := 13) C dX10_isCovered_13 (by rw [hn]; decide) rfl ?_
  refine z_aload_n (pc := 15) C dX10_isCovered_15 rfl ?_
  refine z_getR (pc := 16) C zf_X10_13 rfl rfl (by decide) dX10_isCovered_16 ?_
  refine z_iconst (pc := 19) (v := 5) C dX10_isCovered_19 (by decide) ?_
  refine z_iload_n (pc := 20) C dX10_isCovered_20 rfl ?_
  refine z_imul (pc := 21) C dX10_isCovered_21 ?_
  refine w_gp (fun v => v.toInt = 5 * a2.toInt) (zmul_kb 5 (by decide) (by decide) b2 (by decide) (by decide)) (fun v4 e4 => ?_)
  have b4x : zB v4 0 35 := zmul_bb e4 (by decide) b2
  refine z_iconst (pc := 22) (v := 1) C dX10_isCovered_22 (by decide) ?_
  refine z_iadd (pc := 23) C dX10_isCovered_23 ?_
  refine w_gp (fun v => v.toInt = v4.toInt + 1) (zadd_eb b4x (zB.of (x := 1) 1 (by decide)) (by decide) (by decide)) (fun v5 e5 => ?_)
  have b5x : zB v5 1 36 := by have q1 := b4x; have q2 := (zB.of (x := 1) 1 (by decide)); constructor <;> omega
  refine z_iald (pc := 24) C rfl (by decide) (zIx b5x (by decide) (by decide)) dX10_isCovered_24 ?_
  refine w_gb 0 63 (by have hq9 := hI 27 0 v5.toNatClampNeg; rw [zrg27 (r := 1) (by have hq : v5.toNatClampNeg = v5.toInt.toNat := rfl; have hq2 := b5x; omega)] at hq9; exact hq9) (fun v6 b6x => ?_)
  refine z_istore (pc := 25) C dX10_isCovered_25 (by rw [hn]; decide) rfl ?_
  refine z_aload_n (pc := 27) C dX10_isCovered_27 rfl ?_
  refine z_iload (pc := 28) C dX10_isCovered_28 rfl ?_
  refine z_aload_n (pc := 30) C dX10_isCovered_30 rfl ?_
  refine z_getR (pc := 31) C zf_X10_16 rfl rfl (by decide) dX10_isCovered_31 ?_
  refine z_iload_n (pc := 34) C dX10_isCovered_34 rfl ?_
  refine z_iconst (pc := 35) (v := 1) C dX10_isCovered_35 (by decide) ?_
  refine z_iadd (pc := 36) C dX10_isCovered_36 ?_
  refine w_gp (fun v => v.toInt = v1.toInt + 1) (zadd_eb b1x (zB.of (x := 1) 1 (by decide)) (by decide) (by decide)) (fun v7 e7 => ?_)
  have b7x : zB v7 1 89 := by have q1 := b1x; have q2 := (zB.of (x := 1) 1 (by decide)); constructor <;> omega
  refine z_iald (pc := 37) C rfl (by decide) (zIx b7x (by decide) (by decide)) dX10_isCovered_37 ?_
  refine w_gb 0 5 (by have hq9 := hI 28 0 v7.toNatClampNeg; rw [zrg28 (r := 1) (by have hq : v7.toNatClampNeg = v7.toInt.toNat := rfl; have hq2 := b7x; omega)] at hq9; exact hq9) (fun v8 b8x => ?_)
  refine z_callV (pc := 38) C zk_X10_123 (w_X10_yearsFor _ _ v6 b6x v8 b8x hI) rfl rfl (by decide) rfl rfl (Nat.le_of_ble_eq_true rfl) dX10_isCovered_38 (fun r9 g9 q9 => ?_)
  obtain ⟨⟨v9, rfl, b9x⟩, hI9, hF9q⟩ := q9
  obtain rfl := zFr_nil hF9q
  simp only [Option.toList, List.cons_append, List.nil_append]
  refine z_aload_n (pc := 41) C dX10_isCovered_41 rfl ?_
  refine z_getR (pc := 42) C zf_X10_16 rfl rfl (by decide) dX10_isCovered_42 ?_
  refine z_iload_n (pc := 45) C dX10_isCovered_45 rfl ?_
  refine z_iconst (pc := 46) (v := 3) C dX10_isCovered_46 (by decide) ?_
  refine z_iadd (pc := 47) C dX10_isCovered_47 ?_
  refine w_gp (fun v => v.toInt = v1.toInt + 3) (zadd_eb b1x (zB.of (x := 3) 3 (by decide)) (by decide) (by decide)) (fun v10 e10 => ?_)
  have b10x : zB v10 3 91 := by have q1 := b1x; have q2 := (zB.of (x := 3) 3 (by decide)); constructor <;> omega
  refine z_iald (pc := 48) C rfl (by decide) (zIx b10x (by decide) (by decide)) dX10_isCovered_48 ?_
  refine w_gb 0 40 (by have hq9 := hI 28 0 v10.toNatClampNeg; rw [zrg28 (r := 3) (by have hq : v10.toNatClampNeg = v10.toInt.toNat := rfl; have hq2 := b10x; omega)] at hq9; exact hq9) (fun v11 b11x => ?_)
  refine z_icmp_lt (pc := 49) 77 C dX10_isCovered_49 (by decide) (fun h49_11 => ?_) (fun h49_11 => ?_)
  · skip
    have b13x : zB v9 0 39 := by have q1 := b9x; have q2 := b11x; simp only [z32lt, z32le, z32eq, Int32.reduceToInt, Int32.toInt_zero] at h49_11; constructor <;> omega
    have b14x : zB v11 1 40 := by have q1 := b9x; have q2 := b11x; simp only [z32lt, z32le, z32eq, Int32.reduceToInt, Int32.toInt_zero] at h49_11; constructor <;> omega
    exact J0 v1 b1x (by omega) v3 b3x v6 b6x f hI hF  (by omega)
  · skip
    refine z_aload_n (pc := 52) C dX10_isCovered_52 rfl ?_
    refine z_iload (pc := 53) C dX10_isCovered_53 rfl ?_
    refine z_aload_n (pc := 55) C dX10_isCovered_55 rfl ?_
    refine z_getR (pc := 56) C zf_X10_16 rfl rfl (by decide) dX10_isCovered_56 ?_
    refine z_iload_n (pc := 59) C dX10_isCovered_59 rfl ?_
    refine z_iconst (pc := 60) (v := 2) C dX10_isCovered_60 (by decide) ?_
    refine z_iadd (pc := 61) C dX10_isCovered_61 ?_
    refine w_gp (fun v => v.toInt = v1.toInt + 2) (zadd_eb b1x (zB.of (x := 2) 2 (by decide)) (by decide) (by decide)) (fun v15 e15 => ?_)
    have b15x : zB v15 2 90 := by have q1 := b1x; have q2 := (zB.of (x := 2) 2 (by decide)); constructor <;> omega
    refine z_iald (pc := 62) C rfl (by decide) (zIx b15x (by decide) (by decide)) dX10_isCovered_62 ?_
    refine w_gb 0 5 (by have hq9 := hI 28 0 v15.toNatClampNeg; rw [zrg28 (r := 2) (by have hq : v15.toNatClampNeg = v15.toInt.toNat := rfl; have hq2 := b15x; omega)] at hq9; exact hq9) (fun v16 b16x => ?_)
    refine z_callV (pc := 63) C zk_X10_123 (w_X10_yearsFor _ _ v3 b3x v16 b16x hI) rfl rfl (by decide) rfl rfl (Nat.le_of_ble_eq_true rfl) dX10_isCovered_63 (fun r17 g17 q17 => ?_)
    obtain ⟨⟨v17, rfl, b17x⟩, hI17, hF17q⟩ := q17
    obtain rfl := zFr_nil hF17q
    simp only [Option.toList, List.cons_append, List.nil_append]
    refine z_aload_n (pc := 66) C dX10_isCovered_66 rfl ?_
    refine z_getR (pc := 67) C zf_X10_16 rfl rfl (by decide) dX10_isCovered_67 ?_
    refine z_iload_n (pc := 70) C dX10_isCovered_70 rfl ?_
    refine z_iconst (pc := 71) (v := 3) C dX10_isCovered_71 (by decide) ?_
    refine z_iadd (pc := 72) C dX10_isCovered_72 ?_
    refine w_gp (fun v => v.toInt = v1.toInt + 3) (zadd_eb b1x (zB.of (x := 3) 3 (by decide)) (by decide) (by decide)) (fun v18 e18 => ?_)
    have b18x : zB v18 3 91 := by have q1 := b1x; have q2 := (zB.of (x := 3) 3 (by decide)); constructor <;> omega
    refine z_iald (pc := 73) C rfl (by decide) (zIx b18x (by decide) (by decide)) dX10_isCovered_73 ?_
    refine w_gb 0 40 (by have hq9 := hI 28 0 v18.toNatClampNeg; rw [zrg28 (r := 3) (by have hq : v18.toNatClampNeg = v18.toInt.toNat := rfl; have hq2 := b18x; omega)] at hq9; exact hq9) (fun v19 b19x => ?_)
    refine z_icmp_ge (pc := 74) 79 C dX10_isCovered_74 (by decide) (fun h74_19 => ?_) (fun h74_19 => ?_)
    · skip
      refine z_aload_n (pc := 79) C dX10_isCovered_79 rfl ?_
      refine z_getR (pc := 80) C zf_X10_16 rfl rfl (by decide) dX10_isCovered_80 ?_
      refine z_iload_n (pc := 83) C dX10_isCovered_83 rfl ?_
      refine z_iald (pc := 84) C rfl (by decide) (zIx b1x (by decide) (by decide)) dX10_isCovered_84 ?_
      refine w_gb 0 2 (by have hq9 := hI 28 0 v1.toNatClampNeg; rw [zrg28 (r := 0) (by have hq : v1.toNatClampNeg = v1.toInt.toNat := rfl; have hq2 := b1x; omega)] at hq9; exact hq9) (fun v21 b21x => ?_)
      refine z_iconst (pc := 85) (v := 1) C dX10_isCovered_85 (by decide) ?_
      refine z_icmp_ne (pc := 86) 121 C dX10_isCovered_86 (by decide) (fun h86_21 => ?_) (fun h86_21 => ?_)
      · skip
        refine z_aload_n (pc := 121) C dX10_isCovered_121 rfl ?_
        refine z_getR (pc := 122) C zf_X10_16 rfl rfl (by decide) dX10_isCovered_122 ?_
        refine z_iload_n (pc := 125) C dX10_isCovered_125 rfl ?_
        refine z_iald (pc := 126) C rfl (by decide) (zIx b1x (by decide) (by decide)) dX10_isCovered_126 ?_
        refine w_gb 0 2 (by have hq9 := hI 28 0 v1.toNatClampNeg; rw [zrg28 (r := 0) (by have hq : v1.toNatClampNeg = v1.toInt.toNat := rfl; have hq2 := b1x; omega)] at hq9; exact hq9) (fun v23 b23x => ?_)
        refine z_iconst (pc := 127) (v := 2) C dX10_isCovered_127 (by decide) ?_
        refine z_icmp_ne (pc := 128) 141 C dX10_isCovered_128 (by decide) (fun h128_23 => ?_) (fun h128_23 => ?_)
        · skip
          have b25x : zB v23 0 1 := by have q1 := b23x; have q2 := (zB.of (x := 2) 2 (by decide)); simp only [z32lt, z32le, z32eq, Int32.reduceToInt, Int32.toInt_zero] at h128_23; constructor <;> omega
          exact J2 v1 b1x (by omega) v3 b3x v6 b6x f hI hF  (by omega)
        · skip
          have b26x : zB v23 2 2 := by have q1 := b23x; have q2 := (zB.of (x := 2) 2 (by decide)); simp only [z32lt, z32le, z32eq, Int32.reduceToInt, Int32.toInt_zero] at h128_23; constructor <;> omega
          refine z_iload (pc := 131) C dX10_isCovered_131 rfl ?_
          refine z_iload (pc := 133) C dX10_isCovered_133 rfl ?_
          refine z_iconst (pc := 135) (v := -1) C dX10_isCovered_135 (by decide) ?_
          refine z_ixor (pc := 136) C dX10_isCovered_136 ?_
          refine w_gb (-2147483648) 2147483647 (zB_any _) (fun v27 b27x => ?_)
          refine z_iand (pc := 137) C dX10_isCovered_137 ?_
          refine w_gb 0 63 (zand_bl b3x b27x (by decide)) (fun v28 b28x => ?_)
          refine z_if_ne (pc := 138) 145 C dX10_isCovered_138 (by decide) (fun h138_28 => ?_) (fun h138_28 => ?_)
          · skip
            have b30x : zB v28 1 63 := by have q1 := b28x; have q2 := (zB.of (x := 0) 0 (by decide)); simp only [z32lt, z32le, z32eq, Int32.reduceToInt, Int32.toInt_zero] at h138_28; constructor <;> omega
            refine z_iconst (pc := 145) (v := 0) C dX10_isCovered_145 (by decide) ?_
            exact J3 v1 b1x (by have qc0 : (0 : Int32).toInt = 0 := (by decide); omega) v3 b3x v6 b6x 0 (zB.wk (a' := 0) (b' := 1) (zB.of (x := 0) 0 (by decide)) (by decide) (by decide)) f hI hF  (by have qc0 : (0 : Int32).toInt = 0 := (by decide); omega)
          · skip
            have b31x : zB v28 0 0 := by have q1 := b28x; have q2 := (zB.of (x := 0) 0 (by decide)); simp only [z32lt, z32le, z32eq, Int32.reduceToInt, Int32.toInt_zero] at h138_28; constructor <;> omega
            exact J2 v1 b1x (by omega) v3 b3x v6 b6x f hI hF  (by omega)
      · skip
        have b32x : zB v21 1 1 := by have q1 := b21x; have q2 := (zB.of (x := 1) 1 (by decide)); simp only [z32lt, z32le, z32eq, Int32.reduceToInt, Int32.toInt_zero] at h86_21; constructor <;> omega
        refine z_aload_n (pc := 89) C dX10_isCovered_89 rfl ?_
        refine z_iload (pc := 90) C dX10_isCovered_90 rfl ?_
        refine z_aload_n (pc := 92) C dX10_isCovered_92 rfl ?_
        refine z_getR (pc := 93) C zf_X10_16 rfl rfl (by decide) dX10_isCovered_93 ?_
        refine z_iload_n (pc := 96) C dX10_isCovered_96 rfl ?_
        refine z_iconst (pc := 97) (v := 2) C dX10_isCovered_97 (by decide) ?_
        refine z_iadd (pc := 98) C dX10_isCovered_98 ?_
        refine w_gp (fun v => v.toInt = v1.toInt + 2) (zadd_eb b1x (zB.of (x := 2) 2 (by decide)) (by decide) (by decide)) (fun v33 e33 => ?_)
        have b33x : zB v33 2 90 := by have q1 := b1x; have q2 := (zB.of (x := 2) 2 (by decide)); constructor <;> omega
        refine z_iald (pc := 99) C rfl (by decide) (zIx b33x (by decide) (by decide)) dX10_isCovered_99 ?_
        refine w_gb 0 5 (by have hq9 := hI 28 0 v33.toNatClampNeg; rw [zrg28 (r := 2) (by have hq : v33.toNatClampNeg = v33.toInt.toNat := rfl; have hq2 := b33x; omega)] at hq9; exact hq9) (fun v34 b34x => ?_)
        refine z_callV (pc := 100) C zk_X10_116 (w_X10_crimesOf _ _ v3 b3x v34 b34x hI) rfl rfl (by decide) rfl rfl (Nat.le_of_ble_eq_true rfl) dX10_isCovered_100 (fun r35 g35 q35 => ?_)
        obtain ⟨⟨v35, rfl, b35x⟩, hI35, hF35q⟩ := q35
        obtain rfl := zFr_nil hF35q
        simp only [Option.toList, List.cons_append, List.nil_append]
        refine z_aload_n (pc := 103) C dX10_isCovered_103 rfl ?_
        refine z_getR (pc := 104) C zf_X10_16 rfl rfl (by decide) dX10_isCovered_104 ?_
        refine z_iload_n (pc := 107) C dX10_isCovered_107 rfl ?_
        refine z_iconst (pc := 108) (v := 4) C dX10_isCovered_108 (by decide) ?_
        refine z_iadd (pc := 109) C dX10_isCovered_109 ?_
        refine w_gp (fun v => v.toInt = v1.toInt + 4) (zadd_eb b1x (zB.of (x := 4) 4 (by decide)) (by decide) (by decide)) (fun v36 e36 => ?_)
        have b36x : zB v36 4 92 := by have q1 := b1x; have q2 := (zB.of (x := 4) 4 (by decide)); constructor <;> omega
        refine z_iald (pc := 110) C rfl (by decide) (zIx b36x (by decide) (by decide)) dX10_isCovered_110 ?_
        refine w_gb (-2147483648) 2147483647 (by have hq9 := hI 28 0 v36.toNatClampNeg; rw [zrg28 (r := 4) (by have hq : v36.toNatClampNeg = v36.toInt.toNat := rfl; have hq2 := b36x; omega)] at hq9; exact hq9) (fun v37 b37x => ?_)
        refine z_iand (pc := 111) C dX10_isCovered_111 ?_
        refine w_gb 0 16777215 (zand_bl b35x b37x (by decide)) (fun v38 b38x => ?_)
        refine z_if_eq (pc := 112) 119 C dX10_isCovered_112 (by decide) (fun h112_38 => ?_) (fun h112_38 => ?_)
        · skip
          have b40x : zB v38 0 0 := by have q1 := b38x; have q2 := (zB.of (x := 0) 0 (by decide)); simp only [z32lt, z32le, z32eq, Int32.reduceToInt, Int32.toInt_zero] at h112_38; constructor <;> omega
          refine z_iconst (pc := 119) (v := 0) C dX10_isCovered_119 (by decide) ?_
          exact J1 v1 b1x (by have qc0 : (0 : Int32).toInt = 0 := (by decide); omega) v3 b3x v6 b6x 0 (zB.wk (a' := 0) (b' := 1) (zB.of (x := 0) 0 (by decide)) (by decide) (by decide)) f hI hF  (by have qc0 : (0 : Int32).toInt = 0 := (by decide); omega)
        · skip
          have b41x : zB v38 1 16777215 := by have q1 := b38x; have q2 := (zB.of (x := 0) 0 (by decide)); simp only [z32lt, z32le, z32eq, Int32.reduceToInt, Int32.toInt_zero] at h112_38; constructor <;> omega
          refine z_iconst (pc := 115) (v := 1) C dX10_isCovered_115 (by decide) ?_
          refine z_goto (pc := 116) 120 C dX10_isCovered_116 (by decide) ?_
          exact J1 v1 b1x (by have qc0 : (1 : Int32).toInt = 1 := (by decide); omega) v3 b3x v6 b6x 1 (zB.wk (a' := 0) (b' := 1) (zB.of (x := 1) 1 (by decide)) (by decide) (by decide)) f hI hF  (by have qc0 : (1 : Int32).toInt = 1 := (by decide); omega)
    · skip
      have b42x : zB v17 0 39 := by have q1 := b17x; have q2 := b19x; simp only [z32lt, z32le, z32eq, Int32.reduceToInt, Int32.toInt_zero] at h74_19; constructor <;> omega
      have b43x : zB v19 1 40 := by have q1 := b17x; have q2 := b19x; simp only [z32lt, z32le, z32eq, Int32.reduceToInt, Int32.toInt_zero] at h74_19; constructor <;> omega
      exact J0 v1 b1x (by omega) v3 b3x v6 b6x f hI hF  (by omega)

set_option maxRecDepth 100000 in
set_option maxHeartbeats 4000000 in
theorem w_X10_standing (d : Nat) (f : zM) (a1 : Int32) (b1 : zB a1 0 11) (a2 : Int32) (b2 : zB a2 0 7) (hI : zInv f) : ZM (d + 3) yX10_standing cX10_standing 6 (some .int) [zr 25 0, zi a1, zi a2] f (fun r g => (∃ v, r = some (zi v) ∧ zB v 0 63) ∧ zInv g ∧ zFr [] f g) := by
  refine ZM.intro (by decide +kernel) (Nat.le_of_ble_eq_true rfl) ?_
  intro X C hr hn
  have hF : zFr [] f f := zFr.rf _ _
  have J : ∀ t : Nat, (∀ a27_3 : Int32, zB a27_3 0 88 → a27_3.toInt % 8 = 0 → ∀ a27_s0 : Int32, zB a27_s0 0 1 → ∀ g : zM, zInv g → zFr [] f g → (8 : Int) < t → Z X 27 [some (zr 25 0), some (zi a1), some (zi a2), some (zi a27_3), none, none] [zi a27_s0] g) ∧ (∀ a50_3 : Int32, zB a50_3 0 88 → a50_3.toInt % 8 = 0 → ∀ a50_4 : Int32, zB a50_4 0 1 → ∀ a50_s0 : Int32, zB a50_s0 0 1 → ∀ a50_s1 : Int32, zB a50_s1 0 2 → ∀ g : zM, zInv g → zFr [] f g → (7 : Int) < t → Z X 50 [some (zr 25 0), some (zi a1), some (zi a2), some (zi a50_3), some (zi a50_4), none] [zi a50_s1, zi a50_s0] g) ∧ (∀ a74_3 : Int32, zB a74_3 0 88 → a74_3.toInt % 8 = 0 → ∀ a74_4 : Int32, zB a74_4 0 3 → ∀ a74_s0 : Int32, zB a74_s0 0 3 → ∀ a74_s1 : Int32, zB a74_s1 0 4 → ∀ g : zM, zInv g → zFr [] f g → (6 : Int) < t → Z X 74 [some (zr 25 0), some (zi a1), some (zi a2), some (zi a74_3), some (zi a74_4), none] [zi a74_s1, zi a74_s0] g) ∧ (∀ a114_3 : Int32, zB a114_3 0 88 → a114_3.toInt % 8 = 0 → ∀ a114_4 : Int32, zB a114_4 0 7 → ∀ a114_s0 : Int32, zB a114_s0 0 7 → ∀ g : zM, zInv g → zFr [] f g → (5 : Int) < t → Z X 114 [some (zr 25 0), some (zi a1), some (zi a2), some (zi a114_3), some (zi a114_4), none] [zi a114_s0] g) ∧ (∀ a115_3 : Int32, zB a115_3 0 88 → a115_3.toInt % 8 = 0 → ∀ a115_4 : Int32, zB a115_4 0 7 → ∀ a115_s0 : Int32, zB a115_s0 0 7 → ∀ a115_s1 : Int32, zB a115_s1 0 8 → ∀ g : zM, zInv g → zFr [] f g → (4 : Int) < t → Z X 115 [some (zr 25 0), some (zi a1), some (zi a2), some (zi a115_3), some (zi a115_4), none] [zi a115_s1, zi a115_s0] g) ∧ (∀ a147_3 : Int32, zB a147_3 0 88 → a147_3.toInt % 8 = 0 → ∀ a147_4 : Int32, zB a147_4 0 15 → ∀ a147_s0 : Int32, zB a147_s0 0 15 → ∀ a147_s1 : Int32, zB a147_s1 0 16 → ∀ g : zM, zInv g → zFr [] f g → (3 : Int) < t → Z X 147 [some (zr 25 0), some (zi a1), some (zi a2), some (zi a147_3), some (zi a147_4), none] [zi a147_s1, zi a147_s0] g) ∧ (∀ a195_3 : Int32, zB a195_3 0 88 → a195_3.toInt % 8 = 0 → ∀ a195_4 : Int32, zB a195_4 0 31 → ∀ g : zM, zInv g → zFr [] f g → (2 : Int) < t → Z X 195 [some (zr 25 0), some (zi a1), some (zi a2), some (zi a195_3), some (zi a195_4), none] [] g) ∧ (∀ a196_3 : Int32, zB a196_3 0 88 → a196_3.toInt % 8 = 0 → ∀ a196_4 : Int32, zB a196_4 0 31 → ∀ a196_s0 : Int32, zB a196_s0 0 1 → ∀ g : zM, zInv g → zFr [] f g → (1 : Int) < t → Z X 196 [some (zr 25 0), some (zi a1), some (zi a2), some (zi a196_3), some (zi a196_4), none] [zi a196_s0] g) ∧ (∀ a220_3 : Int32, zB a220_3 0 88 → a220_3.toInt % 8 = 0 → ∀ a220_4 : Int32, zB a220_4 0 31 → ∀ a220_5 : Int32, zB a220_5 0 1 → ∀ a220_s0 : Int32, zB a220_s0 0 31 → ∀ a220_s1 : Int32, zB a220_s1 0 32 → ∀ g : zM, zInv g → zFr [] f g → (0 : Int) < t → Z X 220 [some (zr 25 0), some (zi a1), some (zi a2), some (zi a220_3), some (zi a220_4), some (zi a220_5)] [zi a220_s1, zi a220_s0] g) := by
    intro t
    induction t with
    | zero =>
      refine ⟨?_, ?_, ?_, ?_, ?_, ?_, ?_, ?_, ?_⟩ <;> (intros; exfalso; omega)
    | succ t ih =>
      obtain ⟨ih0, ih1, ih2, ih3, ih4, ih5, ih6, ih7, ih8⟩ := ih
      refine ⟨?_, ?_, ?_, ?_, ?_, ?_, ?_, ?_, ?_⟩
      · skip
        intro a27_3 b27_3 n27_3 a27_s0 b27_s0 g27_ hI27_ hF27_ hM27_
        refine z_istore (pc := 27) C dX10_standing_27 (by rw [hn]; decide) rfl ?_
        refine z_iload (pc := 29) C dX10_standing_29 rfl ?_
        refine z_aload_n (pc := 31) C dX10_standing_31 rfl ?_
        refine z_getR (pc := 32) C zf_X10_13 rfl rfl (by decide) dX10_standing_32 ?_
        refine z_iconst (pc := 35) (v := 5) C dX10_standing_35 (by decide) ?_
        refine z_iload_n (pc := 36) C dX10_standing_36 rfl ?_
        refine z_imul (pc := 37) C dX10_standing_37 ?_
        refine w_gp (fun v => v.toInt = 5 * a2.toInt) (zmul_kb 5 (by decide) (by decide) b2 (by decide) (by decide)) (fun v1 e1 => ?_)
        have b1x : zB v1 0 35 := zmul_bb e1 (by decide) b2
        refine z_iconst (pc := 38) (v := 4) C dX10_standing_38 (by decide) ?_
        refine z_iadd (pc := 39) C dX10_standing_39 ?_
        refine w_gp (fun v => v.toInt = v1.toInt + 4) (zadd_eb b1x (zB.of (x := 4) 4 (by decide)) (by decide) (by decide)) (fun v2 e2 => ?_)
        have b2x : zB v2 4 39 := by have q1 := b1x; have q2 := (zB.of (x := 4) 4 (by decide)); constructor <;> omega
        refine z_iald (pc := 40) C rfl (by decide) (zIx b2x (by decide) (by decide)) dX10_standing_40 ?_
        refine w_gb 0 1 (by have hq9 := hI27_ 27 0 v2.toNatClampNeg; rw [zrg27 (r := 4) (by have hq : v2.toNatClampNeg = v2.toInt.toNat := rfl; have hq2 := b2x; omega)] at hq9; exact hq9) (fun v3 b3x => ?_)
        refine z_iconst (pc := 41) (v := 1) C dX10_standing_41 (by decide) ?_
        refine z_icmp_ne (pc := 42) 49 C dX10_standing_42 (by decide) (fun h42_3 => ?_) (fun h42_3 => ?_)
        · skip
          have b5x : zB v3 0 0 := by have q1 := b3x; have q2 := (zB.of (x := 1) 1 (by decide)); simp only [z32lt, z32le, z32eq, Int32.reduceToInt, Int32.toInt_zero] at h42_3; constructor <;> omega
          refine z_iconst (pc := 49) (v := 0) C dX10_standing_49 (by decide) ?_
          exact ih1 a27_3 b27_3 (by have qc0 : (0 : Int32).toInt = 0 := (by decide); omega) a27_s0 b27_s0 a27_s0 b27_s0 0 (zB.wk (a' := 0) (b' := 2) (zB.of (x := 0) 0 (by decide)) (by decide) (by decide)) g27_ hI27_ hF27_  (by have qc0 : (0 : Int32).toInt = 0 := (by decide); omega)
        · skip
          have b6x : zB v3 1 1 := by have q1 := b3x; have q2 := (zB.of (x := 1) 1 (by decide)); simp only [z32lt, z32le, z32eq, Int32.reduceToInt, Int32.toInt_zero] at h42_3; constructor <;> omega
          refine z_iconst (pc := 45) (v := 2) C dX10_standing_45 (by decide) ?_
          refine z_goto (pc := 46) 50 C dX10_standing_46 (by decide) ?_
          exact ih1 a27_3 b27_3 (by have qc0 : (2 : Int32).toInt = 2 := (by decide); omega) a27_s0 b27_s0 a27_s0 b27_s0 2 (zB.wk (a' := 0) (b' := 2) (zB.of (x := 2) 2 (by decide)) (by decide) (by decide)) g27_ hI27_ hF27_  (by have qc0 : (2 : Int32).toInt = 2 := (by decide); omega)
      · skip
        intro a50_3 b50_3 n50_3 a50_4 b50_4 a50_s0 b50_s0 a50_s1 b50_s1 g50_ hI50_ hF50_ hM50_
        refine z_ior (pc := 50) C dX10_standing_50 ?_
        refine w_gb 0 3 (zor_b 2 b50_s0 b50_s1 (by decide) (by decide) (by decide) (by decide) (by decide)) (fun v7 b7x => ?_)
        refine z_istore (pc := 51) C dX10_standing_51 (by rw [hn]; decide) rfl ?_
        refine z_iload (pc := 53) C dX10_standing_53 rfl ?_
        refine z_aload_n (pc := 55) C dX10_standing_55 rfl ?_
        refine z_getR (pc := 56) C zf_X10_13 rfl rfl (by decide) dX10_standing_56 ?_
        refine z_iconst (pc := 59) (v := 5) C dX10_standing_59 (by decide) ?_
        refine z_iload_n (pc := 60) C dX10_standing_60 rfl ?_
        refine z_imul (pc := 61) C dX10_standing_61 ?_
        refine w_gp (fun v => v.toInt = 5 * a2.toInt) (zmul_kb 5 (by decide) (by decide) b2 (by decide) (by decide)) (fun v8 e8 => ?_)
        have b8x : zB v8 0 35 := zmul_bb e8 (by decide) b2
        refine z_iald (pc := 62) C rfl (by decide) (zIx b8x (by decide) (by decide)) dX10_standing_62 ?_
        refine w_gb 0 63 (by have hq9 := hI50_ 27 0 v8.toNatClampNeg; rw [zrg27 (r := 0) (by have hq : v8.toNatClampNeg = v8.toInt.toNat := rfl; have hq2 := b8x; omega)] at hq9; exact hq9) (fun v9 b9x => ?_)
        refine z_bipush (pc := 63) (v := 32) C dX10_standing_63 (by decide) ?_
        refine z_iand (pc := 65) C dX10_standing_65 ?_
        refine w_gb 0 32 (zand_b b9x (zB.of (x := 32) 32 (by decide)) (by decide)) (fun v10 b10x => ?_)
        refine z_if_eq (pc := 66) 73 C dX10_standing_66 (by decide) (fun h66_10 => ?_) (fun h66_10 => ?_)
        · skip
          have b12x : zB v10 0 0 := by have q1 := b10x; have q2 := (zB.of (x := 0) 0 (by decide)); simp only [z32lt, z32le, z32eq, Int32.reduceToInt, Int32.toInt_zero] at h66_10; constructor <;> omega
          refine z_iconst (pc := 73) (v := 0) C dX10_standing_73 (by decide) ?_
          exact ih2 a50_3 b50_3 (by have qc0 : (0 : Int32).toInt = 0 := (by decide); omega) v7 b7x v7 b7x 0 (zB.wk (a' := 0) (b' := 4) (zB.of (x := 0) 0 (by decide)) (by decide) (by decide)) g50_ hI50_ hF50_  (by have qc0 : (0 : Int32).toInt = 0 := (by decide); omega)
        · skip
          have b13x : zB v10 1 32 := by have q1 := b10x; have q2 := (zB.of (x := 0) 0 (by decide)); simp only [z32lt, z32le, z32eq, Int32.reduceToInt, Int32.toInt_zero] at h66_10; constructor <;> omega
          refine z_iconst (pc := 69) (v := 4) C dX10_standing_69 (by decide) ?_
          refine z_goto (pc := 70) 74 C dX10_standing_70 (by decide) ?_
          exact ih2 a50_3 b50_3 (by have qc0 : (4 : Int32).toInt = 4 := (by decide); omega) v7 b7x v7 b7x 4 (zB.wk (a' := 0) (b' := 4) (zB.of (x := 4) 4 (by decide)) (by decide) (by decide)) g50_ hI50_ hF50_  (by have qc0 : (4 : Int32).toInt = 4 := (by decide); omega)
      · skip
        intro a74_3 b74_3 n74_3 a74_4 b74_4 a74_s0 b74_s0 a74_s1 b74_s1 g74_ hI74_ hF74_ hM74_
        refine z_ior (pc := 74) C dX10_standing_74 ?_
        refine w_gb 0 7 (zor_b 3 b74_s0 b74_s1 (by decide) (by decide) (by decide) (by decide) (by decide)) (fun v14 b14x => ?_)
        refine z_istore (pc := 75) C dX10_standing_75 (by rw [hn]; decide) rfl ?_
        refine z_iload (pc := 77) C dX10_standing_77 rfl ?_
        refine z_aload_n (pc := 79) C dX10_standing_79 rfl ?_
        refine z_iload_n (pc := 80) C dX10_standing_80 rfl ?_
        refine z_aload_n (pc := 81) C dX10_standing_81 rfl ?_
        refine z_getR (pc := 82) C zf_X10_16 rfl rfl (by decide) dX10_standing_82 ?_
        refine z_iload_n (pc := 85) C dX10_standing_85 rfl ?_
        refine z_iconst (pc := 86) (v := 2) C dX10_standing_86 (by decide) ?_
        refine z_iadd (pc := 87) C dX10_standing_87 ?_
        refine w_gp (fun v => v.toInt = a74_3.toInt + 2) (zadd_eb b74_3 (zB.of (x := 2) 2 (by decide)) (by decide) (by decide)) (fun v15 e15 => ?_)
        have b15x : zB v15 2 90 := by have q1 := b74_3; have q2 := (zB.of (x := 2) 2 (by decide)); constructor <;> omega
        refine z_iald (pc := 88) C rfl (by decide) (zIx b15x (by decide) (by decide)) dX10_standing_88 ?_
        refine w_gb 0 5 (by have hq9 := hI74_ 28 0 v15.toNatClampNeg; rw [zrg28 (r := 2) (by have hq : v15.toNatClampNeg = v15.toInt.toNat := rfl; have hq2 := b15x; omega)] at hq9; exact hq9) (fun v16 b16x => ?_)
        refine z_callV (pc := 89) C zk_X10_135 (w_X10_isDeadly _ _ a2 b2 v16 b16x hI74_) rfl rfl (by decide) rfl rfl (Nat.le_of_ble_eq_true rfl) dX10_standing_89 (fun r17 g17 q17 => ?_)
        obtain ⟨⟨v17, rfl, b17x⟩, hI17, hF17q⟩ := q17
        obtain rfl := zFr_nil hF17q
        simp only [Option.toList, List.cons_append, List.nil_append]
        refine z_if_eq (pc := 92) 114 C dX10_standing_92 (by decide) (fun h92_17 => ?_) (fun h92_17 => ?_)
        · skip
          have b19x : zB v17 0 0 := by have q1 := b17x; have q2 := (zB.of (x := 0) 0 (by decide)); simp only [z32lt, z32le, z32eq, Int32.reduceToInt, Int32.toInt_zero] at h92_17; constructor <;> omega
          exact ih3 a74_3 b74_3 (by omega) v14 b14x v14 b14x g74_ hI74_ hF74_  (by omega)
        · skip
          have b20x : zB v17 1 1 := by have q1 := b17x; have q2 := (zB.of (x := 0) 0 (by decide)); simp only [z32lt, z32le, z32eq, Int32.reduceToInt, Int32.toInt_zero] at h92_17; constructor <;> omega
          refine z_aload_n (pc := 95) C dX10_standing_95 rfl ?_
          refine z_getR (pc := 96) C zf_X10_16 rfl rfl (by decide) dX10_standing_96 ?_
          refine z_iload_n (pc := 99) C dX10_standing_99 rfl ?_
          refine z_bipush (pc := 100) (v := 7) C dX10_standing_100 (by decide) ?_
          refine z_iadd (pc := 102) C dX10_standing_102 ?_
          refine w_gp (fun v => v.toInt = a74_3.toInt + 7) (zadd_eb b74_3 (zB.of (x := 7) 7 (by decide)) (by decide) (by decide)) (fun v21 e21 => ?_)
          have b21x : zB v21 7 95 := by have q1 := b74_3; have q2 := (zB.of (x := 7) 7 (by decide)); constructor <;> omega
          refine z_iald (pc := 103) C rfl (by decide) (zIx b21x (by decide) (by decide)) dX10_standing_103 ?_
          refine w_gb 0 7 (by have hq9 := hI74_ 28 0 v21.toNatClampNeg; rw [zrg28 (r := 7) (by have hq : v21.toNatClampNeg = v21.toInt.toNat := rfl; have hq2 := b21x; omega)] at hq9; exact hq9) (fun v22 b22x => ?_)
          refine z_iconst (pc := 104) (v := 1) C dX10_standing_104 (by decide) ?_
          refine z_iand (pc := 105) C dX10_standing_105 ?_
          refine w_gb 0 1 (zand_b b22x (zB.of (x := 1) 1 (by decide)) (by decide)) (fun v23 b23x => ?_)
          refine z_if_ne (pc := 106) 114 C dX10_standing_106 (by decide) (fun h106_23 => ?_) (fun h106_23 => ?_)
          · skip
            have b25x : zB v23 1 1 := by have q1 := b23x; have q2 := (zB.of (x := 0) 0 (by decide)); simp only [z32lt, z32le, z32eq, Int32.reduceToInt, Int32.toInt_zero] at h106_23; constructor <;> omega
            exact ih3 a74_3 b74_3 (by omega) v14 b14x v14 b14x g74_ hI74_ hF74_  (by omega)
          · skip
            have b26x : zB v23 0 0 := by have q1 := b23x; have q2 := (zB.of (x := 0) 0 (by decide)); simp only [z32lt, z32le, z32eq, Int32.reduceToInt, Int32.toInt_zero] at h106_23; constructor <;> omega
            refine z_bipush (pc := 109) (v := 8) C dX10_standing_109 (by decide) ?_
            refine z_goto (pc := 111) 115 C dX10_standing_111 (by decide) ?_
            exact ih4 a74_3 b74_3 (by have qc0 : (8 : Int32).toInt = 8 := (by decide); omega) v14 b14x v14 b14x 8 (zB.wk (a' := 0) (b' := 8) (zB.of (x := 8) 8 (by decide)) (by decide) (by decide)) g74_ hI74_ hF74_  (by have qc0 : (8 : Int32).toInt = 8 := (by decide); omega)
      · skip
        intro a114_3 b114_3 n114_3 a114_4 b114_4 a114_s0 b114_s0 g114_ hI114_ hF114_ hM114_
        refine z_iconst (pc := 114) (v := 0) C dX10_standing_114 (by decide) ?_
        exact ih4 a114_3 b114_3 (by have qc0 : (0 : Int32).toInt = 0 := (by decide); omega) a114_4 b114_4 a114_s0 b114_s0 0 (zB.wk (a' := 0) (b' := 8) (zB.of (x := 0) 0 (by decide)) (by decide) (by decide)) g114_ hI114_ hF114_  (by have qc0 : (0 : Int32).toInt = 0 := (by decide); omega)
      · skip
        intro a115_3 b115_3 n115_3 a115_4 b115_4 a115_s0 b115_s0 a115_s1 b115_s1 g115_ hI115_ hF115_ hM115_
        refine z_ior (pc := 115) C dX10_standing_115 ?_
        refine w_gb 0 15 (zor_b 4 b115_s0 b115_s1 (by decide) (by decide) (by decide) (by decide) (by decide)) (fun v27 b27x => ?_)
        refine z_istore (pc := 116) C dX10_standing_116 (by rw [hn]; decide) rfl ?_
        refine z_iload (pc := 118) C dX10_standing_118 rfl ?_
        refine z_aload_n (pc := 120) C dX10_standing_120 rfl ?_
        refine z_getR (pc := 121) C zf_X10_13 rfl rfl (by decide) dX10_standing_121 ?_
        refine z_iconst (pc := 124) (v := 5) C dX10_standing_124 (by decide) ?_
        refine z_iload_n (pc := 125) C dX10_standing_125 rfl ?_
        refine z_imul (pc := 126) C dX10_standing_126 ?_
        refine w_gp (fun v => v.toInt = 5 * a2.toInt) (zmul_kb 5 (by decide) (by decide) b2 (by decide) (by decide)) (fun v28 e28 => ?_)
        have b28x : zB v28 0 35 := zmul_bb e28 (by decide) b2
        refine z_iconst (pc := 127) (v := 2) C dX10_standing_127 (by decide) ?_
        refine z_iadd (pc := 128) C dX10_standing_128 ?_
        refine w_gp (fun v => v.toInt = v28.toInt + 2) (zadd_eb b28x (zB.of (x := 2) 2 (by decide)) (by decide) (by decide)) (fun v29 e29 => ?_)
        have b29x : zB v29 2 37 := by have q1 := b28x; have q2 := (zB.of (x := 2) 2 (by decide)); constructor <;> omega
        refine z_iald (pc := 129) C rfl (by decide) (zIx b29x (by decide) (by decide)) dX10_standing_129 ?_
        refine w_gb 0 5 (by have hq9 := hI115_ 27 0 v29.toNatClampNeg; rw [zrg27 (r := 2) (by have hq : v29.toNatClampNeg = v29.toInt.toNat := rfl; have hq2 := b29x; omega)] at hq9; exact hq9) (fun v30 b30x => ?_)
        refine z_aload_n (pc := 130) C dX10_standing_130 rfl ?_
        refine z_getR (pc := 131) C zf_X10_16 rfl rfl (by decide) dX10_standing_131 ?_
        refine z_iload_n (pc := 134) C dX10_standing_134 rfl ?_
        refine z_iconst (pc := 135) (v := 1) C dX10_standing_135 (by decide) ?_
        refine z_iadd (pc := 136) C dX10_standing_136 ?_
        refine w_gp (fun v => v.toInt = a115_3.toInt + 1) (zadd_eb b115_3 (zB.of (x := 1) 1 (by decide)) (by decide) (by decide)) (fun v31 e31 => ?_)
        have b31x : zB v31 1 89 := by have q1 := b115_3; have q2 := (zB.of (x := 1) 1 (by decide)); constructor <;> omega
        refine z_iald (pc := 137) C rfl (by decide) (zIx b31x (by decide) (by decide)) dX10_standing_137 ?_
        refine w_gb 0 5 (by have hq9 := hI115_ 28 0 v31.toNatClampNeg; rw [zrg28 (r := 1) (by have hq : v31.toNatClampNeg = v31.toInt.toNat := rfl; have hq2 := b31x; omega)] at hq9; exact hq9) (fun v32 b32x => ?_)
        refine z_icmp_ne (pc := 138) 146 C dX10_standing_138 (by decide) (fun h138_32 => ?_) (fun h138_32 => ?_)
        · skip
          refine z_iconst (pc := 146) (v := 0) C dX10_standing_146 (by decide) ?_
          exact ih5 a115_3 b115_3 (by have qc0 : (0 : Int32).toInt = 0 := (by decide); omega) v27 b27x v27 b27x 0 (zB.wk (a' := 0) (b' := 16) (zB.of (x := 0) 0 (by decide)) (by decide) (by decide)) g115_ hI115_ hF115_  (by have qc0 : (0 : Int32).toInt = 0 := (by decide); omega)
        · skip
          refine z_bipush (pc := 141) (v := 16) C dX10_standing_141 (by decide) ?_
          refine z_goto (pc := 143) 147 C dX10_standing_143 (by decide) ?_
          exact ih5 a115_3 b115_3 (by have qc0 : (16 : Int32).toInt = 16 := (by decide); omega) v27 b27x v27 b27x 16 (zB.wk (a' := 0) (b' := 16) (zB.of (x := 16) 16 (by decide)) (by decide) (by decide)) g115_ hI115_ hF115_  (by have qc0 : (16 : Int32).toInt = 16 := (by decide); omega)
      · skip
        intro a147_3 b147_3 n147_3 a147_4 b147_4 a147_s0 b147_s0 a147_s1 b147_s1 g147_ hI147_ hF147_ hM147_
        refine z_ior (pc := 147) C dX10_standing_147 ?_
        refine w_gb 0 31 (zor_b 5 b147_s0 b147_s1 (by decide) (by decide) (by decide) (by decide) (by decide)) (fun v34 b34x => ?_)
        refine z_istore (pc := 148) C dX10_standing_148 (by rw [hn]; decide) rfl ?_
        refine z_aload_n (pc := 150) C dX10_standing_150 rfl ?_
        refine z_getR (pc := 151) C zf_X10_16 rfl rfl (by decide) dX10_standing_151 ?_
        refine z_iload_n (pc := 154) C dX10_standing_154 rfl ?_
        refine z_bipush (pc := 155) (v := 6) C dX10_standing_155 (by decide) ?_
        refine z_iadd (pc := 157) C dX10_standing_157 ?_
        refine w_gp (fun v => v.toInt = a147_3.toInt + 6) (zadd_eb b147_3 (zB.of (x := 6) 6 (by decide)) (by decide) (by decide)) (fun v35 e35 => ?_)
        have b35x : zB v35 6 94 := by have q1 := b147_3; have q2 := (zB.of (x := 6) 6 (by decide)); constructor <;> omega
        refine z_iald (pc := 158) C rfl (by decide) (zIx b35x (by decide) (by decide)) dX10_standing_158 ?_
        refine w_gb 0 99 (by have hq9 := hI147_ 28 0 v35.toNatClampNeg; rw [zrg28 (r := 6) (by have hq : v35.toNatClampNeg = v35.toInt.toNat := rfl; have hq2 := b35x; omega)] at hq9; exact hq9) (fun v36 b36x => ?_)
        refine z_if_le (pc := 159) 195 C dX10_standing_159 (by decide) (fun h159_36 => ?_) (fun h159_36 => ?_)
        · skip
          have b38x : zB v36 0 0 := by have q1 := b36x; have q2 := (zB.of (x := 0) 0 (by decide)); simp only [z32lt, z32le, z32eq, Int32.reduceToInt, Int32.toInt_zero] at h159_36; constructor <;> omega
          exact ih6 a147_3 b147_3 (by omega) v34 b34x g147_ hI147_ hF147_  (by omega)
        · skip
          have b39x : zB v36 1 99 := by have q1 := b36x; have q2 := (zB.of (x := 0) 0 (by decide)); simp only [z32lt, z32le, z32eq, Int32.reduceToInt, Int32.toInt_zero] at h159_36; constructor <;> omega
          refine z_aload_n (pc := 162) C dX10_standing_162 rfl ?_
          refine z_getR (pc := 163) C zf_X10_22 rfl rfl (by decide) dX10_standing_163 ?_
          refine z_iconst (pc := 166) (v := 2) C dX10_standing_166 (by decide) ?_
          refine z_iald (pc := 167) C rfl (by decide) (zIx (zB.of (x := 2) 2 (by decide)) (by decide) (by decide)) dX10_standing_167 ?_
          refine w_gb 0 99 (hI147_ 30 _ 2) (fun v40 b40x => ?_)
          refine z_aload_n (pc := 168) C dX10_standing_168 rfl ?_
          refine z_getR (pc := 169) C zf_X10_13 rfl rfl (by decide) dX10_standing_169 ?_
          refine z_iconst (pc := 172) (v := 5) C dX10_standing_172 (by decide) ?_
          refine z_iload_n (pc := 173) C dX10_standing_173 rfl ?_
          refine z_imul (pc := 174) C dX10_standing_174 ?_
          refine w_gp (fun v => v.toInt = 5 * a2.toInt) (zmul_kb 5 (by decide) (by decide) b2 (by decide) (by decide)) (fun v41 e41 => ?_)
          have b41x : zB v41 0 35 := zmul_bb e41 (by decide) b2
          refine z_iconst (pc := 175) (v := 3) C dX10_standing_175 (by decide) ?_
          refine z_iadd (pc := 176) C dX10_standing_176 ?_
          refine w_gp (fun v => v.toInt = v41.toInt + 3) (zadd_eb b41x (zB.of (x := 3) 3 (by decide)) (by decide) (by decide)) (fun v42 e42 => ?_)
          have b42x : zB v42 3 38 := by have q1 := b41x; have q2 := (zB.of (x := 3) 3 (by decide)); constructor <;> omega
          refine z_iald (pc := 177) C rfl (by decide) (zIx b42x (by decide) (by decide)) dX10_standing_177 ?_
          refine w_gb 0 99 (by have hq9 := hI147_ 27 0 v42.toNatClampNeg; rw [zrg27 (r := 3) (by have hq : v42.toNatClampNeg = v42.toInt.toNat := rfl; have hq2 := b42x; omega)] at hq9; exact hq9) (fun v43 b43x => ?_)
          refine z_isub (pc := 178) C dX10_standing_178 ?_
          refine w_gp (fun v => v.toInt = v40.toInt - v43.toInt) (zsub_eb b40x b43x (by decide) (by decide)) (fun v44 e44 => ?_)
          have b44x : zB v44 (-99) 99 := by have q1 := b40x; have q2 := b43x; constructor <;> omega
          refine z_aload_n (pc := 179) C dX10_standing_179 rfl ?_
          refine z_getR (pc := 180) C zf_X10_16 rfl rfl (by decide) dX10_standing_180 ?_
          refine z_iload_n (pc := 183) C dX10_standing_183 rfl ?_
          refine z_bipush (pc := 184) (v := 6) C dX10_standing_184 (by decide) ?_
          refine z_iadd (pc := 186) C dX10_standing_186 ?_
          refine w_gp (fun v => v.toInt = a147_3.toInt + 6) (zadd_eb b147_3 (zB.of (x := 6) 6 (by decide)) (by decide) (by decide)) (fun v45 e45 => ?_)
          have b45x : zB v45 6 94 := by have q1 := b147_3; have q2 := (zB.of (x := 6) 6 (by decide)); constructor <;> omega
          refine z_iald (pc := 187) C rfl (by decide) (zIx b45x (by decide) (by decide)) dX10_standing_187 ?_
          refine w_gb 0 99 (by have hq9 := hI147_ 28 0 v45.toNatClampNeg; rw [zrg28 (r := 6) (by have hq : v45.toNatClampNeg = v45.toInt.toNat := rfl; have hq2 := b45x; omega)] at hq9; exact hq9) (fun v46 b46x => ?_)
          refine z_icmp_le (pc := 188) 195 C dX10_standing_188 (by decide) (fun h188_46 => ?_) (fun h188_46 => ?_)
          · skip
            exact ih6 a147_3 b147_3 (by omega) v34 b34x g147_ hI147_ hF147_  (by omega)
          · skip
            have b48x : zB v44 1 99 := by have q1 := b44x; have q2 := b46x; simp only [z32lt, z32le, z32eq, Int32.reduceToInt, Int32.toInt_zero] at h188_46; constructor <;> omega
            have b49x : zB v46 0 98 := by have q1 := b44x; have q2 := b46x; simp only [z32lt, z32le, z32eq, Int32.reduceToInt, Int32.toInt_zero] at h188_46; constructor <;> omega
            refine z_iconst (pc := 191) (v := 1) C dX10_standing_191 (by decide) ?_
            refine z_goto (pc := 192) 196 C dX10_standing_192 (by decide) ?_
            exact ih7 a147_3 b147_3 (by have qc0 : (1 : Int32).toInt = 1 := (by decide); omega) v34 b34x 1 (zB.wk (a' := 0) (b' := 1) (zB.of (x := 1) 1 (by decide)) (by decide) (by decide)) g147_ hI147_ hF147_  (by have qc0 : (1 : Int32).toInt = 1 := (by decide); omega)
      · skip
        intro a195_3 b195_3 n195_3 a195_4 b195_4 g195_ hI195_ hF195_ hM195_
        refine z_iconst (pc := 195) (v := 0) C dX10_standing_195 (by decide) ?_
        exact ih7 a195_3 b195_3 (by have qc0 : (0 : Int32).toInt = 0 := (by decide); omega) a195_4 b195_4 0 (zB.wk (a' := 0) (b' := 1) (zB.of (x := 0) 0 (by decide)) (by decide) (by decide)) g195_ hI195_ hF195_  (by have qc0 : (0 : Int32).toInt = 0 := (by decide); omega)
      · skip
        intro a196_3 b196_3 n196_3 a196_4 b196_4 a196_s0 b196_s0 g196_ hI196_ hF196_ hM196_
        refine z_istore (pc := 196) C dX10_standing_196 (by rw [hn]; decide) rfl ?_
        refine z_iload (pc := 198) C dX10_standing_198 rfl ?_
        refine z_aload_n (pc := 200) C dX10_standing_200 rfl ?_
        refine z_getR (pc := 201) C zf_X10_16 rfl rfl (by decide) dX10_standing_201 ?_
        refine z_iload_n (pc := 204) C dX10_standing_204 rfl ?_
        refine z_iconst (pc := 205) (v := 5) C dX10_standing_205 (by decide) ?_
        refine z_iadd (pc := 206) C dX10_standing_206 ?_
        refine w_gp (fun v => v.toInt = a196_3.toInt + 5) (zadd_eb b196_3 (zB.of (x := 5) 5 (by decide)) (by decide) (by decide)) (fun v50 e50 => ?_)
        have b50x : zB v50 5 93 := by have q1 := b196_3; have q2 := (zB.of (x := 5) 5 (by decide)); constructor <;> omega
        refine z_iald (pc := 207) C rfl (by decide) (zIx b50x (by decide) (by decide)) dX10_standing_207 ?_
        refine w_gb 0 31 (by have hq9 := hI196_ 28 0 v50.toNatClampNeg; rw [zrg28 (r := 5) (by have hq : v50.toNatClampNeg = v50.toInt.toNat := rfl; have hq2 := b50x; omega)] at hq9; exact hq9) (fun v51 b51x => ?_)
        refine z_iand (pc := 208) C dX10_standing_208 ?_
        refine w_gp (fun v => zB v 0 31 ∧ v.toInt ≤ v51.toInt) (zand_r b196_4 b51x (by decide)) (fun v52 e52 => ?_)
        have b52x := e52.1
        have r52 := e52.2
        refine z_iload (pc := 209) C dX10_standing_209 rfl ?_
        refine z_if_eq (pc := 211) 219 C dX10_standing_211 (by decide) (fun h211_52 => ?_) (fun h211_52 => ?_)
        · skip
          have b54x : zB a196_s0 0 0 := by have q1 := b196_s0; have q2 := (zB.of (x := 0) 0 (by decide)); simp only [z32lt, z32le, z32eq, Int32.reduceToInt, Int32.toInt_zero] at h211_52; constructor <;> omega
          refine z_iconst (pc := 219) (v := 0) C dX10_standing_219 (by decide) ?_
          exact ih8 a196_3 b196_3 (by have qc0 : (0 : Int32).toInt = 0 := (by decide); omega) a196_4 b196_4 a196_s0 (zB.wk (a' := 0) (b' := 1) b54x (by decide) (by decide)) v52 b52x 0 (zB.wk (a' := 0) (b' := 32) (zB.of (x := 0) 0 (by decide)) (by decide) (by decide)) g196_ hI196_ hF196_  (by have qc0 : (0 : Int32).toInt = 0 := (by decide); omega)
        · skip
          have b55x : zB a196_s0 1 1 := by have q1 := b196_s0; have q2 := (zB.of (x := 0) 0 (by decide)); simp only [z32lt, z32le, z32eq, Int32.reduceToInt, Int32.toInt_zero] at h211_52; constructor <;> omega
          refine z_bipush (pc := 214) (v := 32) C dX10_standing_214 (by decide) ?_
          refine z_goto (pc := 216) 220 C dX10_standing_216 (by decide) ?_
          exact ih8 a196_3 b196_3 (by have qc0 : (32 : Int32).toInt = 32 := (by decide); omega) a196_4 b196_4 a196_s0 (zB.wk (a' := 0) (b' := 1) b55x (by decide) (by decide)) v52 b52x 32 (zB.wk (a' := 0) (b' := 32) (zB.of (x := 32) 32 (by decide)) (by decide) (by decide)) g196_ hI196_ hF196_  (by have qc0 : (32 : Int32).toInt = 32 := (by decide); omega)
      · skip
        intro a220_3 b220_3 n220_3 a220_4 b220_4 a220_5 b220_5 a220_s0 b220_s0 a220_s1 b220_s1 g220_ hI220_ hF220_ hM220_
        refine z_ior (pc := 220) C dX10_standing_220 ?_
        refine w_gb 0 63 (zor_b 6 b220_s0 b220_s1 (by decide) (by decide) (by decide) (by decide) (by decide)) (fun v56 b56x => ?_)
        exact z_iret (pc := 221) C hr dX10_standing_221 ⟨⟨_, rfl, b56x⟩, hI220_, hF220_⟩
  obtain ⟨J0, J1, J2, J3, J4, J5, J6, J7, J8⟩ := J 20
  show Z X 0 [some (zr 25 0), some (zi a1), some (zi a2), none, none, none] [] f
  refine z_bipush (pc := 0) (v := 8) C dX10_standing_0 (by decide) ?_
  refine z_iload_n (pc := 2) C dX10_standing_2 rfl ?_
  refine z_imul (pc := 3) C dX10_standing_3 ?_
  refine w_gp (fun v => v.toInt = 8 * a1.toInt) (zmul_kb 8 (by decide) (by decide) b1 (by decide) (by decide)) (fun v57 e57 => ?_)
  have b57x : zB v57 0 88 := zmul_bb e57 (by decide) b1
  refine z_istore_n (pc := 4) C dX10_standing_4 (by rw [hn]; decide) rfl ?_
  refine z_aload_n (pc := 5) C dX10_standing_5 rfl ?_
  refine z_getR (pc := 6) C zf_X10_22 rfl rfl (by decide) dX10_standing_6 ?_
  refine z_iconst (pc := 9) (v := 0) C dX10_standing_9 (by decide) ?_
  refine z_iald (pc := 10) C rfl (by decide) (zIx (zB.of (x := 0) 0 (by decide)) (by decide) (by decide)) dX10_standing_10 ?_
  refine w_gb 0 5 (hI 30 _ 0) (fun v58 b58x => ?_)
  refine z_aload_n (pc := 11) C dX10_standing_11 rfl ?_
  refine z_getR (pc := 12) C zf_X10_16 rfl rfl (by decide) dX10_standing_12 ?_
  refine z_iload_n (pc := 15) C dX10_standing_15 rfl ?_
  refine z_iconst (pc := 16) (v := 1) C dX10_standing_16 (by decide) ?_
  refine z_iadd (pc := 17) C dX10_standing_17 ?_
  refine w_gp (fun v => v.toInt = v57.toInt + 1) (zadd_eb b57x (zB.of (x := 1) 1 (by decide)) (by decide) (by decide)) (fun v59 e59 => ?_)
  have b59x : zB v59 1 89 := by have q1 := b57x; have q2 := (zB.of (x := 1) 1 (by decide)); constructor <;> omega
  refine z_iald (pc := 18) C rfl (by decide) (zIx b59x (by decide) (by decide)) dX10_standing_18 ?_
  refine w_gb 0 5 (by have hq9 := hI 28 0 v59.toNatClampNeg; rw [zrg28 (r := 1) (by have hq : v59.toNatClampNeg = v59.toInt.toNat := rfl; have hq2 := b59x; omega)] at hq9; exact hq9) (fun v60 b60x => ?_)
  refine z_icmp_ne (pc := 19) 26 C dX10_standing_19 (by decide) (fun h19_60 => ?_) (fun h19_60 => ?_)
  · skip
    refine z_iconst (pc := 26) (v := 0) C dX10_standing_26 (by decide) ?_
    exact J0 v57 b57x (by have qc0 : (0 : Int32).toInt = 0 := (by decide); omega) 0 (zB.wk (a' := 0) (b' := 1) (zB.of (x := 0) 0 (by decide)) (by decide) (by decide)) f hI hF  (by have qc0 : (0 : Int32).toInt = 0 := (by decide); omega)
  · skip
    refine z_iconst (pc := 22) (v := 1) C dX10_standing_22 (by decide) ?_
    refine z_goto (pc := 23) 27 C dX10_standing_23 (by decide) ?_
    exact J0 v57 b57x (by have qc0 : (1 : Int32).toInt = 1 := (by decide); omega) 1 (zB.wk (a' := 0) (b' := 1) (zB.of (x := 1) 1 (by decide)) (by decide) (by decide)) f hI hF  (by have qc0 : (1 : Int32).toInt = 1 := (by decide); omega)

set_option maxRecDepth 100000 in
set_option maxHeartbeats 4000000 in
theorem w_X10_mayGo (d : Nat) (f : zM) (a1 : Int32) (b1 : zB a1 0 11) (a2 : Int32) (b2 : zB a2 0 7) (a3 : Int32) (b3 : zB a3 0 1) (a4 : Int32) (b4 : zB a4 (-4) 5) (a5 : Int32) (b5 : zB a5 0 255) (hI : zInv f) : ZM (d + 3) yX10_mayGo cX10_mayGo 8 (some .boolean) [zr 25 0, zi a1, zi a2, zi a3, zi a4, zi a5] f (fun r g => (∃ v, r = some (zi v) ∧ zB v 0 1) ∧ zInv g ∧ zFr [] f g) := by
  refine ZM.intro (by decide +kernel) (Nat.le_of_ble_eq_true rfl) ?_
  intro X C hr hn
  have hF : zFr [] f f := zFr.rf _ _
  have J : ∀ t : Nat, (∀ a43_6 : Int32, zB a43_6 0 88 → a43_6.toInt % 8 = 0 → ∀ g : zM, zInv g → zFr [] f g → (4 : Int) < t → Z X 43 [some (zr 25 0), some (zi a1), some (zi a2), some (zi a3), some (zi a4), some (zi a5), some (zi a43_6), none] [] g) ∧ (∀ a48_6 : Int32, zB a48_6 0 88 → a48_6.toInt % 8 = 0 → ∀ a48_s0 : Int32, zB a48_s0 0 1 → ∀ g : zM, zInv g → zFr [] f g → (3 : Int) < t → Z X 48 [some (zr 25 0), some (zi a1), some (zi a2), some (zi a3), some (zi a4), some (zi a5), some (zi a48_6), none] [zi a48_s0] g) ∧ (∀ a74_6 : Int32, zB a74_6 0 88 → a74_6.toInt % 8 = 0 → ∀ a74_7 : Int32, zB a74_7 1 1 → ∀ g : zM, zInv g → zFr [] f g → (2 : Int) < t → Z X 74 [some (zr 25 0), some (zi a1), some (zi a2), some (zi a3), some (zi a4), some (zi a5), some (zi a74_6), some (zi a74_7)] [] g) ∧ (∀ a88_6 : Int32, zB a88_6 0 88 → a88_6.toInt % 8 = 0 → ∀ a88_7 : Int32, zB a88_7 0 1 → ∀ g : zM, zInv g → zFr [] f g → (1 : Int) < t → Z X 88 [some (zr 25 0), some (zi a1), some (zi a2), some (zi a3), some (zi a4), some (zi a5), some (zi a88_6), some (zi a88_7)] [] g) ∧ (∀ a89_6 : Int32, zB a89_6 0 88 → a89_6.toInt % 8 = 0 → ∀ a89_7 : Int32, zB a89_7 0 1 → ∀ a89_s0 : Int32, zB a89_s0 0 1 → ∀ g : zM, zInv g → zFr [] f g → (0 : Int) < t → Z X 89 [some (zr 25 0), some (zi a1), some (zi a2), some (zi a3), some (zi a4), some (zi a5), some (zi a89_6), some (zi a89_7)] [zi a89_s0] g) := by
    intro t
    induction t with
    | zero =>
      refine ⟨?_, ?_, ?_, ?_, ?_⟩ <;> (intros; exfalso; omega)
    | succ t ih =>
      obtain ⟨ih0, ih1, ih2, ih3, ih4⟩ := ih
      refine ⟨?_, ?_, ?_, ?_, ?_⟩
      · skip
        intro a43_6 b43_6 n43_6 g43_ hI43_ hF43_ hM43_
        refine z_iconst (pc := 43) (v := 1) C dX10_mayGo_43 (by decide) ?_
        refine z_goto (pc := 44) 48 C dX10_mayGo_44 (by decide) ?_
        exact ih1 a43_6 b43_6 (by have qc0 : (1 : Int32).toInt = 1 := (by decide); omega) 1 (zB.wk (a' := 0) (b' := 1) (zB.of (x := 1) 1 (by decide)) (by decide) (by decide)) g43_ hI43_ hF43_  (by have qc0 : (1 : Int32).toInt = 1 := (by decide); omega)
      · skip
        intro a48_6 b48_6 n48_6 a48_s0 b48_s0 g48_ hI48_ hF48_ hM48_
        refine z_istore (pc := 48) C dX10_mayGo_48 (by rw [hn]; decide) rfl ?_
        refine z_iload (pc := 50) C dX10_mayGo_50 rfl ?_
        refine z_if_eq (pc := 52) 88 C dX10_mayGo_52 (by decide) (fun h52_0 => ?_) (fun h52_0 => ?_)
        · skip
          have b2x : zB a48_s0 0 0 := by have q1 := b48_s0; have q2 := (zB.of (x := 0) 0 (by decide)); simp only [z32lt, z32le, z32eq, Int32.reduceToInt, Int32.toInt_zero] at h52_0; constructor <;> omega
          exact ih3 a48_6 b48_6 (by omega) a48_s0 (zB.wk (a' := 0) (b' := 1) b2x (by decide) (by decide)) g48_ hI48_ hF48_  (by omega)
        · skip
          have b3x : zB a48_s0 1 1 := by have q1 := b48_s0; have q2 := (zB.of (x := 0) 0 (by decide)); simp only [z32lt, z32le, z32eq, Int32.reduceToInt, Int32.toInt_zero] at h52_0; constructor <;> omega
          refine z_iload (pc := 55) C dX10_mayGo_55 rfl ?_
          refine z_if_lt (pc := 57) 74 C dX10_mayGo_57 (by decide) (fun h57_3 => ?_) (fun h57_3 => ?_)
          · skip
            have b5x : zB a4 (-4) (-1) := by have q1 := b4; have q2 := (zB.of (x := 0) 0 (by decide)); simp only [z32lt, z32le, z32eq, Int32.reduceToInt, Int32.toInt_zero] at h57_3; constructor <;> omega
            exact ih2 a48_6 b48_6 (by omega) a48_s0 b3x g48_ hI48_ hF48_  (by omega)
          · skip
            have b6x : zB a4 0 5 := by have q1 := b4; have q2 := (zB.of (x := 0) 0 (by decide)); simp only [z32lt, z32le, z32eq, Int32.reduceToInt, Int32.toInt_zero] at h57_3; constructor <;> omega
            refine z_aload_n (pc := 60) C dX10_mayGo_60 rfl ?_
            refine z_getR (pc := 61) C zf_X10_16 rfl rfl (by decide) dX10_mayGo_61 ?_
            refine z_iload (pc := 64) C dX10_mayGo_64 rfl ?_
            refine z_iconst (pc := 66) (v := 2) C dX10_mayGo_66 (by decide) ?_
            refine z_iadd (pc := 67) C dX10_mayGo_67 ?_
            refine w_gp (fun v => v.toInt = a48_6.toInt + 2) (zadd_eb b48_6 (zB.of (x := 2) 2 (by decide)) (by decide) (by decide)) (fun v7 e7 => ?_)
            have b7x : zB v7 2 90 := by have q1 := b48_6; have q2 := (zB.of (x := 2) 2 (by decide)); constructor <;> omega
            refine z_iald (pc := 68) C rfl (by decide) (zIx b7x (by decide) (by decide)) dX10_mayGo_68 ?_
            refine w_gb 0 5 (by have hq9 := hI48_ 28 0 v7.toNatClampNeg; rw [zrg28 (r := 2) (by have hq : v7.toNatClampNeg = v7.toInt.toNat := rfl; have hq2 := b7x; omega)] at hq9; exact hq9) (fun v8 b8x => ?_)
            refine z_iload (pc := 69) C dX10_mayGo_69 rfl ?_
            refine z_icmp_ne (pc := 71) 88 C dX10_mayGo_71 (by decide) (fun h71_8 => ?_) (fun h71_8 => ?_)
            · skip
              exact ih3 a48_6 b48_6 (by omega) a48_s0 (zB.wk (a' := 0) (b' := 1) b3x (by decide) (by decide)) g48_ hI48_ hF48_  (by omega)
            · skip
              exact ih2 a48_6 b48_6 (by omega) a48_s0 b3x g48_ hI48_ hF48_  (by omega)
      · skip
        intro a74_6 b74_6 n74_6 a74_7 b74_7 g74_ hI74_ hF74_ hM74_
        refine z_iload (pc := 74) C dX10_mayGo_74 rfl ?_
        refine z_iload_n (pc := 76) C dX10_mayGo_76 rfl ?_
        refine z_ishr (pc := 77) C dX10_mayGo_77 ?_
        refine w_gb (-2147483648) 2147483647 (zB_any _) (fun v10 b10x => ?_)
        refine z_iconst (pc := 78) (v := 1) C dX10_mayGo_78 (by decide) ?_
        refine z_iand (pc := 79) C dX10_mayGo_79 ?_
        refine w_gb 0 1 (zand_b b10x (zB.of (x := 1) 1 (by decide)) (by decide)) (fun v11 b11x => ?_)
        refine z_iconst (pc := 80) (v := 1) C dX10_mayGo_80 (by decide) ?_
        refine z_icmp_ne (pc := 81) 88 C dX10_mayGo_81 (by decide) (fun h81_11 => ?_) (fun h81_11 => ?_)
        · skip
          have b13x : zB v11 0 0 := by have q1 := b11x; have q2 := (zB.of (x := 1) 1 (by decide)); simp only [z32lt, z32le, z32eq, Int32.reduceToInt, Int32.toInt_zero] at h81_11; constructor <;> omega
          exact ih3 a74_6 b74_6 (by omega) a74_7 (zB.wk (a' := 0) (b' := 1) b74_7 (by decide) (by decide)) g74_ hI74_ hF74_  (by omega)
        · skip
          have b14x : zB v11 1 1 := by have q1 := b11x; have q2 := (zB.of (x := 1) 1 (by decide)); simp only [z32lt, z32le, z32eq, Int32.reduceToInt, Int32.toInt_zero] at h81_11; constructor <;> omega
          refine z_iconst (pc := 84) (v := 1) C dX10_mayGo_84 (by decide) ?_
          refine z_goto (pc := 85) 89 C dX10_mayGo_85 (by decide) ?_
          exact ih4 a74_6 b74_6 (by have qc0 : (1 : Int32).toInt = 1 := (by decide); omega) a74_7 (zB.wk (a' := 0) (b' := 1) b74_7 (by decide) (by decide)) 1 (zB.wk (a' := 0) (b' := 1) (zB.of (x := 1) 1 (by decide)) (by decide) (by decide)) g74_ hI74_ hF74_  (by have qc0 : (1 : Int32).toInt = 1 := (by decide); omega)
      · skip
        intro a88_6 b88_6 n88_6 a88_7 b88_7 g88_ hI88_ hF88_ hM88_
        refine z_iconst (pc := 88) (v := 0) C dX10_mayGo_88 (by decide) ?_
        exact ih4 a88_6 b88_6 (by have qc0 : (0 : Int32).toInt = 0 := (by decide); omega) a88_7 b88_7 0 (zB.wk (a' := 0) (b' := 1) (zB.of (x := 0) 0 (by decide)) (by decide) (by decide)) g88_ hI88_ hF88_  (by have qc0 : (0 : Int32).toInt = 0 := (by decide); omega)
      · skip
        intro a89_6 b89_6 n89_6 a89_7 b89_7 a89_s0 b89_s0 g89_ hI89_ hF89_ hM89_
        exact z_zret (pc := 89) C hr (z01 b89_s0) dX10_mayGo_89 ⟨⟨_, rfl, b89_s0⟩, hI89_, hF89_⟩
  obtain ⟨J0, J1, J2, J3, J4⟩ := J 16
  show Z X 0 [some (zr 25 0), some (zi a1), some (zi a2), some (zi a3), some (zi a4), some (zi a5), none, none] [] f
  refine z_bipush (pc := 0) (v := 8) C dX10_mayGo_0 (by decide) ?_
  refine z_iload_n (pc := 2) C dX10_mayGo_2 rfl ?_
  refine z_imul (pc := 3) C dX10_mayGo_3 ?_
  refine w_gp (fun v => v.toInt = 8 * a1.toInt) (zmul_kb 8 (by decide) (by decide) b1 (by decide) (by decide)) (fun v15 e15 => ?_)
  have b15x : zB v15 0 88 := zmul_bb e15 (by decide) b1
  refine z_istore (pc := 4) C dX10_mayGo_4 (by rw [hn]; decide) rfl ?_
  refine z_iload_n (pc := 6) C dX10_mayGo_6 rfl ?_
  refine z_if_eq (pc := 7) 43 C dX10_mayGo_7 (by decide) (fun h7_15 => ?_) (fun h7_15 => ?_)
  · skip
    have b17x : zB a3 0 0 := by have q1 := b3; have q2 := (zB.of (x := 0) 0 (by decide)); simp only [z32lt, z32le, z32eq, Int32.reduceToInt, Int32.toInt_zero] at h7_15; constructor <;> omega
    exact J0 v15 b15x (by omega) f hI hF  (by omega)
  · skip
    have b18x : zB a3 1 1 := by have q1 := b3; have q2 := (zB.of (x := 0) 0 (by decide)); simp only [z32lt, z32le, z32eq, Int32.reduceToInt, Int32.toInt_zero] at h7_15; constructor <;> omega
    refine z_aload_n (pc := 10) C dX10_mayGo_10 rfl ?_
    refine z_getR (pc := 11) C zf_X10_16 rfl rfl (by decide) dX10_mayGo_11 ?_
    refine z_iload (pc := 14) C dX10_mayGo_14 rfl ?_
    refine z_bipush (pc := 16) (v := 7) C dX10_mayGo_16 (by decide) ?_
    refine z_iadd (pc := 18) C dX10_mayGo_18 ?_
    refine w_gp (fun v => v.toInt = v15.toInt + 7) (zadd_eb b15x (zB.of (x := 7) 7 (by decide)) (by decide) (by decide)) (fun v19 e19 => ?_)
    have b19x : zB v19 7 95 := by have q1 := b15x; have q2 := (zB.of (x := 7) 7 (by decide)); constructor <;> omega
    refine z_iald (pc := 19) C rfl (by decide) (zIx b19x (by decide) (by decide)) dX10_mayGo_19 ?_
    refine w_gb 0 7 (by have hq9 := hI 28 0 v19.toNatClampNeg; rw [zrg28 (r := 7) (by have hq : v19.toNatClampNeg = v19.toInt.toNat := rfl; have hq2 := b19x; omega)] at hq9; exact hq9) (fun v20 b20x => ?_)
    refine z_iconst (pc := 20) (v := 1) C dX10_mayGo_20 (by decide) ?_
    refine z_iand (pc := 21) C dX10_mayGo_21 ?_
    refine w_gb 0 1 (zand_b b20x (zB.of (x := 1) 1 (by decide)) (by decide)) (fun v21 b21x => ?_)
    refine z_iconst (pc := 22) (v := 1) C dX10_mayGo_22 (by decide) ?_
    refine z_icmp_eq (pc := 23) 43 C dX10_mayGo_23 (by decide) (fun h23_21 => ?_) (fun h23_21 => ?_)
    · skip
      have b23x : zB v21 1 1 := by have q1 := b21x; have q2 := (zB.of (x := 1) 1 (by decide)); simp only [z32lt, z32le, z32eq, Int32.reduceToInt, Int32.toInt_zero] at h23_21; constructor <;> omega
      exact J0 v15 b15x (by omega) f hI hF  (by omega)
    · skip
      have b24x : zB v21 0 0 := by have q1 := b21x; have q2 := (zB.of (x := 1) 1 (by decide)); simp only [z32lt, z32le, z32eq, Int32.reduceToInt, Int32.toInt_zero] at h23_21; constructor <;> omega
      refine z_aload_n (pc := 26) C dX10_mayGo_26 rfl ?_
      refine z_iload_n (pc := 27) C dX10_mayGo_27 rfl ?_
      refine z_aload_n (pc := 28) C dX10_mayGo_28 rfl ?_
      refine z_getR (pc := 29) C zf_X10_16 rfl rfl (by decide) dX10_mayGo_29 ?_
      refine z_iload (pc := 32) C dX10_mayGo_32 rfl ?_
      refine z_iconst (pc := 34) (v := 2) C dX10_mayGo_34 (by decide) ?_
      refine z_iadd (pc := 35) C dX10_mayGo_35 ?_
      refine w_gp (fun v => v.toInt = v15.toInt + 2) (zadd_eb b15x (zB.of (x := 2) 2 (by decide)) (by decide) (by decide)) (fun v25 e25 => ?_)
      have b25x : zB v25 2 90 := by have q1 := b15x; have q2 := (zB.of (x := 2) 2 (by decide)); constructor <;> omega
      refine z_iald (pc := 36) C rfl (by decide) (zIx b25x (by decide) (by decide)) dX10_mayGo_36 ?_
      refine w_gb 0 5 (by have hq9 := hI 28 0 v25.toNatClampNeg; rw [zrg28 (r := 2) (by have hq : v25.toNatClampNeg = v25.toInt.toNat := rfl; have hq2 := b25x; omega)] at hq9; exact hq9) (fun v26 b26x => ?_)
      refine z_callV (pc := 37) C zk_X10_135 (w_X10_isDeadly _ _ a2 b2 v26 b26x hI) rfl rfl (by decide) rfl rfl (Nat.le_of_ble_eq_true rfl) dX10_mayGo_37 (fun r27 g27 q27 => ?_)
      obtain ⟨⟨v27, rfl, b27x⟩, hI27, hF27q⟩ := q27
      obtain rfl := zFr_nil hF27q
      simp only [Option.toList, List.cons_append, List.nil_append]
      refine z_if_ne (pc := 40) 47 C dX10_mayGo_40 (by decide) (fun h40_27 => ?_) (fun h40_27 => ?_)
      · skip
        have b29x : zB v27 1 1 := by have q1 := b27x; have q2 := (zB.of (x := 0) 0 (by decide)); simp only [z32lt, z32le, z32eq, Int32.reduceToInt, Int32.toInt_zero] at h40_27; constructor <;> omega
        refine z_iconst (pc := 47) (v := 0) C dX10_mayGo_47 (by decide) ?_
        exact J1 v15 b15x (by have qc0 : (0 : Int32).toInt = 0 := (by decide); omega) 0 (zB.wk (a' := 0) (b' := 1) (zB.of (x := 0) 0 (by decide)) (by decide) (by decide)) f hI hF  (by have qc0 : (0 : Int32).toInt = 0 := (by decide); omega)
      · skip
        have b30x : zB v27 0 0 := by have q1 := b27x; have q2 := (zB.of (x := 0) 0 (by decide)); simp only [z32lt, z32le, z32eq, Int32.reduceToInt, Int32.toInt_zero] at h40_27; constructor <;> omega
        exact J0 v15 b15x (by omega) f hI hF  (by omega)

set_option maxRecDepth 100000 in
set_option maxHeartbeats 4000000 in
theorem w_X10_findOpen (d : Nat) (f : zM)  (hI : zInv f) : ZM (d + 4) yX10_findOpen cX10_findOpen 3 none [zr 25 0] f (fun r g => r = none ∧ zInv g ∧ zFr [(31, none)] f g) := by
  refine ZM.intro (by decide +kernel) (Nat.le_of_ble_eq_true rfl) ?_
  intro X C hr hn
  have hF : zFr [(31, none)] f f := zFr.rf _ _
  have J : ∀ t : Nat, (∀ a2_1 : Int32, zB a2_1 0 12 → ∀ g : zM, zInv g → zFr [(31, none)] f g → (57 + 60 * (12 - a2_1.toInt) : Int) < t → Z X 2 [some (zr 25 0), some (zi a2_1), none] [] g) ∧ (∀ a19_1 : Int32, zB a19_1 0 11 → ∀ a19_2 : Int32, zB a19_2 0 8 → ∀ g : zM, zInv g → zFr [(31, none)] f g → (2 + 6 * (8 - a19_2.toInt) + 60 * (12 - a19_1.toInt) : Int) < t → Z X 19 [some (zr 25 0), some (zi a19_1), some (zi a19_2)] [] g) ∧ (∀ a58_1 : Int32, zB a58_1 0 11 → ∀ a58_2 : Int32, zB a58_2 0 7 → ∀ a58_s1 : Int32, zB a58_s1 0 11 → ∀ a58_s2 : Int32, zB a58_s2 0 255 → ∀ g : zM, zInv g → zFr [(31, none)] f g → (1 + 6 * (8 - a58_2.toInt) + 60 * (12 - a58_1.toInt) : Int) < t → Z X 58 [some (zr 25 0), some (zi a58_1), some (zi a58_2)] [zi a58_s2, zi a58_s1, zr 31 0] g) ∧ (∀ a59_1 : Int32, zB a59_1 0 11 → ∀ a59_2 : Int32, zB a59_2 0 7 → ∀ a59_s1 : Int32, zB a59_s1 0 11 → ∀ a59_s2 : Int32, zB a59_s2 0 255 → ∀ a59_s3 : Int32, zB a59_s3 0 128 → ∀ g : zM, zInv g → zFr [(31, none)] f g → (0 + 6 * (8 - a59_2.toInt) + 60 * (12 - a59_1.toInt) : Int) < t → Z X 59 [some (zr 25 0), some (zi a59_1), some (zi a59_2)] [zi a59_s3, zi a59_s2, zi a59_s1, zr 31 0] g) := by
    intro t
    induction t with
    | zero =>
      refine ⟨?_, ?_, ?_, ?_⟩ <;> (intros; exfalso; omega)
    | succ t ih =>
      obtain ⟨ih0, ih1, ih2, ih3⟩ := ih
      refine ⟨?_, ?_, ?_, ?_⟩
      · skip
        intro a2_1 b2_1 g2_ hI2_ hF2_ hM2_
        refine z_iload_n (pc := 2) C dX10_findOpen_2 rfl ?_
        refine z_aload_n (pc := 3) C dX10_findOpen_3 rfl ?_
        refine z_getI (pc := 4) C zf_X10_77 rfl rfl (by decide) dX10_findOpen_4 ?_
        refine w_gb 0 12 (hI2_ 25 _ 4) (fun v1 b1x => ?_)
        refine z_icmp_ge (pc := 7) 73 C dX10_findOpen_7 (by decide) (fun h7_1 => ?_) (fun h7_1 => ?_)
        · skip
          exact z_vret (pc := 73) C hr dX10_findOpen_73 ⟨rfl, hI2_, hF2_⟩
        · skip
          have b3x : zB a2_1 0 11 := by have q1 := b2_1; have q2 := b1x; simp only [z32lt, z32le, z32eq, Int32.reduceToInt, Int32.toInt_zero] at h7_1; constructor <;> omega
          have b4x : zB v1 1 12 := by have q1 := b2_1; have q2 := b1x; simp only [z32lt, z32le, z32eq, Int32.reduceToInt, Int32.toInt_zero] at h7_1; constructor <;> omega
          refine z_aload_n (pc := 10) C dX10_findOpen_10 rfl ?_
          refine z_getR (pc := 11) C zf_X10_25 rfl rfl (by decide) dX10_findOpen_11 ?_
          refine z_iload_n (pc := 14) C dX10_findOpen_14 rfl ?_
          refine z_iconst (pc := 15) (v := 0) C dX10_findOpen_15 (by decide) ?_
          refine z_iast (pc := 16) C rfl (by decide) (zIx b3x (by decide) (by decide)) dX10_findOpen_16 ?_
          refine w_mem hI2_ hF2_ (zB.wk (a' := 0) (b' := 255) (zB.of (x := 0) 0 (by decide)) (by decide) (by decide)) rfl (fun g5 hI5 hF5 => ?_)
          refine z_iconst (pc := 17) (v := 0) C dX10_findOpen_17 (by decide) ?_
          refine z_istore_n (pc := 18) C dX10_findOpen_18 (by rw [hn]; decide) rfl ?_
          exact ih1 a2_1 b3x 0 (zB.wk (a' := 0) (b' := 8) (zB.of (x := 0) 0 (by decide)) (by decide) (by decide)) g5 hI5 hF5  (by have qc0 : (0 : Int32).toInt = 0 := (by decide); omega)
      · skip
        intro a19_1 b19_1 a19_2 b19_2 g19_ hI19_ hF19_ hM19_
        refine z_iload_n (pc := 19) C dX10_findOpen_19 rfl ?_
        refine z_aload_n (pc := 20) C dX10_findOpen_20 rfl ?_
        refine z_getI (pc := 21) C zf_X10_73 rfl rfl (by decide) dX10_findOpen_21 ?_
        refine w_gb 0 8 (hI19_ 25 _ 2) (fun v6 b6x => ?_)
        refine z_icmp_ge (pc := 24) 67 C dX10_findOpen_24 (by decide) (fun h24_6 => ?_) (fun h24_6 => ?_)
        · skip
          refine z_iinc (pc := 67) (v := 1) C dX10_findOpen_67 rfl (by decide) (by rw [hn]; decide) rfl ?_
          obtain ⟨v8, hv8, e8⟩ : ∃ v : Int32, v = a19_1 + 1 ∧ v.toInt = a19_1.toInt + 1 := ⟨_, rfl, zadd_eb b19_1 (zB.of (x := 1) 1 (by decide)) (by decide) (by decide)⟩
          rw [← hv8]
          have b8x : zB v8 1 12 := by have q9 := b19_1; constructor <;> omega
          refine z_goto (pc := 70) 2 C dX10_findOpen_70 (by decide) ?_
          refine w_mask [2] ?_
          exact ih0 v8 (zB.wk (a' := 0) (b' := 12) b8x (by decide) (by decide)) g19_ hI19_ hF19_  (by omega)
        · skip
          have b9x : zB a19_2 0 7 := by have q1 := b19_2; have q2 := b6x; simp only [z32lt, z32le, z32eq, Int32.reduceToInt, Int32.toInt_zero] at h24_6; constructor <;> omega
          have b10x : zB v6 1 8 := by have q1 := b19_2; have q2 := b6x; simp only [z32lt, z32le, z32eq, Int32.reduceToInt, Int32.toInt_zero] at h24_6; constructor <;> omega
          refine z_aload_n (pc := 27) C dX10_findOpen_27 rfl ?_
          refine z_getR (pc := 28) C zf_X10_25 rfl rfl (by decide) dX10_findOpen_28 ?_
          refine z_iload_n (pc := 31) C dX10_findOpen_31 rfl ?_
          refine z_dup2 (pc := 32) C dX10_findOpen_32 ?_
          refine z_iald (pc := 33) C rfl (by decide) (zIx b19_1 (by decide) (by decide)) dX10_findOpen_33 ?_
          refine w_gb 0 255 (hI19_ 31 _ _) (fun v11 b11x => ?_)
          refine z_aload_n (pc := 34) C dX10_findOpen_34 rfl ?_
          refine z_iload_n (pc := 35) C dX10_findOpen_35 rfl ?_
          refine z_iload_n (pc := 36) C dX10_findOpen_36 rfl ?_
          refine z_callV (pc := 37) C zk_X10_138 (w_X10_isCovered _ _ a19_1 b19_1 a19_2 b9x hI19_) rfl rfl (by decide) rfl rfl (Nat.le_of_ble_eq_true rfl) dX10_findOpen_37 (fun r12 g12 q12 => ?_)
          obtain ⟨⟨v12, rfl, b12x⟩, hI12, hF12q⟩ := q12
          obtain rfl := zFr_nil hF12q
          simp only [Option.toList, List.cons_append, List.nil_append]
          refine z_if_eq (pc := 40) 58 C dX10_findOpen_40 (by decide) (fun h40_12 => ?_) (fun h40_12 => ?_)
          · skip
            have b14x : zB v12 0 0 := by have q1 := b12x; have q2 := (zB.of (x := 0) 0 (by decide)); simp only [z32lt, z32le, z32eq, Int32.reduceToInt, Int32.toInt_zero] at h40_12; constructor <;> omega
            exact ih2 a19_1 b19_1 a19_2 b9x a19_1 b19_1 v11 b11x g19_ hI19_ hF19_  (by omega)
          · skip
            have b15x : zB v12 1 1 := by have q1 := b12x; have q2 := (zB.of (x := 0) 0 (by decide)); simp only [z32lt, z32le, z32eq, Int32.reduceToInt, Int32.toInt_zero] at h40_12; constructor <;> omega
            refine z_aload_n (pc := 43) C dX10_findOpen_43 rfl ?_
            refine z_iload_n (pc := 44) C dX10_findOpen_44 rfl ?_
            refine z_iload_n (pc := 45) C dX10_findOpen_45 rfl ?_
            refine z_callV (pc := 46) C zk_X10_141 (w_X10_standing _ _ a19_1 b19_1 a19_2 b9x hI19_) rfl rfl (by decide) rfl rfl (Nat.le_of_ble_eq_true rfl) dX10_findOpen_46 (fun r16 g16 q16 => ?_)
            obtain ⟨⟨v16, rfl, b16x⟩, hI16, hF16q⟩ := q16
            obtain rfl := zFr_nil hF16q
            simp only [Option.toList, List.cons_append, List.nil_append]
            refine z_if_ne (pc := 49) 58 C dX10_findOpen_49 (by decide) (fun h49_16 => ?_) (fun h49_16 => ?_)
            · skip
              have b18x : zB v16 1 63 := by have q1 := b16x; have q2 := (zB.of (x := 0) 0 (by decide)); simp only [z32lt, z32le, z32eq, Int32.reduceToInt, Int32.toInt_zero] at h49_16; constructor <;> omega
              exact ih2 a19_1 b19_1 a19_2 b9x a19_1 b19_1 v11 b11x g19_ hI19_ hF19_  (by omega)
            · skip
              have b19x : zB v16 0 0 := by have q1 := b16x; have q2 := (zB.of (x := 0) 0 (by decide)); simp only [z32lt, z32le, z32eq, Int32.reduceToInt, Int32.toInt_zero] at h49_16; constructor <;> omega
              refine z_iconst (pc := 52) (v := 1) C dX10_findOpen_52 (by decide) ?_
              refine z_iload_n (pc := 53) C dX10_findOpen_53 rfl ?_
              refine z_ishl (pc := 54) C dX10_findOpen_54 ?_
              refine w_gb 0 128 (zshl_b b9x 7 (by decide) (by decide)) (fun v20 b20x => ?_)
              refine z_goto (pc := 55) 59 C dX10_findOpen_55 (by decide) ?_
              exact ih3 a19_1 b19_1 a19_2 b9x a19_1 b19_1 v11 b11x v20 b20x g19_ hI19_ hF19_  (by omega)
      · skip
        intro a58_1 b58_1 a58_2 b58_2 a58_s1 b58_s1 a58_s2 b58_s2 g58_ hI58_ hF58_ hM58_
        refine z_iconst (pc := 58) (v := 0) C dX10_findOpen_58 (by decide) ?_
        exact ih3 a58_1 b58_1 a58_2 b58_2 a58_s1 b58_s1 a58_s2 b58_s2 0 (zB.wk (a' := 0) (b' := 128) (zB.of (x := 0) 0 (by decide)) (by decide) (by decide)) g58_ hI58_ hF58_  (by have qc0 : (0 : Int32).toInt = 0 := (by decide); omega)
      · skip
        intro a59_1 b59_1 a59_2 b59_2 a59_s1 b59_s1 a59_s2 b59_s2 a59_s3 b59_s3 g59_ hI59_ hF59_ hM59_
        refine z_ior (pc := 59) C dX10_findOpen_59 ?_
        refine w_gb 0 255 (zor_b 8 b59_s2 b59_s3 (by decide) (by decide) (by decide) (by decide) (by decide)) (fun v21 b21x => ?_)
        refine z_iast (pc := 60) C rfl (by decide) (zIx b59_s1 (by decide) (by decide)) dX10_findOpen_60 ?_
        refine w_mem hI59_ hF59_ b21x rfl (fun g22 hI22 hF22 => ?_)
        refine z_iinc (pc := 61) (v := 1) C dX10_findOpen_61 rfl (by decide) (by rw [hn]; decide) rfl ?_
        obtain ⟨v23, hv23, e23⟩ : ∃ v : Int32, v = a59_2 + 1 ∧ v.toInt = a59_2.toInt + 1 := ⟨_, rfl, zadd_eb b59_2 (zB.of (x := 1) 1 (by decide)) (by decide) (by decide)⟩
        rw [← hv23]
        have b23x : zB v23 1 8 := by have q9 := b59_2; constructor <;> omega
        refine z_goto (pc := 64) 19 C dX10_findOpen_64 (by decide) ?_
        exact ih1 a59_1 b59_1 v23 (zB.wk (a' := 0) (b' := 8) b23x (by decide) (by decide)) g22 hI22 hF22  (by omega)
  obtain ⟨J0, J1, J2, J3⟩ := J 849
  show Z X 0 [some (zr 25 0), none, none] [] f
  refine z_iconst (pc := 0) (v := 0) C dX10_findOpen_0 (by decide) ?_
  refine z_istore_n (pc := 1) C dX10_findOpen_1 (by rw [hn]; decide) rfl ?_
  exact J0 0 (zB.wk (a' := 0) (b' := 12) (zB.of (x := 0) 0 (by decide)) (by decide) (by decide)) f hI hF  (by have qc0 : (0 : Int32).toInt = 0 := (by decide); omega)

set_option maxRecDepth 100000 in
set_option maxHeartbeats 4000000 in
theorem w_X10_goes (d : Nat) (f : zM) (a1 : Int32) (b1 : zB a1 0 11) (a2 : Int32) (b2 : zB a2 0 5) (a3 : Int32) (b3 : zB a3 0 1) (a4 : Int32) (b4 : zB a4 (-4) 5) (a5 : Int32) (b5 : zB a5 0 255) (hI : zInv f) : ZM (d + 4) yX10_goes cX10_goes 8 (some .int) [zr 25 0, zi a1, zi a2, zi a3, zi a4, zi a5] f (fun r g => (∃ v, r = some (zi v) ∧ zB v 0 255) ∧ zInv g ∧ zFr [] f g) := by
  refine ZM.intro (by decide +kernel) (Nat.le_of_ble_eq_true rfl) ?_
  intro X C hr hn
  have hF : zFr [] f f := zFr.rf _ _
  have J : ∀ t : Nat, (∀ a6_6 : Int32, zB a6_6 0 255 → ∀ a6_7 : Int32, zB a6_7 0 8 → ∀ g : zM, zInv g → zFr [] f g → (3 + 6 * (8 - a6_7.toInt) : Int) < t → Z X 6 [some (zr 25 0), some (zi a1), some (zi a2), some (zi a3), some (zi a4), some (zi a5), some (zi a6_6), some (zi a6_7)] [] g) ∧ (∀ a69_6 : Int32, zB a69_6 0 255 → ∀ a69_7 : Int32, zB a69_7 0 7 → ∀ a69_s0 : Int32, zB a69_s0 0 255 → ∀ g : zM, zInv g → zFr [] f g → (2 + 6 * (8 - a69_7.toInt) : Int) < t → Z X 69 [some (zr 25 0), some (zi a1), some (zi a2), some (zi a3), some (zi a4), some (zi a5), some (zi a69_6), some (zi a69_7)] [zi a69_s0] g) ∧ (∀ a70_6 : Int32, zB a70_6 0 255 → ∀ a70_7 : Int32, zB a70_7 0 7 → ∀ a70_s0 : Int32, zB a70_s0 0 255 → ∀ a70_s1 : Int32, zB a70_s1 0 128 → ∀ g : zM, zInv g → zFr [] f g → (1 + 6 * (8 - a70_7.toInt) : Int) < t → Z X 70 [some (zr 25 0), some (zi a1), some (zi a2), some (zi a3), some (zi a4), some (zi a5), some (zi a70_6), some (zi a70_7)] [zi a70_s1, zi a70_s0] g) ∧ (∀ a79_6 : Int32, zB a79_6 0 255 → ∀ a79_7 : Int32, zB a79_7 0 8 → ∀ g : zM, zInv g → zFr [] f g → (0 : Int) < t → Z X 79 [some (zr 25 0), some (zi a1), some (zi a2), some (zi a3), some (zi a4), some (zi a5), some (zi a79_6), some (zi a79_7)] [] g) := by
    intro t
    induction t with
    | zero =>
      refine ⟨?_, ?_, ?_, ?_⟩ <;> (intros; exfalso; omega)
    | succ t ih =>
      obtain ⟨ih0, ih1, ih2, ih3⟩ := ih
      refine ⟨?_, ?_, ?_, ?_⟩
      · skip
        intro a6_6 b6_6 a6_7 b6_7 g6_ hI6_ hF6_ hM6_
        refine z_iload (pc := 6) C dX10_goes_6 rfl ?_
        refine z_aload_n (pc := 8) C dX10_goes_8 rfl ?_
        refine z_getI (pc := 9) C zf_X10_73 rfl rfl (by decide) dX10_goes_9 ?_
        refine w_gb 0 8 (hI6_ 25 _ 2) (fun v1 b1x => ?_)
        refine z_icmp_ge (pc := 12) 79 C dX10_goes_12 (by decide) (fun h12_1 => ?_) (fun h12_1 => ?_)
        · skip
          exact ih3 a6_6 b6_6 a6_7 b6_7 g6_ hI6_ hF6_  (by omega)
        · skip
          have b3x : zB a6_7 0 7 := by have q1 := b6_7; have q2 := b1x; simp only [z32lt, z32le, z32eq, Int32.reduceToInt, Int32.toInt_zero] at h12_1; constructor <;> omega
          have b4x : zB v1 1 8 := by have q1 := b6_7; have q2 := b1x; simp only [z32lt, z32le, z32eq, Int32.reduceToInt, Int32.toInt_zero] at h12_1; constructor <;> omega
          refine z_aload_n (pc := 15) C dX10_goes_15 rfl ?_
          refine z_getR (pc := 16) C zf_X10_16 rfl rfl (by decide) dX10_goes_16 ?_
          refine z_bipush (pc := 19) (v := 8) C dX10_goes_19 (by decide) ?_
          refine z_iload_n (pc := 21) C dX10_goes_21 rfl ?_
          refine z_imul (pc := 22) C dX10_goes_22 ?_
          refine w_gp (fun v => v.toInt = 8 * a1.toInt) (zmul_kb 8 (by decide) (by decide) b1 (by decide) (by decide)) (fun v5 e5 => ?_)
          have b5x : zB v5 0 88 := zmul_bb e5 (by decide) b1
          refine z_iconst (pc := 23) (v := 1) C dX10_goes_23 (by decide) ?_
          refine z_iadd (pc := 24) C dX10_goes_24 ?_
          refine w_gp (fun v => v.toInt = v5.toInt + 1) (zadd_eb b5x (zB.of (x := 1) 1 (by decide)) (by decide) (by decide)) (fun v6 e6 => ?_)
          have b6x : zB v6 1 89 := by have q1 := b5x; have q2 := (zB.of (x := 1) 1 (by decide)); constructor <;> omega
          refine z_iald (pc := 25) C rfl (by decide) (zIx b6x (by decide) (by decide)) dX10_goes_25 ?_
          refine w_gb 0 5 (by have hq9 := hI6_ 28 0 v6.toNatClampNeg; rw [zrg28 (r := 1) (by have hq : v6.toNatClampNeg = v6.toInt.toNat := rfl; have hq2 := b6x; omega)] at hq9; exact hq9) (fun v7 b7x => ?_)
          refine z_iload_n (pc := 26) C dX10_goes_26 rfl ?_
          refine z_icmp_ne (pc := 27) 79 C dX10_goes_27 (by decide) (fun h27_7 => ?_) (fun h27_7 => ?_)
          · skip
            exact ih3 a6_6 b6_6 a6_7 (zB.wk (a' := 0) (b' := 8) b3x (by decide) (by decide)) g6_ hI6_ hF6_  (by omega)
          · skip
            refine z_iload (pc := 30) C dX10_goes_30 rfl ?_
            refine z_aload_n (pc := 32) C dX10_goes_32 rfl ?_
            refine z_getR (pc := 33) C zf_X10_25 rfl rfl (by decide) dX10_goes_33 ?_
            refine z_iload_n (pc := 36) C dX10_goes_36 rfl ?_
            refine z_iald (pc := 37) C rfl (by decide) (zIx b1 (by decide) (by decide)) dX10_goes_37 ?_
            refine w_gb 0 255 (hI6_ 31 _ _) (fun v9 b9x => ?_)
            refine z_iload (pc := 38) C dX10_goes_38 rfl ?_
            refine z_ishr (pc := 40) C dX10_goes_40 ?_
            refine w_gb (-2147483648) 2147483647 (zB_any _) (fun v10 b10x => ?_)
            refine z_iconst (pc := 41) (v := 1) C dX10_goes_41 (by decide) ?_
            refine z_iand (pc := 42) C dX10_goes_42 ?_
            refine w_gb 0 1 (zand_b b10x (zB.of (x := 1) 1 (by decide)) (by decide)) (fun v11 b11x => ?_)
            refine z_iconst (pc := 43) (v := 1) C dX10_goes_43 (by decide) ?_
            refine z_icmp_ne (pc := 44) 69 C dX10_goes_44 (by decide) (fun h44_11 => ?_) (fun h44_11 => ?_)
            · skip
              have b13x : zB v11 0 0 := by have q1 := b11x; have q2 := (zB.of (x := 1) 1 (by decide)); simp only [z32lt, z32le, z32eq, Int32.reduceToInt, Int32.toInt_zero] at h44_11; constructor <;> omega
              exact ih1 a6_6 b6_6 a6_7 b3x a6_6 b6_6 g6_ hI6_ hF6_  (by omega)
            · skip
              have b14x : zB v11 1 1 := by have q1 := b11x; have q2 := (zB.of (x := 1) 1 (by decide)); simp only [z32lt, z32le, z32eq, Int32.reduceToInt, Int32.toInt_zero] at h44_11; constructor <;> omega
              refine z_aload_n (pc := 47) C dX10_goes_47 rfl ?_
              refine z_iload_n (pc := 48) C dX10_goes_48 rfl ?_
              refine z_iload (pc := 49) C dX10_goes_49 rfl ?_
              refine z_iload_n (pc := 51) C dX10_goes_51 rfl ?_
              refine z_iload (pc := 52) C dX10_goes_52 rfl ?_
              refine z_iload (pc := 54) C dX10_goes_54 rfl ?_
              refine z_callV (pc := 56) C zk_X10_144 (w_X10_mayGo _ _ a1 b1 a6_7 b3x a3 b3 a4 b4 a5 b5 hI6_) rfl rfl (by decide) rfl rfl (Nat.le_of_ble_eq_true rfl) dX10_goes_56 (fun r15 g15 q15 => ?_)
              obtain ⟨⟨v15, rfl, b15x⟩, hI15, hF15q⟩ := q15
              obtain rfl := zFr_nil hF15q
              simp only [Option.toList, List.cons_append, List.nil_append]
              refine z_if_eq (pc := 59) 69 C dX10_goes_59 (by decide) (fun h59_15 => ?_) (fun h59_15 => ?_)
              · skip
                have b17x : zB v15 0 0 := by have q1 := b15x; have q2 := (zB.of (x := 0) 0 (by decide)); simp only [z32lt, z32le, z32eq, Int32.reduceToInt, Int32.toInt_zero] at h59_15; constructor <;> omega
                exact ih1 a6_6 b6_6 a6_7 b3x a6_6 b6_6 g6_ hI6_ hF6_  (by omega)
              · skip
                have b18x : zB v15 1 1 := by have q1 := b15x; have q2 := (zB.of (x := 0) 0 (by decide)); simp only [z32lt, z32le, z32eq, Int32.reduceToInt, Int32.toInt_zero] at h59_15; constructor <;> omega
                refine z_iconst (pc := 62) (v := 1) C dX10_goes_62 (by decide) ?_
                refine z_iload (pc := 63) C dX10_goes_63 rfl ?_
                refine z_ishl (pc := 65) C dX10_goes_65 ?_
                refine w_gb 0 128 (zshl_b b3x 7 (by decide) (by decide)) (fun v19 b19x => ?_)
                refine z_goto (pc := 66) 70 C dX10_goes_66 (by decide) ?_
                exact ih2 a6_6 b6_6 a6_7 b3x a6_6 b6_6 v19 b19x g6_ hI6_ hF6_  (by omega)
      · skip
        intro a69_6 b69_6 a69_7 b69_7 a69_s0 b69_s0 g69_ hI69_ hF69_ hM69_
        refine z_iconst (pc := 69) (v := 0) C dX10_goes_69 (by decide) ?_
        exact ih2 a69_6 b69_6 a69_7 b69_7 a69_s0 b69_s0 0 (zB.wk (a' := 0) (b' := 128) (zB.of (x := 0) 0 (by decide)) (by decide) (by decide)) g69_ hI69_ hF69_  (by have qc0 : (0 : Int32).toInt = 0 := (by decide); omega)
      · skip
        intro a70_6 b70_6 a70_7 b70_7 a70_s0 b70_s0 a70_s1 b70_s1 g70_ hI70_ hF70_ hM70_
        refine z_ior (pc := 70) C dX10_goes_70 ?_
        refine w_gb 0 255 (zor_b 8 b70_s0 b70_s1 (by decide) (by decide) (by decide) (by decide) (by decide)) (fun v20 b20x => ?_)
        refine z_istore (pc := 71) C dX10_goes_71 (by rw [hn]; decide) rfl ?_
        refine z_iinc (pc := 73) (v := 1) C dX10_goes_73 rfl (by decide) (by rw [hn]; decide) rfl ?_
        obtain ⟨v21, hv21, e21⟩ : ∃ v : Int32, v = a70_7 + 1 ∧ v.toInt = a70_7.toInt + 1 := ⟨_, rfl, zadd_eb b70_7 (zB.of (x := 1) 1 (by decide)) (by decide) (by decide)⟩
        rw [← hv21]
        have b21x : zB v21 1 8 := by have q9 := b70_7; constructor <;> omega
        refine z_goto (pc := 76) 6 C dX10_goes_76 (by decide) ?_
        exact ih0 v20 b20x v21 (zB.wk (a' := 0) (b' := 8) b21x (by decide) (by decide)) g70_ hI70_ hF70_  (by omega)
      · skip
        intro a79_6 b79_6 a79_7 b79_7 g79_ hI79_ hF79_ hM79_
        refine z_iload (pc := 79) C dX10_goes_79 rfl ?_
        exact z_iret (pc := 81) C hr dX10_goes_81 ⟨⟨_, rfl, b79_6⟩, hI79_, hF79_⟩
  obtain ⟨J0, J1, J2, J3⟩ := J 69
  show Z X 0 [some (zr 25 0), some (zi a1), some (zi a2), some (zi a3), some (zi a4), some (zi a5), none, none] [] f
  refine z_iconst (pc := 0) (v := 0) C dX10_goes_0 (by decide) ?_
  refine z_istore (pc := 1) C dX10_goes_1 (by rw [hn]; decide) rfl ?_
  refine z_iconst (pc := 3) (v := 0) C dX10_goes_3 (by decide) ?_
  refine z_istore (pc := 4) C dX10_goes_4 (by rw [hn]; decide) rfl ?_
  exact J0 0 (zB.wk (a' := 0) (b' := 255) (zB.of (x := 0) 0 (by decide)) (by decide) (by decide)) 0 (zB.wk (a' := 0) (b' := 8) (zB.of (x := 0) 0 (by decide)) (by decide) (by decide)) f hI hF  (by have qc0 : (0 : Int32).toInt = 0 := (by decide); omega)

set_option maxRecDepth 100000 in
set_option maxHeartbeats 4000000 in
theorem w_X10_isTried (d : Nat) (f : zM) (a1 : Int32) (b1 : zB a1 0 7) (a2 : Int32) (b2 : zB a2 0 5) (a3 : Int32) (b3 : zB a3 0 255) (hI : zInv f) : ZM (d + 2) yX10_isTried cX10_isTried 4 (some .boolean) [zr 25 0, zi a1, zi a2, zi a3] f (fun r g => (∃ v, r = some (zi v) ∧ zB v 0 1) ∧ zInv g ∧ zFr [] f g) := by
  refine ZM.intro (by decide +kernel) (Nat.le_of_ble_eq_true rfl) ?_
  intro X C hr hn
  have hF : zFr [] f f := zFr.rf _ _
  have J : ∀ t : Nat, (∀ g : zM, zInv g → zFr [] f g → (1 : Int) < t → Z X 42 [some (zr 25 0), some (zi a1), some (zi a2), some (zi a3)] [] g) ∧ (∀ a43_s0 : Int32, zB a43_s0 0 1 → ∀ g : zM, zInv g → zFr [] f g → (0 : Int) < t → Z X 43 [some (zr 25 0), some (zi a1), some (zi a2), some (zi a3)] [zi a43_s0] g) := by
    intro t
    induction t with
    | zero =>
      refine ⟨?_, ?_⟩ <;> (intros; exfalso; omega)
    | succ t ih =>
      obtain ⟨ih0, ih1⟩ := ih
      refine ⟨?_, ?_⟩
      · skip
        intro g42_ hI42_ hF42_ hM42_
        refine z_iconst (pc := 42) (v := 0) C dX10_isTried_42 (by decide) ?_
        exact ih1 0 (zB.wk (a' := 0) (b' := 1) (zB.of (x := 0) 0 (by decide)) (by decide) (by decide)) g42_ hI42_ hF42_  (by have qc0 : (0 : Int32).toInt = 0 := (by decide); omega)
      · skip
        intro a43_s0 b43_s0 g43_ hI43_ hF43_ hM43_
        exact z_zret (pc := 43) C hr (z01 b43_s0) dX10_isTried_43 ⟨⟨_, rfl, b43_s0⟩, hI43_, hF43_⟩
  obtain ⟨J0, J1⟩ := J 13
  show Z X 0 [some (zr 25 0), some (zi a1), some (zi a2), some (zi a3)] [] f
  refine z_aload_n (pc := 0) C dX10_isTried_0 rfl ?_
  refine z_aload_n (pc := 1) C dX10_isTried_1 rfl ?_
  refine z_getR (pc := 2) C zf_X10_13 rfl rfl (by decide) dX10_isTried_2 ?_
  refine z_iconst (pc := 5) (v := 5) C dX10_isTried_5 (by decide) ?_
  refine z_iload_n (pc := 6) C dX10_isTried_6 rfl ?_
  refine z_imul (pc := 7) C dX10_isTried_7 ?_
  refine w_gp (fun v => v.toInt = 5 * a1.toInt) (zmul_kb 5 (by decide) (by decide) b1 (by decide) (by decide)) (fun v1 e1 => ?_)
  have b1x : zB v1 0 35 := zmul_bb e1 (by decide) b1
  refine z_iald (pc := 8) C rfl (by decide) (zIx b1x (by decide) (by decide)) dX10_isTried_8 ?_
  refine w_gb 0 63 (by have hq9 := hI 27 0 v1.toNatClampNeg; rw [zrg27 (r := 0) (by have hq : v1.toNatClampNeg = v1.toInt.toNat := rfl; have hq2 := b1x; omega)] at hq9; exact hq9) (fun v2 b2x => ?_)
  refine z_iload_n (pc := 9) C dX10_isTried_9 rfl ?_
  refine z_callV (pc := 10) C zk_X10_116 (w_X10_crimesOf _ _ v2 b2x a2 b2 hI) rfl rfl (by decide) rfl rfl (Nat.le_of_ble_eq_true rfl) dX10_isTried_10 (fun r3 g3 q3 => ?_)
  obtain ⟨⟨v3, rfl, b3x⟩, hI3, hF3q⟩ := q3
  obtain rfl := zFr_nil hF3q
  simp only [Option.toList, List.cons_append, List.nil_append]
  refine z_if_eq (pc := 13) 42 C dX10_isTried_13 (by decide) (fun h13_3 => ?_) (fun h13_3 => ?_)
  · skip
    have b5x : zB v3 0 0 := by have q1 := b3x; have q2 := (zB.of (x := 0) 0 (by decide)); simp only [z32lt, z32le, z32eq, Int32.reduceToInt, Int32.toInt_zero] at h13_3; constructor <;> omega
    exact J0  f hI hF  (by omega)
  · skip
    have b6x : zB v3 1 16777215 := by have q1 := b3x; have q2 := (zB.of (x := 0) 0 (by decide)); simp only [z32lt, z32le, z32eq, Int32.reduceToInt, Int32.toInt_zero] at h13_3; constructor <;> omega
    refine z_aload_n (pc := 16) C dX10_isTried_16 rfl ?_
    refine z_getR (pc := 17) C zf_X10_13 rfl rfl (by decide) dX10_isTried_17 ?_
    refine z_iconst (pc := 20) (v := 5) C dX10_isTried_20 (by decide) ?_
    refine z_iload_n (pc := 21) C dX10_isTried_21 rfl ?_
    refine z_imul (pc := 22) C dX10_isTried_22 ?_
    refine w_gp (fun v => v.toInt = 5 * a1.toInt) (zmul_kb 5 (by decide) (by decide) b1 (by decide) (by decide)) (fun v7 e7 => ?_)
    have b7x : zB v7 0 35 := zmul_bb e7 (by decide) b1
    refine z_iconst (pc := 23) (v := 4) C dX10_isTried_23 (by decide) ?_
    refine z_iadd (pc := 24) C dX10_isTried_24 ?_
    refine w_gp (fun v => v.toInt = v7.toInt + 4) (zadd_eb b7x (zB.of (x := 4) 4 (by decide)) (by decide) (by decide)) (fun v8 e8 => ?_)
    have b8x : zB v8 4 39 := by have q1 := b7x; have q2 := (zB.of (x := 4) 4 (by decide)); constructor <;> omega
    refine z_iald (pc := 25) C rfl (by decide) (zIx b8x (by decide) (by decide)) dX10_isTried_25 ?_
    refine w_gb 0 1 (by have hq9 := hI 27 0 v8.toNatClampNeg; rw [zrg27 (r := 4) (by have hq : v8.toNatClampNeg = v8.toInt.toNat := rfl; have hq2 := b8x; omega)] at hq9; exact hq9) (fun v9 b9x => ?_)
    refine z_if_ne (pc := 26) 42 C dX10_isTried_26 (by decide) (fun h26_9 => ?_) (fun h26_9 => ?_)
    · skip
      have b11x : zB v9 1 1 := by have q1 := b9x; have q2 := (zB.of (x := 0) 0 (by decide)); simp only [z32lt, z32le, z32eq, Int32.reduceToInt, Int32.toInt_zero] at h26_9; constructor <;> omega
      exact J0  f hI hF  (by omega)
    · skip
      have b12x : zB v9 0 0 := by have q1 := b9x; have q2 := (zB.of (x := 0) 0 (by decide)); simp only [z32lt, z32le, z32eq, Int32.reduceToInt, Int32.toInt_zero] at h26_9; constructor <;> omega
      refine z_iload_n (pc := 29) C dX10_isTried_29 rfl ?_
      refine z_iload_n (pc := 30) C dX10_isTried_30 rfl ?_
      refine z_ishr (pc := 31) C dX10_isTried_31 ?_
      refine w_gb (-2147483648) 2147483647 (zB_any _) (fun v13 b13x => ?_)
      refine z_iconst (pc := 32) (v := 1) C dX10_isTried_32 (by decide) ?_
      refine z_iand (pc := 33) C dX10_isTried_33 ?_
      refine w_gb 0 1 (zand_b b13x (zB.of (x := 1) 1 (by decide)) (by decide)) (fun v14 b14x => ?_)
      refine z_iconst (pc := 34) (v := 1) C dX10_isTried_34 (by decide) ?_
      refine z_icmp_ne (pc := 35) 42 C dX10_isTried_35 (by decide) (fun h35_14 => ?_) (fun h35_14 => ?_)
      · skip
        have b16x : zB v14 0 0 := by have q1 := b14x; have q2 := (zB.of (x := 1) 1 (by decide)); simp only [z32lt, z32le, z32eq, Int32.reduceToInt, Int32.toInt_zero] at h35_14; constructor <;> omega
        exact J0  f hI hF  (by omega)
      · skip
        have b17x : zB v14 1 1 := by have q1 := b14x; have q2 := (zB.of (x := 1) 1 (by decide)); simp only [z32lt, z32le, z32eq, Int32.reduceToInt, Int32.toInt_zero] at h35_14; constructor <;> omega
        refine z_iconst (pc := 38) (v := 1) C dX10_isTried_38 (by decide) ?_
        refine z_goto (pc := 39) 43 C dX10_isTried_39 (by decide) ?_
        exact J1 1 (zB.wk (a' := 0) (b' := 1) (zB.of (x := 1) 1 (by decide)) (by decide) (by decide)) f hI hF  (by have qc0 : (1 : Int32).toInt = 1 := (by decide); omega)

set_option maxRecDepth 100000 in
set_option maxHeartbeats 4000000 in
theorem w_X10_allDeeds (d : Nat) (f : zM)  (hI : zInv f) : ZM d yX10_allDeeds cX10_allDeeds 1 (some .int) [zr 25 0] f (fun r g => (∃ v, r = some (zi v) ∧ zB v (-1) 255) ∧ zInv g ∧ zFr [] f g) := by
  refine ZM.intro (by decide +kernel) (Nat.le_of_ble_eq_true rfl) ?_
  intro X C hr hn
  have hF : zFr [] f f := zFr.rf _ _
  show Z X 0 [some (zr 25 0)] [] f
  refine z_iconst (pc := 0) (v := 1) C dX10_allDeeds_0 (by decide) ?_
  refine z_aload_n (pc := 1) C dX10_allDeeds_1 rfl ?_
  refine z_getI (pc := 2) C zf_X10_73 rfl rfl (by decide) dX10_allDeeds_2 ?_
  refine w_gb 0 8 (hI 25 _ 2) (fun v1 b1x => ?_)
  refine z_ishl (pc := 5) C dX10_allDeeds_5 ?_
  refine w_gb 0 256 (zshl_b b1x 8 (by decide) (by decide)) (fun v2 b2x => ?_)
  refine z_iconst (pc := 6) (v := 1) C dX10_allDeeds_6 (by decide) ?_
  refine z_isub (pc := 7) C dX10_allDeeds_7 ?_
  refine w_gp (fun v => v.toInt = v2.toInt - 1) (zsub_eb b2x (zB.of (x := 1) 1 (by decide)) (by decide) (by decide)) (fun v3 e3 => ?_)
  have b3x : zB v3 (-1) 255 := by have q1 := b2x; have q2 := (zB.of (x := 1) 1 (by decide)); constructor <;> omega
  exact z_iret (pc := 8) C hr dX10_allDeeds_8 ⟨⟨_, rfl, b3x⟩, hI, hF⟩

set_option maxRecDepth 100000 in
set_option maxHeartbeats 4000000 in
theorem w_X10_codeOf (d : Nat) (f : zM) (a1 : Int32) (b1 : zB a1 0 5) (a2 : Int32) (b2 : zB a2 0 1) (a3 : Int32) (b3 : zB a3 (-4) 5) (a4 : Int32) (b4 : zB a4 0 255) (hI : zInv f) : ZM (d + 1) yX10_codeOf cX10_codeOf 5 (some .int) [zr 25 0, zi a1, zi a2, zi a3, zi a4] f (fun r g => (∃ v, r = some (zi v) ∧ zB v 0 21503) ∧ zInv g ∧ zFr [] f g) := by
  refine ZM.intro (by decide +kernel) (Nat.le_of_ble_eq_true rfl) ?_
  intro X C hr hn
  have hF : zFr [] f f := zFr.rf _ _
  have J : ∀ t : Nat, (∀ a19_s0 : Int32, zB a19_s0 0 77 → ∀ a19_s1 : Int32, zB a19_s1 0 6 → ∀ g : zM, zInv g → zFr [] f g → (0 : Int) < t → Z X 19 [some (zr 25 0), some (zi a1), some (zi a2), some (zi a3), some (zi a4)] [zi a19_s1, zi a19_s0] g) := by
    intro t
    induction t with
    | zero =>
      intros; exfalso; omega
    | succ t ih =>
      have ih0 := ih
      intro a19_s0 b19_s0 a19_s1 b19_s1 g19_ hI19_ hF19_ hM19_
      refine z_iadd (pc := 19) C dX10_codeOf_19 ?_
      refine w_gp (fun v => v.toInt = a19_s0.toInt + a19_s1.toInt) (zadd_eb b19_s0 b19_s1 (by decide) (by decide)) (fun v1 e1 => ?_)
      have b1x : zB v1 0 83 := by have q1 := b19_s0; have q2 := b19_s1; constructor <;> omega
      refine z_sipush (pc := 20) (v := 256) C dX10_codeOf_20 (by decide) ?_
      refine z_imul (pc := 23) C dX10_codeOf_23 ?_
      refine w_gp (fun v => v.toInt = 256 * v1.toInt) (by rw [Int32.mul_comm]; exact zmul_kb 256 (by decide) (by decide) b1x (by decide) (by decide)) (fun v2 e2 => ?_)
      have b2x : zB v2 0 21248 := zmul_bb e2 (by decide) b1x
      refine z_iload (pc := 24) C dX10_codeOf_24 rfl ?_
      refine z_aload_n (pc := 26) C dX10_codeOf_26 rfl ?_
      refine z_callV (pc := 27) C zk_X10_131 (w_X10_allDeeds _ _  hI19_) rfl rfl (by decide) rfl rfl (Nat.le_of_ble_eq_true rfl) dX10_codeOf_27 (fun r3 g3 q3 => ?_)
      obtain ⟨⟨v3, rfl, b3x⟩, hI3, hF3q⟩ := q3
      obtain rfl := zFr_nil hF3q
      simp only [Option.toList, List.cons_append, List.nil_append]
      refine z_iand (pc := 30) C dX10_codeOf_30 ?_
      refine w_gb 0 255 (zand_bl b4 b3x (by decide)) (fun v4 b4x => ?_)
      refine z_iadd (pc := 31) C dX10_codeOf_31 ?_
      refine w_gp (fun v => v.toInt = v2.toInt + v4.toInt) (zadd_eb b2x b4x (by decide) (by decide)) (fun v5 e5 => ?_)
      have b5x : zB v5 0 21503 := by have q1 := b2x; have q2 := b4x; constructor <;> omega
      exact z_iret (pc := 32) C hr dX10_codeOf_32 ⟨⟨_, rfl, b5x⟩, hI19_, hF19_⟩
  have J0 := J 12
  show Z X 0 [some (zr 25 0), some (zi a1), some (zi a2), some (zi a3), some (zi a4)] [] f
  refine z_iconst (pc := 0) (v := 2) C dX10_codeOf_0 (by decide) ?_
  refine z_iload_n (pc := 1) C dX10_codeOf_1 rfl ?_
  refine z_imul (pc := 2) C dX10_codeOf_2 ?_
  refine w_gp (fun v => v.toInt = 2 * a1.toInt) (zmul_kb 2 (by decide) (by decide) b1 (by decide) (by decide)) (fun v6 e6 => ?_)
  have b6x : zB v6 0 10 := zmul_bb e6 (by decide) b1
  refine z_iload_n (pc := 3) C dX10_codeOf_3 rfl ?_
  refine z_iadd (pc := 4) C dX10_codeOf_4 ?_
  refine w_gp (fun v => v.toInt = v6.toInt + a2.toInt) (zadd_eb b6x b2 (by decide) (by decide)) (fun v7 e7 => ?_)
  have b7x : zB v7 0 11 := by have q1 := b6x; have q2 := b2; constructor <;> omega
  refine z_bipush (pc := 5) (v := 7) C dX10_codeOf_5 (by decide) ?_
  refine z_imul (pc := 7) C dX10_codeOf_7 ?_
  refine w_gp (fun v => v.toInt = 7 * v7.toInt) (by rw [Int32.mul_comm]; exact zmul_kb 7 (by decide) (by decide) b7x (by decide) (by decide)) (fun v8 e8 => ?_)
  have b8x : zB v8 0 77 := zmul_bb e8 (by decide) b7x
  refine z_iload_n (pc := 8) C dX10_codeOf_8 rfl ?_
  refine z_if_ge (pc := 9) 16 C dX10_codeOf_9 (by decide) (fun h9_8 => ?_) (fun h9_8 => ?_)
  · skip
    have b10x : zB a3 0 5 := by have q1 := b3; have q2 := (zB.of (x := 0) 0 (by decide)); simp only [z32lt, z32le, z32eq, Int32.reduceToInt, Int32.toInt_zero] at h9_8; constructor <;> omega
    refine z_iload_n (pc := 16) C dX10_codeOf_16 rfl ?_
    refine z_iconst (pc := 17) (v := 1) C dX10_codeOf_17 (by decide) ?_
    refine z_iadd (pc := 18) C dX10_codeOf_18 ?_
    refine w_gp (fun v => v.toInt = a3.toInt + 1) (zadd_eb b10x (zB.of (x := 1) 1 (by decide)) (by decide) (by decide)) (fun v11 e11 => ?_)
    have b11x : zB v11 1 6 := by have q1 := b10x; have q2 := (zB.of (x := 1) 1 (by decide)); constructor <;> omega
    exact J0 v8 b8x v11 (zB.wk (a' := 0) (b' := 6) b11x (by decide) (by decide)) f hI hF  (by omega)
  · skip
    have b12x : zB a3 (-4) (-1) := by have q1 := b3; have q2 := (zB.of (x := 0) 0 (by decide)); simp only [z32lt, z32le, z32eq, Int32.reduceToInt, Int32.toInt_zero] at h9_8; constructor <;> omega
    refine z_iconst (pc := 12) (v := 0) C dX10_codeOf_12 (by decide) ?_
    refine z_goto (pc := 13) 19 C dX10_codeOf_13 (by decide) ?_
    exact J0 v8 b8x 0 (zB.wk (a' := 0) (b' := 6) (zB.of (x := 0) 0 (by decide)) (by decide) (by decide)) f hI hF  (by have qc0 : (0 : Int32).toInt = 0 := (by decide); omega)
