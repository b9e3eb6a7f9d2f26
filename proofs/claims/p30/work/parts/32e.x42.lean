set_option maxRecDepth 100000 in
set_option maxHeartbeats 4000000 in
theorem x_X9_judged (d : Nat) (f : zM) (a1 : Int32) (b1 : zB a1 (-2147483648) 2147483647) (a2 : Int32) (b2 : zB a2 0 1) (hI : zInv f) : ZM (d + 1) yX9_judged cX9_judged 4 (some .int) [zr 0 0, zi a1, zi a2] f (fun r g => (∃ v, r = some (zi v) ∧ zB v (-1) 1) ∧ zInv g ∧ zFr [(8, some 4)] f g ∧ (∀ v : Int32, r = some (zi v) → (¬ (0 ≤ a1.toInt ∧ a1.toInt < (f 1 0 6).toInt) ∧ v = -1 ∧ g = f) ∨ ((0 ≤ a1.toInt ∧ a1.toInt < (f 1 0 6).toInt) ∧ v = f 8 a1.toInt.toNat 4 ∧ g = zup f 8 a1.toInt.toNat 4 a2))) := by
  refine ZM.intro (by decide +kernel) (Nat.le_of_ble_eq_true rfl) ?_
  intro X C hr hn
  have hF : zFr [(8, some 4)] f f := zFr.rf _ _
  show Z X 0 [some (zr 0 0), some (zi a1), some (zi a2), none] [] f
  refine z_aload_n (pc := 0) C dX9_judged_0 rfl ?_
  refine z_iload_n (pc := 1) C dX9_judged_1 rfl ?_
  refine z_callVb (pc := 2) C zk_X9_179 (m_X9_isDeed _ _ _) rfl rfl (by decide) rfl rfl (Nat.le_of_ble_eq_true rfl) dX9_judged_2 (fun h2_0 => ?_) (fun h2_0 => ?_)
  · skip
    have b2x : zB a1 0 7 := (zltc h2_0 (hI 1 0 6).2)
    refine z_if_ne (pc := 5) 10 C dX9_judged_5 (by decide) (fun _ => ?_) (fun h => absurd h (by decide))
    refine z_aload_n (pc := 10) C dX9_judged_10 rfl ?_
    refine z_getR (pc := 11) C zf_X9_10 rfl rfl (by decide) dX9_judged_11 ?_
    refine z_getR (pc := 14) C zf_X9_74 rfl rfl (by decide) dX9_judged_14 ?_
    refine z_iload_n (pc := 17) C dX9_judged_17 rfl ?_
    refine z_aald (pc := 18) C rfl ⟨rfl, by decide⟩ (by decide) (zIx b2x (by decide) (by decide)) dX9_judged_18 ?_
    refine w_grx (by have hq := zN b2x (by decide); show 8 * 0 + a1.toNatClampNeg < 16; omega) (fun m3 q3r h3x => ?_)
    have q3r : m3 = 8 * 0 + a1.toNatClampNeg := q3r
    have k3r : a1.toNatClampNeg = a1.toInt.toNat := rfl
    refine z_getI (pc := 19) C zf_X9_241 rfl rfl h3x dX9_judged_19 ?_
    refine w_gp (fun v => v = f 8 m3 4) rfl (fun v5 q5 => ?_)
    have b5x : zB v5 0 1 := by rw [q5]; exact (hI 8 m3 4)
    refine z_if_eq (pc := 22) 29 C dX9_judged_22 (by decide) (fun h22_5 => ?_) (fun h22_5 => ?_)
    · skip
      have b7x : zB v5 0 0 := by have q1 := b5x; have q2 := (zB.of (x := 0) 0 (by decide)); simp only [z32lt, z32le, z32eq, Int32.reduceToInt, Int32.toInt_zero] at h22_5; constructor <;> omega
      refine z_iconst (pc := 29) (v := 0) C dX9_judged_29 (by decide) ?_
      refine z_istore_n (pc := 30) C dX9_judged_30 (by rw [hn]; decide) rfl ?_
      refine z_aload_n (pc := 31) C dX9_judged_31 rfl ?_
      refine z_getR (pc := 32) C zf_X9_10 rfl rfl (by decide) dX9_judged_32 ?_
      refine z_getR (pc := 35) C zf_X9_74 rfl rfl (by decide) dX9_judged_35 ?_
      refine z_iload_n (pc := 38) C dX9_judged_38 rfl ?_
      refine z_aald (pc := 39) C rfl ⟨rfl, by decide⟩ (by decide) (zIx b2x (by decide) (by decide)) dX9_judged_39 ?_
      refine w_grx (by have hq := zN b2x (by decide); show 8 * 0 + a1.toNatClampNeg < 16; omega) (fun m8 q8r h8x => ?_)
      have q8r : m8 = 8 * 0 + a1.toNatClampNeg := q8r
      have k8r : a1.toNatClampNeg = a1.toInt.toNat := rfl
      refine z_iload_n (pc := 40) C dX9_judged_40 rfl ?_
      refine z_putZ (pc := 41) C zf_X9_241 zp_1_4 (z01 b2) rfl rfl h8x dX9_judged_41 ?_
      refine w_memy hI hF b2 rfl (fun g9 qm9 hI9 hF9 => ?_)
      refine z_iload_n (pc := 44) C dX9_judged_44 rfl ?_
      exact z_iret (pc := 45) C hr dX9_judged_45 ⟨⟨_, rfl, (zB.wk (a' := (-1)) (b' := 1) (zB.of (x := 0) 0 (by decide)) (by decide) (by decide))⟩, hI9, hF9, (by
                                                                                          intro v hv; cases hv
                                                                                          have c0 : (0 : Int32).toInt = 0 := by decide
                                                                                          have c1 : (1 : Int32).toInt = 1 := by decide
                                                                                          have hn : m3 = a1.toInt.toNat := by omega
                                                                                          have hq := q5
                                                                                          rw [hn] at hq
                                                                                          have hn2 : m8 = a1.toInt.toNat := by omega
                                                                                          refine Or.inr ⟨by assumption, ?_, ?_⟩
                                                                                          · rw [← hq, z32eq]; omega
                                                                                          · rw [← hn2]; subst qm9; rfl)⟩
    · skip
      have b10x : zB v5 1 1 := by have q1 := b5x; have q2 := (zB.of (x := 0) 0 (by decide)); simp only [z32lt, z32le, z32eq, Int32.reduceToInt, Int32.toInt_zero] at h22_5; constructor <;> omega
      refine z_iconst (pc := 25) (v := 1) C dX9_judged_25 (by decide) ?_
      refine z_goto (pc := 26) 30 C dX9_judged_26 (by decide) ?_
      refine z_istore_n (pc := 30) C dX9_judged_30 (by rw [hn]; decide) rfl ?_
      refine z_aload_n (pc := 31) C dX9_judged_31 rfl ?_
      refine z_getR (pc := 32) C zf_X9_10 rfl rfl (by decide) dX9_judged_32 ?_
      refine z_getR (pc := 35) C zf_X9_74 rfl rfl (by decide) dX9_judged_35 ?_
      refine z_iload_n (pc := 38) C dX9_judged_38 rfl ?_
      refine z_aald (pc := 39) C rfl ⟨rfl, by decide⟩ (by decide) (zIx b2x (by decide) (by decide)) dX9_judged_39 ?_
      refine w_grx (by have hq := zN b2x (by decide); show 8 * 0 + a1.toNatClampNeg < 16; omega) (fun m11 q11r h11x => ?_)
      have q11r : m11 = 8 * 0 + a1.toNatClampNeg := q11r
      have k11r : a1.toNatClampNeg = a1.toInt.toNat := rfl
      refine z_iload_n (pc := 40) C dX9_judged_40 rfl ?_
      refine z_putZ (pc := 41) C zf_X9_241 zp_1_4 (z01 b2) rfl rfl h11x dX9_judged_41 ?_
      refine w_memy hI hF b2 rfl (fun g12 qm12 hI12 hF12 => ?_)
      refine z_iload_n (pc := 44) C dX9_judged_44 rfl ?_
      exact z_iret (pc := 45) C hr dX9_judged_45 ⟨⟨_, rfl, (zB.wk (a' := (-1)) (b' := 1) (zB.of (x := 1) 1 (by decide)) (by decide) (by decide))⟩, hI12, hF12, (by
                                                                                          intro v hv; cases hv
                                                                                          have c0 : (0 : Int32).toInt = 0 := by decide
                                                                                          have c1 : (1 : Int32).toInt = 1 := by decide
                                                                                          have hn : m3 = a1.toInt.toNat := by omega
                                                                                          have hq := q5
                                                                                          rw [hn] at hq
                                                                                          have hn2 : m11 = a1.toInt.toNat := by omega
                                                                                          refine Or.inr ⟨by assumption, ?_, ?_⟩
                                                                                          · rw [← hq, z32eq]; omega
                                                                                          · rw [← hn2]; subst qm12; rfl)⟩
  · skip
    refine z_if_ne (pc := 5) 10 C dX9_judged_5 (by decide) (fun h => absurd (by decide) h) (fun _ => ?_)
    refine z_iconst (pc := 8) (v := -1) C dX9_judged_8 (by decide) ?_
    exact z_iret (pc := 9) C hr dX9_judged_9 ⟨⟨_, rfl, (zB.wk (a' := (-1)) (b' := 1) (zB.of (x := (-1)) (-1) (by decide)) (by decide) (by decide))⟩, hI, hF, (by intro v hv; cases hv; exact Or.inl ⟨by assumption, rfl, rfl⟩)⟩

set_option maxRecDepth 100000 in
set_option maxHeartbeats 4000000 in
theorem x_X10_judged (d : Nat) (f : zM) (a1 : Int32) (b1 : zB a1 (-2147483648) 2147483647) (a2 : Int32) (b2 : zB a2 0 1) (hI : zInv f) : ZM (d + 2) yX10_judged cX10_judged 4 (some .int) [zr 25 0, zi a1, zi a2] f (fun r g => (∃ v, r = some (zi v) ∧ zB v (-1) 1) ∧ zInv g ∧ zFr [(27, none)] f g ∧ (∀ v : Int32, r = some (zi v) → (¬ (0 ≤ a1.toInt ∧ a1.toInt < (f 25 0 2).toInt) ∧ v = -1 ∧ g = f) ∨ ((0 ≤ a1.toInt ∧ a1.toInt < (f 25 0 2).toInt) ∧ v = f 27 0 (5 * a1.toInt.toNat + 4) ∧ g = zup f 27 0 (5 * a1.toInt.toNat + 4) a2))) := by
  refine ZM.intro (by decide +kernel) (Nat.le_of_ble_eq_true rfl) ?_
  intro X C hr hn
  have hF : zFr [(27, none)] f f := zFr.rf _ _
  show Z X 0 [some (zr 25 0), some (zi a1), some (zi a2), none] [] f
  refine z_aload_n (pc := 0) C dX10_judged_0 rfl ?_
  refine z_iload_n (pc := 1) C dX10_judged_1 rfl ?_
  refine z_callVb (pc := 2) C zk_X10_120 (m_X10_isDeed _ _ _ hI) rfl rfl (by decide) rfl rfl (Nat.le_of_ble_eq_true rfl) dX10_judged_2 (fun h2_0 => ?_) (fun h2_0 => ?_)
  · skip
    have b2x : zB a1 0 7 := (zltc h2_0 (hI 25 0 2).2)
    refine z_if_ne (pc := 5) 10 C dX10_judged_5 (by decide) (fun _ => ?_) (fun h => absurd h (by decide))
    refine z_aload_n (pc := 10) C dX10_judged_10 rfl ?_
    refine z_getR (pc := 11) C zf_X10_13 rfl rfl (by decide) dX10_judged_11 ?_
    refine z_iconst (pc := 14) (v := 5) C dX10_judged_14 (by decide) ?_
    refine z_iload_n (pc := 15) C dX10_judged_15 rfl ?_
    refine z_imul (pc := 16) C dX10_judged_16 ?_
    refine w_gp (fun v => v = (5 : Int32) * a1) rfl (fun v3 q3 => ?_)
    have e3 : v3.toInt = 5 * a1.toInt := by rw [q3]; exact (zmul_kb 5 (by decide) (by decide) b2x (by decide) (by decide))
    have b3x : zB v3 0 35 := zmul_bb e3 (by decide) b2x
    refine z_iconst (pc := 17) (v := 4) C dX10_judged_17 (by decide) ?_
    refine z_iadd (pc := 18) C dX10_judged_18 ?_
    refine w_gp (fun v => v = v3 + (4 : Int32)) rfl (fun v4 q4 => ?_)
    have e4 : v4.toInt = v3.toInt + 4 := by rw [q4]; exact (zadd_eb b3x (zB.of (x := 4) 4 (by decide)) (by decide) (by decide))
    have b4x : zB v4 4 39 := by have q1 := b3x; have q2 := (zB.of (x := 4) 4 (by decide)); constructor <;> omega
    refine z_iald (pc := 19) C rfl (by decide) (zIx b4x (by decide) (by decide)) dX10_judged_19 ?_
    have kq19_4 : v4.toNatClampNeg = v4.toInt.toNat := rfl
    refine w_gp (fun v => v = f 27 0 v4.toNatClampNeg) rfl (fun v5 q5 => ?_)
    have b5x : zB v5 0 1 := by rw [q5]; exact (by have hq9 := hI 27 0 v4.toNatClampNeg; rw [zrg27 (r := 4) (by have hq : v4.toNatClampNeg = v4.toInt.toNat := rfl; have hq2 := b4x; omega)] at hq9; exact hq9)
    refine z_istore_n (pc := 20) C dX10_judged_20 (by rw [hn]; decide) rfl ?_
    refine z_aload_n (pc := 21) C dX10_judged_21 rfl ?_
    refine z_getR (pc := 22) C zf_X10_13 rfl rfl (by decide) dX10_judged_22 ?_
    refine z_iconst (pc := 25) (v := 5) C dX10_judged_25 (by decide) ?_
    refine z_iload_n (pc := 26) C dX10_judged_26 rfl ?_
    refine z_imul (pc := 27) C dX10_judged_27 ?_
    refine w_gp (fun v => v = (5 : Int32) * a1) rfl (fun v6 q6 => ?_)
    have e6 : v6.toInt = 5 * a1.toInt := by rw [q6]; exact (zmul_kb 5 (by decide) (by decide) b2x (by decide) (by decide))
    have b6x : zB v6 0 35 := zmul_bb e6 (by decide) b2x
    refine z_iconst (pc := 28) (v := 4) C dX10_judged_28 (by decide) ?_
    refine z_iadd (pc := 29) C dX10_judged_29 ?_
    refine w_gp (fun v => v = v6 + (4 : Int32)) rfl (fun v7 q7 => ?_)
    have e7 : v7.toInt = v6.toInt + 4 := by rw [q7]; exact (zadd_eb b6x (zB.of (x := 4) 4 (by decide)) (by decide) (by decide))
    have b7x : zB v7 4 39 := by have q1 := b6x; have q2 := (zB.of (x := 4) 4 (by decide)); constructor <;> omega
    refine z_iload_n (pc := 30) C dX10_judged_30 rfl ?_
    refine z_if_eq (pc := 31) 38 C dX10_judged_31 (by decide) (fun h31_7 => ?_) (fun h31_7 => ?_)
    · skip
      have b9x : zB a2 0 0 := by have q1 := b2; have q2 := (zB.of (x := 0) 0 (by decide)); simp only [z32lt, z32le, z32eq, Int32.reduceToInt, Int32.toInt_zero] at h31_7; constructor <;> omega
      refine z_iconst (pc := 38) (v := 0) C dX10_judged_38 (by decide) ?_
      have kw39_9 : v7.toNatClampNeg = v7.toInt.toNat := rfl
      refine z_iast (pc := 39) C rfl (by decide) (zIx b7x (by decide) (by decide)) dX10_judged_39 ?_
      refine w_memy hI hF (by rw [zrg27 (r := 4) (by have hq : v7.toNatClampNeg = v7.toInt.toNat := rfl; have hq2 := b7x; omega)]; exact (zB.wk (a' := 0) (b' := 1) (zB.of (x := 0) 0 (by decide)) (by decide) (by decide))) rfl (fun g10 qm10 hI10 hF10 => ?_)
      refine z_iload_n (pc := 40) C dX10_judged_40 rfl ?_
      exact z_iret (pc := 41) C hr dX10_judged_41 ⟨⟨_, rfl, (zB.wk (a' := (-1)) (b' := 1) b5x (by decide) (by decide))⟩, hI10, hF10, (by
                                                                                          intro v hv; cases hv
                                                                                          have c0 : (0 : Int32).toInt = 0 := by decide
                                                                                          have c1 : (1 : Int32).toInt = 1 := by decide
                                                                                          have hn : (v4).toNatClampNeg = 5 * a1.toInt.toNat + 4 := by omega
                                                                                          have hn2 : (v7).toNatClampNeg = 5 * a1.toInt.toNat + 4 := by omega
                                                                                          have hq := q5
                                                                                          rw [hn] at hq
                                                                                          refine Or.inr ⟨by assumption, hq, ?_⟩
                                                                                          subst qm10
                                                                                          rw [hn2]
                                                                                          congr 1
                                                                                          rw [z32eq]; omega)⟩
    · skip
      have b11x : zB a2 1 1 := by have q1 := b2; have q2 := (zB.of (x := 0) 0 (by decide)); simp only [z32lt, z32le, z32eq, Int32.reduceToInt, Int32.toInt_zero] at h31_7; constructor <;> omega
      refine z_iconst (pc := 34) (v := 1) C dX10_judged_34 (by decide) ?_
      refine z_goto (pc := 35) 39 C dX10_judged_35 (by decide) ?_
      have kw39_11 : v7.toNatClampNeg = v7.toInt.toNat := rfl
      refine z_iast (pc := 39) C rfl (by decide) (zIx b7x (by decide) (by decide)) dX10_judged_39 ?_
      refine w_memy hI hF (by rw [zrg27 (r := 4) (by have hq : v7.toNatClampNeg = v7.toInt.toNat := rfl; have hq2 := b7x; omega)]; exact (zB.wk (a' := 0) (b' := 1) (zB.of (x := 1) 1 (by decide)) (by decide) (by decide))) rfl (fun g12 qm12 hI12 hF12 => ?_)
      refine z_iload_n (pc := 40) C dX10_judged_40 rfl ?_
      exact z_iret (pc := 41) C hr dX10_judged_41 ⟨⟨_, rfl, (zB.wk (a' := (-1)) (b' := 1) b5x (by decide) (by decide))⟩, hI12, hF12, (by
                                                                                          intro v hv; cases hv
                                                                                          have c0 : (0 : Int32).toInt = 0 := by decide
                                                                                          have c1 : (1 : Int32).toInt = 1 := by decide
                                                                                          have hn : (v4).toNatClampNeg = 5 * a1.toInt.toNat + 4 := by omega
                                                                                          have hn2 : (v7).toNatClampNeg = 5 * a1.toInt.toNat + 4 := by omega
                                                                                          have hq := q5
                                                                                          rw [hn] at hq
                                                                                          refine Or.inr ⟨by assumption, hq, ?_⟩
                                                                                          subst qm12
                                                                                          rw [hn2]
                                                                                          congr 1
                                                                                          rw [z32eq]; omega)⟩
  · skip
    refine z_if_ne (pc := 5) 10 C dX10_judged_5 (by decide) (fun h => absurd (by decide) h) (fun _ => ?_)
    refine z_iconst (pc := 8) (v := -1) C dX10_judged_8 (by decide) ?_
    exact z_iret (pc := 9) C hr dX10_judged_9 ⟨⟨_, rfl, (zB.wk (a' := (-1)) (b' := 1) (zB.of (x := (-1)) (-1) (by decide)) (by decide) (by decide))⟩, hI, hF, (by intro v hv; cases hv; exact Or.inl ⟨by assumption, rfl, rfl⟩)⟩

def zmk (T : Nat → Int32) (b : Nat) : Nat → Int32
  | 0 => 0
  | k + 1 => zmk T b k ||| (if T (b + k) = 0 then (0 : Int32) else 1 <<< (nI k &&& 31))
theorem zmk_congr {T U : Nat → Int32} {b c : Nat} : ∀ n : Nat, (∀ k, k < n → T (b + k) = U (c + k)) → zmk T b n = zmk U c n
  | 0, _ => rfl
  | n + 1, h => by rw [zmk, zmk, zmk_congr n (fun k hk => h k (by omega)), h n (by omega)]

set_option maxRecDepth 100000 in
set_option maxHeartbeats 4000000 in
theorem x_X6_marksFrom (d : Nat) (f : zM) (m0 : Nat) (h0 : m0 < zcnt 23) (a1 : Int32) (b1 : zB a1 0 10) (hI : zInv f) : ZM d yX6_marksFrom cX6_marksFrom 4 (some .int) [zr 23 m0, zi a1] f (fun r g => (∃ v, r = some (zi v) ∧ zB v 0 63) ∧ zInv g ∧ zFr [] f g ∧ (∀ v : Int32, r = some (zi v) → v = zmk (f 24 m0) (a1.toInt.toNat) 6)) := by
  refine ZM.intro (by decide +kernel) (Nat.le_of_ble_eq_true rfl) ?_
  intro X C hr hn
  have hF : zFr [] f f := zFr.rf _ _
  have J : ∀ t : Nat, (∀ a4_2 : Int32, zB a4_2 0 63 → ∀ a4_3 : Int32, zB a4_3 0 6 → ∀ g : zM, zInv g → zFr [] f g → (g = f) → (a4_2 = zmk (f 24 m0) (a1.toInt.toNat) (a4_3.toInt.toNat)) → (0 + 3 * (6 - a4_3.toInt) : Int) < t → Z X 4 [some (zr 23 m0), some (zi a1), some (zi a4_2), some (zi a4_3)] [] g) := by
    intro t
    induction t with
    | zero =>
      intros; exfalso; omega
    | succ t ih =>
      have ih0 := ih
      intro a4_2 b4_2 a4_3 b4_3 g4_ hI4_ hF4_ hR4_0 hR4_1 hM4_
      refine z_iload_n (pc := 4) C dX6_marksFrom_4 rfl ?_
      refine z_bipush (pc := 5) (v := 6) C dX6_marksFrom_5 (by decide) ?_
      refine z_icmp_ge (pc := 7) 37 C dX6_marksFrom_7 (by decide) (fun h7_0 => ?_) (fun h7_0 => ?_)
      · skip
        have b2x : zB a4_3 6 6 := by have q1 := b4_3; have q2 := (zB.of (x := 6) 6 (by decide)); simp only [z32lt, z32le, z32eq, Int32.reduceToInt, Int32.toInt_zero] at h7_0; constructor <;> omega
        refine z_iload_n (pc := 37) C dX6_marksFrom_37 rfl ?_
        exact z_iret (pc := 38) C hr dX6_marksFrom_38 ⟨⟨_, rfl, b4_2⟩, hI4_, hF4_, (by
                                                                                          intro v hv; cases hv
                                                                                          have hn : a4_3.toInt.toNat = 6 := by omega
                                                                                          rw [← hn]; exact hR4_1)⟩
      · skip
        have b3x : zB a4_3 0 5 := by have q1 := b4_3; have q2 := (zB.of (x := 6) 6 (by decide)); simp only [z32lt, z32le, z32eq, Int32.reduceToInt, Int32.toInt_zero] at h7_0; constructor <;> omega
        refine z_iload_n (pc := 10) C dX6_marksFrom_10 rfl ?_
        refine z_aload_n (pc := 11) C dX6_marksFrom_11 rfl ?_
        refine z_getR (pc := 12) C zf_X6_9 rfl rfl h0 dX6_marksFrom_12 ?_
        refine z_iload_n (pc := 15) C dX6_marksFrom_15 rfl ?_
        refine z_iload_n (pc := 16) C dX6_marksFrom_16 rfl ?_
        refine z_iadd (pc := 17) C dX6_marksFrom_17 ?_
        refine w_gp (fun v => v = a1 + a4_3) rfl (fun v4 q4 => ?_)
        have e4 : v4.toInt = a1.toInt + a4_3.toInt := by rw [q4]; exact (zadd_eb b1 b3x (by decide) (by decide))
        have b4x : zB v4 0 15 := by have q1 := b1; have q2 := b3x; constructor <;> omega
        refine z_iald (pc := 18) C rfl h0 (zIx b4x (by decide) (by decide)) dX6_marksFrom_18 ?_
        have kq18_4 : v4.toNatClampNeg = v4.toInt.toNat := rfl
        refine w_gp (fun v => v = g4_ 24 m0 v4.toNatClampNeg) rfl (fun v5 q5 => ?_)
        have b5x : zB v5 (-2147483648) 2147483647 := by rw [q5]; exact (hI4_ 24 m0 v4.toNatClampNeg)
        refine z_if_eq (pc := 19) 28 C dX6_marksFrom_19 (by decide) (fun h19_5 => ?_) (fun h19_5 => ?_)
        · skip
          have b7x : zB v5 0 0 := by have q1 := b5x; have q2 := (zB.of (x := 0) 0 (by decide)); simp only [z32lt, z32le, z32eq, Int32.reduceToInt, Int32.toInt_zero] at h19_5; constructor <;> omega
          refine z_iconst (pc := 28) (v := 0) C dX6_marksFrom_28 (by decide) ?_
          refine z_ior (pc := 29) C dX6_marksFrom_29 ?_
          refine w_gp (fun v => v = a4_2 ||| (0 : Int32)) rfl (fun v8 q8 => ?_)
          have b8x : zB v8 0 63 := by rw [q8]; exact (zor_b 6 b4_2 (zB.of (x := 0) 0 (by decide)) (by decide) (by decide) (by decide) (by decide) (by decide))
          refine z_istore_n (pc := 30) C dX6_marksFrom_30 (by rw [hn]; decide) rfl ?_
          refine z_iinc (pc := 31) (v := 1) C dX6_marksFrom_31 rfl (by decide) (by rw [hn]; decide) rfl ?_
          obtain ⟨v9, hv9, e9⟩ : ∃ v : Int32, v = a4_3 + 1 ∧ v.toInt = a4_3.toInt + 1 := ⟨_, rfl, zadd_eb b3x (zB.of (x := 1) 1 (by decide)) (by decide) (by decide)⟩
          rw [← hv9]
          have b9x : zB v9 1 6 := by have q9 := b3x; constructor <;> omega
          refine z_goto (pc := 34) 4 C dX6_marksFrom_34 (by decide) ?_
          exact ih0 v8 b8x v9 (zB.wk (a' := 0) (b' := 6) b9x (by decide) (by decide)) g4_ hI4_ hF4_ (by exact hR4_0) (by
                                                                                          have hn : (v9).toInt.toNat = a4_3.toInt.toNat + 1 := by omega
                                                                                          have hi : a4_3 = nI a4_3.toInt.toNat := (nI_ofI (by omega)).1
                                                                                          have hx : (v4).toNatClampNeg = a1.toInt.toNat + a4_3.toInt.toNat := by omega
                                                                                          have hq := q5
                                                                                          rw [hx, hR4_0] at hq
                                                                                          have ho := q8
                                                                                          rw [hn, zmk, ← hR4_1, ← hi, ho]
                                                                                          congr 1
                                                                                          rw [← hq]
                                                                                          first
                                                                                            | (rw [if_pos (by assumption)]; done)
                                                                                            | (rw [if_neg (by assumption)]; subst_vars; rfl)) (by omega)
        · skip
          refine z_iconst (pc := 22) (v := 1) C dX6_marksFrom_22 (by decide) ?_
          refine z_iload_n (pc := 23) C dX6_marksFrom_23 rfl ?_
          refine z_ishl (pc := 24) C dX6_marksFrom_24 ?_
          refine w_gp (fun v => v = (1 : Int32) <<< (a4_3 &&& 31)) rfl (fun v10 q10 => ?_)
          have b10x : zB v10 0 32 := by rw [q10]; exact (zshl_b b3x 5 (by decide) (by decide))
          refine z_goto (pc := 25) 29 C dX6_marksFrom_25 (by decide) ?_
          refine z_ior (pc := 29) C dX6_marksFrom_29 ?_
          refine w_gp (fun v => v = a4_2 ||| v10) rfl (fun v11 q11 => ?_)
          have b11x : zB v11 0 63 := by rw [q11]; exact (zor_b 6 b4_2 b10x (by decide) (by decide) (by decide) (by decide) (by decide))
          refine z_istore_n (pc := 30) C dX6_marksFrom_30 (by rw [hn]; decide) rfl ?_
          refine z_iinc (pc := 31) (v := 1) C dX6_marksFrom_31 rfl (by decide) (by rw [hn]; decide) rfl ?_
          obtain ⟨v12, hv12, e12⟩ : ∃ v : Int32, v = a4_3 + 1 ∧ v.toInt = a4_3.toInt + 1 := ⟨_, rfl, zadd_eb b3x (zB.of (x := 1) 1 (by decide)) (by decide) (by decide)⟩
          rw [← hv12]
          have b12x : zB v12 1 6 := by have q9 := b3x; constructor <;> omega
          refine z_goto (pc := 34) 4 C dX6_marksFrom_34 (by decide) ?_
          exact ih0 v11 b11x v12 (zB.wk (a' := 0) (b' := 6) b12x (by decide) (by decide)) g4_ hI4_ hF4_ (by exact hR4_0) (by
                                                                                          have hn : (v12).toInt.toNat = a4_3.toInt.toNat + 1 := by omega
                                                                                          have hi : a4_3 = nI a4_3.toInt.toNat := (nI_ofI (by omega)).1
                                                                                          have hx : (v4).toNatClampNeg = a1.toInt.toNat + a4_3.toInt.toNat := by omega
                                                                                          have hq := q5
                                                                                          rw [hx, hR4_0] at hq
                                                                                          have ho := q11
                                                                                          rw [hn, zmk, ← hR4_1, ← hi, ho]
                                                                                          congr 1
                                                                                          rw [← hq]
                                                                                          first
                                                                                            | (rw [if_pos (by assumption)]; done)
                                                                                            | (rw [if_neg (by assumption)]; subst_vars; rfl)) (by omega)
  have J0 := J 33
  show Z X 0 [some (zr 23 m0), some (zi a1), none, none] [] f
  refine z_iconst (pc := 0) (v := 0) C dX6_marksFrom_0 (by decide) ?_
  refine z_istore_n (pc := 1) C dX6_marksFrom_1 (by rw [hn]; decide) rfl ?_
  refine z_iconst (pc := 2) (v := 0) C dX6_marksFrom_2 (by decide) ?_
  refine z_istore_n (pc := 3) C dX6_marksFrom_3 (by rw [hn]; decide) rfl ?_
  exact J0 0 (zB.wk (a' := 0) (b' := 63) (zB.of (x := 0) 0 (by decide)) (by decide) (by decide)) 0 (zB.wk (a' := 0) (b' := 6) (zB.of (x := 0) 0 (by decide)) (by decide) (by decide)) f hI hF (by rfl) (by rfl) (by have qc0 : (0 : Int32).toInt = 0 := (by decide); omega)

set_option maxRecDepth 100000 in
set_option maxHeartbeats 4000000 in
theorem x_X6_refuse (d : Nat) (f : zM) (m0 : Nat) (h0 : m0 < zcnt 23) (a1 : Int32) (b1 : zB a1 (-2147483648) 2147483647) (hI : zInv f) : ZM d yX6_refuse cX6_refuse 2 (some .int) [zr 23 m0, zi a1] f (fun r g => (∃ v, r = some (zi v) ∧ zB v (-12) 0) ∧ zInv g ∧ zFr [] f g ∧ (∀ v : Int32, r = some (zi v) → ((f 23 m0 1).toInt = -1 ∧ v = -11) ∨ (¬ (f 23 m0 1).toInt = -1 ∧ (f 23 m0 1) = a1 ∧ v = 0) ∨ (¬ (f 23 m0 1).toInt = -1 ∧ ¬ (f 23 m0 1) = a1 ∧ v = -12))) := by
  refine ZM.intro (by decide +kernel) (Nat.le_of_ble_eq_true rfl) ?_
  intro X C hr hn
  have hF : zFr [] f f := zFr.rf _ _
  show Z X 0 [some (zr 23 m0), some (zi a1)] [] f
  refine z_aload_n (pc := 0) C dX6_refuse_0 rfl ?_
  refine z_getI (pc := 1) C zf_X6_15 rfl rfl h0 dX6_refuse_1 ?_
  refine w_gp (fun v => v = f 23 m0 1) rfl (fun v2 q2 => ?_)
  have b2x : zB v2 (-1) 2 := by rw [q2]; exact (hI 23 m0 1)
  refine z_iconst (pc := 4) (v := -1) C dX6_refuse_4 (by decide) ?_
  refine z_icmp_ne (pc := 5) 11 C dX6_refuse_5 (by decide) (fun h5_2 => ?_) (fun h5_2 => ?_)
  · skip
    have b4x : zB v2 0 2 := by have q1 := b2x; have q2 := (zB.of (x := (-1)) (-1) (by decide)); simp only [z32lt, z32le, z32eq, Int32.reduceToInt, Int32.toInt_zero] at h5_2; constructor <;> omega
    refine z_aload_n (pc := 11) C dX6_refuse_11 rfl ?_
    refine z_getI (pc := 12) C zf_X6_15 rfl rfl h0 dX6_refuse_12 ?_
    refine w_gp (fun v => v = f 23 m0 1) rfl (fun v6 q6 => ?_)
    have b6x : zB v6 (-1) 2 := by rw [q6]; exact (hI 23 m0 1)
    refine z_iload_n (pc := 15) C dX6_refuse_15 rfl ?_
    refine z_icmp_ne (pc := 16) 23 C dX6_refuse_16 (by decide) (fun h16_6 => ?_) (fun h16_6 => ?_)
    · skip
      refine z_bipush (pc := 23) (v := -12) C dX6_refuse_23 (by decide) ?_
      exact z_iret (pc := 25) C hr dX6_refuse_25 ⟨⟨_, rfl, (zB.wk (a' := (-12)) (b' := 0) (zB.of (x := (-12)) (-12) (by decide)) (by decide) (by decide))⟩, hI, hF, (by
                                                                                          intro v hv; cases hv
                                                                                          have hq := q2
                                                                                          rw [← hq]
                                                                                          have c1 : (-1 : Int32).toInt = -1 := by decide
                                                                                          first
                                                                                            | (refine Or.inl ⟨?_, rfl⟩; simp only [z32eq] at *; omega)
                                                                                            | (refine Or.inr (Or.inl ⟨?_, ?_, rfl⟩) <;> (simp only [z32eq] at *; omega))
                                                                                            | (refine Or.inr (Or.inr ⟨?_, ?_, rfl⟩) <;> (simp only [z32eq] at *; omega)))⟩
    · skip
      have b8x : zB a1 (-1) 2 := by have q1 := b6x; have q2 := b1; simp only [z32lt, z32le, z32eq, Int32.reduceToInt, Int32.toInt_zero] at h16_6; constructor <;> omega
      refine z_iconst (pc := 19) (v := 0) C dX6_refuse_19 (by decide) ?_
      refine z_goto (pc := 20) 25 C dX6_refuse_20 (by decide) ?_
      exact z_iret (pc := 25) C hr dX6_refuse_25 ⟨⟨_, rfl, (zB.wk (a' := (-12)) (b' := 0) (zB.of (x := 0) 0 (by decide)) (by decide) (by decide))⟩, hI, hF, (by
                                                                                          intro v hv; cases hv
                                                                                          have hq := q2
                                                                                          rw [← hq]
                                                                                          have c1 : (-1 : Int32).toInt = -1 := by decide
                                                                                          first
                                                                                            | (refine Or.inl ⟨?_, rfl⟩; simp only [z32eq] at *; omega)
                                                                                            | (refine Or.inr (Or.inl ⟨?_, ?_, rfl⟩) <;> (simp only [z32eq] at *; omega))
                                                                                            | (refine Or.inr (Or.inr ⟨?_, ?_, rfl⟩) <;> (simp only [z32eq] at *; omega)))⟩
  · skip
    have b9x : zB v2 (-1) (-1) := by have q1 := b2x; have q2 := (zB.of (x := (-1)) (-1) (by decide)); simp only [z32lt, z32le, z32eq, Int32.reduceToInt, Int32.toInt_zero] at h5_2; constructor <;> omega
    refine z_bipush (pc := 8) (v := -11) C dX6_refuse_8 (by decide) ?_
    exact z_iret (pc := 10) C hr dX6_refuse_10 ⟨⟨_, rfl, (zB.wk (a' := (-12)) (b' := 0) (zB.of (x := (-11)) (-11) (by decide)) (by decide) (by decide))⟩, hI, hF, (by
                                                                                          intro v hv; cases hv
                                                                                          have hq := q2
                                                                                          rw [← hq]
                                                                                          have c1 : (-1 : Int32).toInt = -1 := by decide
                                                                                          first
                                                                                            | (refine Or.inl ⟨?_, rfl⟩; simp only [z32eq] at *; omega)
                                                                                            | (refine Or.inr (Or.inl ⟨?_, ?_, rfl⟩) <;> (simp only [z32eq] at *; omega))
                                                                                            | (refine Or.inr (Or.inr ⟨?_, ?_, rfl⟩) <;> (simp only [z32eq] at *; omega)))⟩

set_option maxRecDepth 100000 in
set_option maxHeartbeats 4000000 in
theorem x_X10_lacksRow (d : Nat) (f : zM) (a1 : Int32) (b1 : zB a1 0 3) (a2 : Int32) (b2 : zB a2 0 2) (a3 : Int32) (b3 : zB a3 (-2147483648) 2147483647) (a4 : Int32) (b4 : zB a4 1 6) (hI : zInv f) : ZM (d + 1) yX10_lacksRow cX10_lacksRow 5 (some .int) [zr 25 0, zi a1, zi a2, zi a3, zi a4] f (fun r g => (∃ v, r = some (zi v) ∧ zB v (-13) 0) ∧ zInv g ∧ zFr [] f g ∧ (∀ v : Int32, r = some (zi v) → (¬ (f 41 0 a1.toInt.toNat) = a2 ∧ (f 41 0 a1.toInt.toNat).toInt < 0 ∧ v = -11) ∨ (¬ (f 41 0 a1.toInt.toNat) = a2 ∧ 0 ≤ (f 41 0 a1.toInt.toNat).toInt ∧ v = -12) ∨ ((f 41 0 a1.toInt.toNat) = a2 ∧ 0 ≤ a3.toInt ∧ a3.toInt ≤ (f 42 0 a1.toInt.toNat).toInt - a4.toInt ∧ v = 0) ∨ ((f 41 0 a1.toInt.toNat) = a2 ∧ ¬ (0 ≤ a3.toInt ∧ a3.toInt ≤ (f 42 0 a1.toInt.toNat).toInt - a4.toInt) ∧ v = -13)) ∧ (∀ v : Int32, r = some (zi v) → (0 ≤ v.toInt → 0 ≤ a3.toInt ∧ a3.toInt ≤ 16 - a4.toInt))) := by
  refine ZM.intro (by decide +kernel) (Nat.le_of_ble_eq_true rfl) ?_
  intro X C hr hn
  have hF : zFr [] f f := zFr.rf _ _
  show Z X 0 [some (zr 25 0), some (zi a1), some (zi a2), some (zi a3), some (zi a4)] [] f
  refine z_aload_n (pc := 0) C dX10_lacksRow_0 rfl ?_
  refine z_getR (pc := 1) C zf_X10_55 rfl rfl (by decide) dX10_lacksRow_1 ?_
  refine z_iload_n (pc := 4) C dX10_lacksRow_4 rfl ?_
  refine z_iald (pc := 5) C rfl (by decide) (zIx b1 (by decide) (by decide)) dX10_lacksRow_5 ?_
  have kq5_0 : a1.toNatClampNeg = a1.toInt.toNat := rfl
  refine w_gp (fun v => v = f 41 0 a1.toNatClampNeg) rfl (fun v1 q1 => ?_)
  have b1x : zB v1 (-1) 2 := by rw [q1]; exact (hI 41 0 a1.toNatClampNeg)
  refine z_iload_n (pc := 6) C dX10_lacksRow_6 rfl ?_
  refine z_icmp_eq (pc := 7) 27 C dX10_lacksRow_7 (by decide) (fun h7_1 => ?_) (fun h7_1 => ?_)
  · skip
    have b3x : zB v1 0 2 := by have q1 := b1x; have q2 := b2; simp only [z32lt, z32le, z32eq, Int32.reduceToInt, Int32.toInt_zero] at h7_1; constructor <;> omega
    refine z_iload_n (pc := 27) C dX10_lacksRow_27 rfl ?_
    refine z_i2l (pc := 28) C dX10_lacksRow_28 ?_
    refine z_lconst (pc := 29) (v := 0) C dX10_lacksRow_29 (by decide) ?_
    refine z_aload_n (pc := 30) C dX10_lacksRow_30 rfl ?_
    refine z_getR (pc := 31) C zf_X10_58 rfl rfl (by decide) dX10_lacksRow_31 ?_
    refine z_iload_n (pc := 34) C dX10_lacksRow_34 rfl ?_
    refine z_iald (pc := 35) C rfl (by decide) (zIx b1 (by decide) (by decide)) dX10_lacksRow_35 ?_
    have kq35_3 : a1.toNatClampNeg = a1.toInt.toNat := rfl
    refine w_gp (fun v => v = f 42 0 a1.toNatClampNeg) rfl (fun v4 q4 => ?_)
    have b4x : zB v4 0 16 := by rw [q4]; exact (hI 42 0 a1.toNatClampNeg)
    refine z_iload (pc := 36) C dX10_lacksRow_36 rfl ?_
    refine z_isub (pc := 38) C dX10_lacksRow_38 ?_
    refine w_gp (fun v => v = v4 - a4) rfl (fun v5 q5 => ?_)
    have e5 : v5.toInt = v4.toInt - a4.toInt := by rw [q5]; exact (zsub_eb b4x b4 (by decide) (by decide))
    have b5x : zB v5 (-6) 15 := by have q1 := b4x; have q2 := b4; constructor <;> omega
    refine z_i2l (pc := 39) C dX10_lacksRow_39 ?_
    refine z_callSb (pc := 40) C zk_X10_69 (m_X10_in _ _ _ _ _) rfl rfl (Nat.le_of_ble_eq_true rfl) dX10_lacksRow_40 (fun h40_5 => ?_) (fun h40_5 => ?_)
    · skip
      have hc40_1 : (0 ≤ a3.toInt ∧ a3.toInt ≤ v5.toInt) := by have q9 := h40_5; simp only [z64] at q9; exact q9
      have b7x : zB a3 0 15 := zin64v h40_5 rfl b5x
      have b7xr := zin64r h40_5
      refine z_if_eq (pc := 43) 50 C dX10_lacksRow_43 (by decide) (fun h => absurd h (by decide)) (fun _ => ?_)
      refine z_iconst (pc := 46) (v := 0) C dX10_lacksRow_46 (by decide) ?_
      refine z_goto (pc := 47) 52 C dX10_lacksRow_47 (by decide) ?_
      exact z_iret (pc := 52) C hr dX10_lacksRow_52 ⟨⟨_, rfl, (zB.wk (a' := (-13)) (b' := 0) (zB.of (x := 0) 0 (by decide)) (by decide) (by decide))⟩, hI, hF, (by
                                                                                          intro v hv; cases hv
                                                                                          have hk : (a1).toNatClampNeg = a1.toInt.toNat := rfl
                                                                                          have hq := q1
                                                                                          rw [hk] at hq
                                                                                          rw [← hq]
                                                                                          have hq2 := q4
                                                                                          rw [hk] at hq2
                                                                                          rw [← hq2]
                                                                                          first
                                                                                            | (refine Or.inl ⟨?_, ?_, rfl⟩ <;> (simp only [z32eq, z32lt, z32le, Int32.toInt_zero] at *; omega))
                                                                                            | (refine Or.inr (Or.inl ⟨?_, ?_, rfl⟩) <;> (simp only [z32eq, z32lt, z32le, Int32.toInt_zero] at *; omega))
                                                                                            | (refine Or.inr (Or.inr (Or.inl ⟨?_, ?_, ?_, rfl⟩)) <;> (simp only [z32eq, z32lt, z32le, Int32.toInt_zero] at *; omega))
                                                                                            | (refine Or.inr (Or.inr (Or.inr ⟨?_, ?_, rfl⟩)) <;> (simp only [z32eq, z32lt, z32le, Int32.toInt_zero] at *; omega))), (by intro v hv; cases hv; have qc0 : (0 : Int32).toInt = 0 := (by decide); omega)⟩
    · skip
      have hc40_0 : ¬ (0 ≤ a3.toInt ∧ a3.toInt ≤ v5.toInt) := by have q9 := h40_5; simp only [z64] at q9; exact q9
      refine z_if_eq (pc := 43) 50 C dX10_lacksRow_43 (by decide) (fun _ => ?_) (fun h => absurd (by decide) h)
      refine z_bipush (pc := 50) (v := -13) C dX10_lacksRow_50 (by decide) ?_
      exact z_iret (pc := 52) C hr dX10_lacksRow_52 ⟨⟨_, rfl, (zB.wk (a' := (-13)) (b' := 0) (zB.of (x := (-13)) (-13) (by decide)) (by decide) (by decide))⟩, hI, hF, (by
                                                                                          intro v hv; cases hv
                                                                                          have hk : (a1).toNatClampNeg = a1.toInt.toNat := rfl
                                                                                          have hq := q1
                                                                                          rw [hk] at hq
                                                                                          rw [← hq]
                                                                                          have hq2 := q4
                                                                                          rw [hk] at hq2
                                                                                          rw [← hq2]
                                                                                          first
                                                                                            | (refine Or.inl ⟨?_, ?_, rfl⟩ <;> (simp only [z32eq, z32lt, z32le, Int32.toInt_zero] at *; omega))
                                                                                            | (refine Or.inr (Or.inl ⟨?_, ?_, rfl⟩) <;> (simp only [z32eq, z32lt, z32le, Int32.toInt_zero] at *; omega))
                                                                                            | (refine Or.inr (Or.inr (Or.inl ⟨?_, ?_, ?_, rfl⟩)) <;> (simp only [z32eq, z32lt, z32le, Int32.toInt_zero] at *; omega))
                                                                                            | (refine Or.inr (Or.inr (Or.inr ⟨?_, ?_, rfl⟩)) <;> (simp only [z32eq, z32lt, z32le, Int32.toInt_zero] at *; omega))), (by intro v hv; cases hv; have qc0 : ((-13) : Int32).toInt = (-13) := (by decide); omega)⟩
  · skip
    refine z_aload_n (pc := 10) C dX10_lacksRow_10 rfl ?_
    refine z_getR (pc := 11) C zf_X10_55 rfl rfl (by decide) dX10_lacksRow_11 ?_
    refine z_iload_n (pc := 14) C dX10_lacksRow_14 rfl ?_
    refine z_iald (pc := 15) C rfl (by decide) (zIx b1 (by decide) (by decide)) dX10_lacksRow_15 ?_
    have kq15_7 : a1.toNatClampNeg = a1.toInt.toNat := rfl
    refine w_gp (fun v => v = f 41 0 a1.toNatClampNeg) rfl (fun v8 q8 => ?_)
    have b8x : zB v8 (-1) 2 := by rw [q8]; exact (hI 41 0 a1.toNatClampNeg)
    refine z_if_ge (pc := 16) 24 C dX10_lacksRow_16 (by decide) (fun h16_8 => ?_) (fun h16_8 => ?_)
    · skip
      have b10x : zB v8 0 2 := by have q1 := b8x; have q2 := (zB.of (x := 0) 0 (by decide)); simp only [z32lt, z32le, z32eq, Int32.reduceToInt, Int32.toInt_zero] at h16_8; constructor <;> omega
      refine z_bipush (pc := 24) (v := -12) C dX10_lacksRow_24 (by decide) ?_
      exact z_iret (pc := 26) C hr dX10_lacksRow_26 ⟨⟨_, rfl, (zB.wk (a' := (-13)) (b' := 0) (zB.of (x := (-12)) (-12) (by decide)) (by decide) (by decide))⟩, hI, hF, (by
                                                                                          intro v hv; cases hv
                                                                                          have hk : (a1).toNatClampNeg = a1.toInt.toNat := rfl
                                                                                          have hq := q1
                                                                                          rw [hk] at hq
                                                                                          rw [← hq]
                                                                                          have hq2 := q8
                                                                                          rw [hk] at hq2
                                                                                          first
                                                                                            | (refine Or.inl ⟨?_, ?_, rfl⟩ <;> (simp only [z32eq, z32lt, z32le, Int32.toInt_zero] at *; omega))
                                                                                            | (refine Or.inr (Or.inl ⟨?_, ?_, rfl⟩) <;> (simp only [z32eq, z32lt, z32le, Int32.toInt_zero] at *; omega))
                                                                                            | (refine Or.inr (Or.inr (Or.inl ⟨?_, ?_, ?_, rfl⟩)) <;> (simp only [z32eq, z32lt, z32le, Int32.toInt_zero] at *; omega))
                                                                                            | (refine Or.inr (Or.inr (Or.inr ⟨?_, ?_, rfl⟩)) <;> (simp only [z32eq, z32lt, z32le, Int32.toInt_zero] at *; omega))), (by intro v hv; cases hv; have qc0 : ((-12) : Int32).toInt = (-12) := (by decide); omega)⟩
    · skip
      have b11x : zB v8 (-1) (-1) := by have q1 := b8x; have q2 := (zB.of (x := 0) 0 (by decide)); simp only [z32lt, z32le, z32eq, Int32.reduceToInt, Int32.toInt_zero] at h16_8; constructor <;> omega
      refine z_bipush (pc := 19) (v := -11) C dX10_lacksRow_19 (by decide) ?_
      refine z_goto (pc := 21) 26 C dX10_lacksRow_21 (by decide) ?_
      exact z_iret (pc := 26) C hr dX10_lacksRow_26 ⟨⟨_, rfl, (zB.wk (a' := (-13)) (b' := 0) (zB.of (x := (-11)) (-11) (by decide)) (by decide) (by decide))⟩, hI, hF, (by
                                                                                          intro v hv; cases hv
                                                                                          have hk : (a1).toNatClampNeg = a1.toInt.toNat := rfl
                                                                                          have hq := q1
                                                                                          rw [hk] at hq
                                                                                          rw [← hq]
                                                                                          have hq2 := q8
                                                                                          rw [hk] at hq2
                                                                                          first
                                                                                            | (refine Or.inl ⟨?_, ?_, rfl⟩ <;> (simp only [z32eq, z32lt, z32le, Int32.toInt_zero] at *; omega))
                                                                                            | (refine Or.inr (Or.inl ⟨?_, ?_, rfl⟩) <;> (simp only [z32eq, z32lt, z32le, Int32.toInt_zero] at *; omega))
                                                                                            | (refine Or.inr (Or.inr (Or.inl ⟨?_, ?_, ?_, rfl⟩)) <;> (simp only [z32eq, z32lt, z32le, Int32.toInt_zero] at *; omega))
                                                                                            | (refine Or.inr (Or.inr (Or.inr ⟨?_, ?_, rfl⟩)) <;> (simp only [z32eq, z32lt, z32le, Int32.toInt_zero] at *; omega))), (by intro v hv; cases hv; have qc0 : ((-11) : Int32).toInt = (-11) := (by decide); omega)⟩
