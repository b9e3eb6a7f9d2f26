/-- the three ways in which a weighed paper lets DEEDS go, as bits -/
theorem zgo_eq {PA PB : Nat → Prop} {n : Nat} {G D : Prop} {v deeds : Int32} (hn : n ≤ 32) (h : (¬ G ∧ v = 0) ∨ (G ∧ ¬ D ∧ v = zbf PA n &&& deeds) ∨ (G ∧ D ∧ v = (zbf PA n &&& deeds) &&& (zbf PB n ^^^ -1))) : v = zbf (fun i => G ∧ PA i ∧ bt deeds i = true ∧ (¬ D ∨ ¬ PB i)) n := by
  refine zbf_ext hn (fun i hi => ?_)
  have ha := zbf_bit (P := PA) hi n hn
  have hb := zbf_bit (P := PB) hi n hn
  rcases h with ⟨h1, h2⟩ | ⟨h1, h2, h3⟩ | ⟨h1, h2, h3⟩
  · rw [h2, b_0]
    constructor
    · intro q; cases q
    · intro q; exact absurd q.2.1 h1
  · rw [h3, b_and, Bool.and_eq_true, ha]
    constructor
    · intro q; exact ⟨q.1.1, h1, q.1.2, q.2, Or.inl h2⟩
    · intro q; exact ⟨⟨q.1, q.2.2.1⟩, q.2.2.2.1⟩
  · rw [h3, b_and, b_and, b_xor, b_m1 i hi, Bool.and_eq_true, Bool.and_eq_true, ha]
    constructor
    · rintro ⟨⟨q1, q2⟩, q3⟩
      refine ⟨q1.1, h1, q1.2, q2, Or.inr (fun z => ?_)⟩
      rw [hb.mpr ⟨q1.1, z⟩] at q3; cases q3
    · rintro ⟨q1, _, q2, q3, q4⟩
      refine ⟨⟨⟨q1, q2⟩, q3⟩, ?_⟩
      cases z : bt (zbf PB n) i
      · rfl
      · exact absurd (hb.mp z).2 (q4.resolve_left (fun y => y h2))

set_option maxRecDepth 100000 in
set_option maxHeartbeats 4000000 in
theorem x_X9_lets (d : Nat) (f : zM) (a1 : Int32) (b1 : zB a1 (-2147483648) 2147483647) (hI : zInv f) : ZM (d + 3) yX9_lets cX9_lets 3 (some .int) [zr 0 0, zi a1] f (fun r g => (∃ v, r = some (zi v) ∧ zB v (-2) 255) ∧ zInv g ∧ zFr [(11, some 8), (11, some 9)] f g ∧ (∀ v : Int32, r = some (zi v) → (¬ (0 ≤ a1.toInt ∧ a1.toInt < (f 1 0 7).toInt) ∧ v = -1 ∧ g = f) ∨ ((0 ≤ a1.toInt ∧ a1.toInt < (f 1 0 7).toInt) ∧ ¬ f 11 a1.toInt.toNat 1 = f 6 0 1 ∧ v = -2 ∧ g = f) ∨ ((0 ≤ a1.toInt ∧ a1.toInt < (f 1 0 7).toInt) ∧ f 11 a1.toInt.toNat 1 = f 6 0 1 ∧ v = zbf (fun i => (f 6 0 5 = -4 ∨ f 6 0 5 = f 11 a1.toInt.toNat 2) ∧ (zcx f a1.toInt.toNat i ∧ zbx f a1.toInt.toNat i = 0) ∧ bt (f 6 0 6) i = true ∧ (f 6 0 4 = 0 ∨ ¬ f 11 a1.toInt.toNat 7 &&& 1 = 0 ∨ ¬ bt (f 8 i 7) (f 11 a1.toInt.toNat 2).toInt.toNat = true)) (f 1 0 6).toInt.toNat ∧ (∀ a b c, ¬ (a = 11 ∧ b = a1.toInt.toNat ∧ (c = 8 ∨ c = 9)) → g a b c = f a b c))) ∧ (∀ v : Int32, r = some (zi v) → (0 ≤ v.toInt → 0 ≤ a1.toInt ∧ a1.toInt ≤ 11))) := by
  refine ZM.intro (by decide +kernel) (Nat.le_of_ble_eq_true rfl) ?_
  intro X C hr hn
  have hF : zFr [(11, some 8), (11, some 9)] f f := zFr.rf _ _
  show Z X 0 [some (zr 0 0), some (zi a1), none] [] f
  refine z_aload_n (pc := 0) C dX9_lets_0 rfl ?_
  refine z_iload_n (pc := 1) C dX9_lets_1 rfl ?_
  refine z_callVb (pc := 2) C zk_X9_153 (m_X9_isPaper _ _ _) rfl rfl (by decide) rfl rfl (Nat.le_of_ble_eq_true rfl) dX9_lets_2 (fun h2_0 => ?_) (fun h2_0 => ?_)
  · skip
    have b2x : zB a1 0 11 := (zltc h2_0 (hI 1 0 7).2)
    refine z_if_ne (pc := 5) 10 C dX9_lets_5 (by decide) (fun _ => ?_) (fun h => absurd h (by decide))
    refine z_aload_n (pc := 10) C dX9_lets_10 rfl ?_
    refine z_getR (pc := 11) C zf_X9_10 rfl rfl (by decide) dX9_lets_11 ?_
    refine z_getR (pc := 14) C zf_X9_90 rfl rfl (by decide) dX9_lets_14 ?_
    refine z_iload_n (pc := 17) C dX9_lets_17 rfl ?_
    refine z_aald (pc := 18) C rfl ⟨rfl, by decide⟩ (by decide) (zIx b2x (by decide) (by decide)) dX9_lets_18 ?_
    refine w_grx (by have hq := zN b2x (by decide); show 12 * 0 + a1.toNatClampNeg < 36; omega) (fun m3 q3r h3x => ?_)
    have q3r : m3 = 12 * 0 + a1.toNatClampNeg := q3r
    have k3r : a1.toNatClampNeg = a1.toInt.toNat := rfl
    refine z_astore_n (pc := 19) C dX9_lets_19 (by rw [hn]; decide) rfl ?_
    refine z_aload_n (pc := 20) C dX9_lets_20 rfl ?_
    refine z_getI (pc := 21) C zf_X9_159 rfl rfl h3x dX9_lets_21 ?_
    refine w_gp (fun v => v = f 11 m3 1) rfl (fun v5 q5 => ?_)
    have b5x : zB v5 0 5 := by rw [q5]; exact (hI 11 m3 1)
    refine z_aload_n (pc := 24) C dX9_lets_24 rfl ?_
    refine z_getR (pc := 25) C zf_X9_10 rfl rfl (by decide) dX9_lets_25 ?_
    refine z_getR (pc := 28) C zf_X9_220 rfl rfl (by decide) dX9_lets_28 ?_
    refine z_getI (pc := 31) C zf_X9_232 rfl rfl (by decide) dX9_lets_31 ?_
    refine w_gp (fun v => v = f 6 0 1) rfl (fun v7 q7 => ?_)
    have b7x : zB v7 0 5 := by rw [q7]; exact (hI 6 0 1)
    refine z_icmp_eq (pc := 34) 40 C dX9_lets_34 (by decide) (fun h34_7 => ?_) (fun h34_7 => ?_)
    · skip
      have rr9 : v5.toInt = v7.toInt := by simp only [z32lt, z32le, z32eq] at h34_7; omega
      refine z_aload_n (pc := 40) C dX9_lets_40 rfl ?_
      refine z_getR (pc := 41) C zf_X9_10 rfl rfl (by decide) dX9_lets_41 ?_
      refine z_aload_n (pc := 44) C dX9_lets_44 rfl ?_
      refine z_callV (pc := 45) C zk_X9_259 (x_X8_weigh _ _ m3 h3x hI) rfl rfl (by decide) rfl rfl (Nat.le_of_ble_eq_true rfl) dX9_lets_45 (fun r10 g10 q10 => ?_)
      obtain ⟨rfl, hI10, hF10q, hp10_0, hp10_1, hp10_2⟩ := q10
      have hF10 := zFr.tr hF hF10q (by decide)
      simp only [Option.toList, List.cons_append, List.nil_append]
      refine z_aload_n (pc := 48) C dX9_lets_48 rfl ?_
      refine z_getR (pc := 49) C zf_X9_10 rfl rfl (by decide) dX9_lets_49 ?_
      refine z_getR (pc := 52) C zf_X9_220 rfl rfl (by decide) dX9_lets_52 ?_
      refine z_aload_n (pc := 55) C dX9_lets_55 rfl ?_
      refine z_callV (pc := 56) C zk_X9_262 (x_X3_goesBy _ _ 0 (by decide) m3 h3x hI10) rfl rfl (by decide) rfl rfl (Nat.le_of_ble_eq_true rfl) dX9_lets_56 (fun r11 g11 q11 => ?_)
      obtain ⟨⟨v11, rfl, b11x⟩, hI11, hF11q, hp11_0⟩ := q11
      have hp11_0 := hp11_0 _ rfl
      obtain rfl := zFr_nil hF11q
      simp only [Option.toList, List.cons_append, List.nil_append]
      exact z_iret (pc := 59) C hr dX9_lets_59 ⟨⟨_, rfl, (zB.wk (a' := (-2)) (b' := 255) b11x (by decide) (by decide))⟩, hI10, hF10, (by
                                                                                          intro v hv; cases hv
                                                                                          have hd : m3 = a1.toInt.toNat := by omega
                                                                                          have r21 := q5
                                                                                          have r31 := q7
                                                                                          rw [hd] at r21
                                                                                          have hft : f 11 a1.toInt.toNat 1 = f 6 0 1 := by rw [← r21, ← r31]; assumption
                                                                                          have h0 := hp10_0
                                                                                          have h1 := hp10_1
                                                                                          have h2 := hp10_2
                                                                                          have hg := hp11_0
                                                                                          rw [hd] at h0 h1 h2 hg
                                                                                          rw [h1, h2, h0 11 _ 1 (by omega), h0 11 _ 2 (by omega), h0 11 _ 7 (by omega), h0 6 0 1 (by omega), h0 6 0 4 (by omega), h0 6 0 5 (by omega), h0 6 0 6 (by omega)] at hg
                                                                                          have b8 : (f 1 0 6).toInt ≤ 8 := (hI 1 0 6).2
                                                                                          have hv := zgo_eq (by omega) hg
                                                                                          refine Or.inr (Or.inr ⟨by omega, hft, ?_, h0⟩)
                                                                                          rw [hv]
                                                                                          refine zbf_congr _ (fun k hk => ?_)
                                                                                          constructor
                                                                                          · rintro ⟨⟨_, q1⟩, q2, q3, q4⟩
                                                                                            refine ⟨q1, q2, q3, ?_⟩
                                                                                            rcases q4 with q4 | q4
                                                                                            · by_cases z : f 6 0 4 = 0
                                                                                              · exact Or.inl z
                                                                                              · exact Or.inr (Or.inl (fun y => q4 ⟨z, y⟩))
                                                                                            · exact Or.inr (Or.inr q4)
                                                                                          · rintro ⟨q1, q2, q3, q4⟩
                                                                                            refine ⟨⟨hft, q1⟩, q2, q3, ?_⟩
                                                                                            rcases q4 with q4 | q4 | q4
                                                                                            · exact Or.inl (fun y => y.1 q4)
                                                                                            · exact Or.inl (fun y => q4 y.2)
                                                                                            · exact Or.inr q4), (by intro v hv; cases hv; omega)⟩
    · skip
      refine z_bipush (pc := 37) (v := -2) C dX9_lets_37 (by decide) ?_
      exact z_iret (pc := 39) C hr dX9_lets_39 ⟨⟨_, rfl, (zB.wk (a' := (-2)) (b' := 255) (zB.of (x := (-2)) (-2) (by decide)) (by decide) (by decide))⟩, hI, hF, (by
                                                                                          intro v hv; cases hv
                                                                                          have hd : m3 = a1.toInt.toNat := by omega
                                                                                          have r21 := q5
                                                                                          have r31 := q7
                                                                                          rw [hd] at r21
                                                                                          exact Or.inr (Or.inl ⟨by omega, by rw [← r21, ← r31]; assumption, rfl, rfl⟩)), (by intro v hv; cases hv; have qc0 : ((-2) : Int32).toInt = (-2) := (by decide); omega)⟩
  · skip
    refine z_if_ne (pc := 5) 10 C dX9_lets_5 (by decide) (fun h => absurd (by decide) h) (fun _ => ?_)
    refine z_iconst (pc := 8) (v := -1) C dX9_lets_8 (by decide) ?_
    exact z_iret (pc := 9) C hr dX9_lets_9 ⟨⟨_, rfl, (zB.wk (a' := (-2)) (b' := 255) (zB.of (x := (-1)) (-1) (by decide)) (by decide) (by decide))⟩, hI, hF, (by intro v hv; cases hv; exact Or.inl ⟨by omega, rfl, rfl⟩), (by intro v hv; cases hv; have qc0 : ((-1) : Int32).toInt = (-1) := (by decide); omega)⟩

set_option maxRecDepth 100000 in
set_option maxHeartbeats 4000000 in
theorem x_X10_lets (d : Nat) (f : zM) (a1 : Int32) (b1 : zB a1 (-2147483648) 2147483647) (hI : zInv f) : ZM (d + 6) yX10_lets cX10_lets 2 (some .int) [zr 25 0, zi a1] f (fun r g => (∃ v, r = some (zi v) ∧ zB v (-2) 255) ∧ zInv g ∧ zFr [(31, none)] f g ∧ (∀ v : Int32, r = some (zi v) → (¬ (0 ≤ a1.toInt ∧ a1.toInt < (f 25 0 4).toInt) ∧ v = -1) ∨ ((0 ≤ a1.toInt ∧ a1.toInt < (f 25 0 4).toInt) ∧ ¬ f 28 0 (8 * a1.toInt.toNat + 1) = f 30 0 1 ∧ v = -2) ∨ ((0 ≤ a1.toInt ∧ a1.toInt < (f 25 0 4).toInt) ∧ f 28 0 (8 * a1.toInt.toNat + 1) = f 30 0 1 ∧ v = zbf (fun i => (zcr f a1.toInt.toNat i ∧ zsr f a1.toInt.toNat i = 0) ∧ zmg f a1.toInt.toNat i (f 30 0 3) (f 30 0 4) (f 30 0 5)) (f 25 0 2).toInt.toNat)) ∧ (∀ v : Int32, r = some (zi v) → (0 ≤ v.toInt → 0 ≤ a1.toInt ∧ a1.toInt ≤ 11))) := by
  refine ZM.intro (by decide +kernel) (Nat.le_of_ble_eq_true rfl) ?_
  intro X C hr hn
  have hF : zFr [(31, none)] f f := zFr.rf _ _
  show Z X 0 [some (zr 25 0), some (zi a1)] [] f
  refine z_aload_n (pc := 0) C dX10_lets_0 rfl ?_
  refine z_iload_n (pc := 1) C dX10_lets_1 rfl ?_
  refine z_callVb (pc := 2) C zk_X10_109 (m_X10_isPaper _ _ _ hI) rfl rfl (by decide) rfl rfl (Nat.le_of_ble_eq_true rfl) dX10_lets_2 (fun h2_0 => ?_) (fun h2_0 => ?_)
  · skip
    have b2x : zB a1 0 11 := (zltc h2_0 (hI 25 0 4).2)
    refine z_if_ne (pc := 5) 10 C dX10_lets_5 (by decide) (fun _ => ?_) (fun h => absurd h (by decide))
    refine z_aload_n (pc := 10) C dX10_lets_10 rfl ?_
    refine z_getR (pc := 11) C zf_X10_16 rfl rfl (by decide) dX10_lets_11 ?_
    refine z_bipush (pc := 14) (v := 8) C dX10_lets_14 (by decide) ?_
    refine z_iload_n (pc := 16) C dX10_lets_16 rfl ?_
    refine z_imul (pc := 17) C dX10_lets_17 ?_
    refine w_gp (fun v => v = (8 : Int32) * a1) rfl (fun v3 q3 => ?_)
    have e3 : v3.toInt = 8 * a1.toInt := by rw [q3]; exact (zmul_kb 8 (by decide) (by decide) b2x (by decide) (by decide))
    have b3x : zB v3 0 88 := zmul_bb e3 (by decide) b2x
    refine z_iconst (pc := 18) (v := 1) C dX10_lets_18 (by decide) ?_
    refine z_iadd (pc := 19) C dX10_lets_19 ?_
    refine w_gp (fun v => v = v3 + (1 : Int32)) rfl (fun v4 q4 => ?_)
    have e4 : v4.toInt = v3.toInt + 1 := by rw [q4]; exact (zadd_eb b3x (zB.of (x := 1) 1 (by decide)) (by decide) (by decide))
    have b4x : zB v4 1 89 := by have q1 := b3x; have q2 := (zB.of (x := 1) 1 (by decide)); constructor <;> omega
    refine z_iald (pc := 20) C rfl (by decide) (zIx b4x (by decide) (by decide)) dX10_lets_20 ?_
    have kq20_4 : v4.toNatClampNeg = v4.toInt.toNat := rfl
    refine w_gp (fun v => v = f 28 0 v4.toNatClampNeg) rfl (fun v5 q5 => ?_)
    have b5x : zB v5 0 5 := by rw [q5]; exact (by have hq9 := hI 28 0 v4.toNatClampNeg; rw [zrg28 (r := 1) (by have hq : v4.toNatClampNeg = v4.toInt.toNat := rfl; have hq2 := b4x; omega)] at hq9; exact hq9)
    refine z_aload_n (pc := 21) C dX10_lets_21 rfl ?_
    refine z_getR (pc := 22) C zf_X10_22 rfl rfl (by decide) dX10_lets_22 ?_
    refine z_iconst (pc := 25) (v := 1) C dX10_lets_25 (by decide) ?_
    refine z_iald (pc := 26) C rfl (by decide) (zIx (zB.of (x := 1) 1 (by decide)) (by decide) (by decide)) dX10_lets_26 ?_
    have kq26_5 : (1 : Int32).toNatClampNeg = (1 : Int32).toInt.toNat := rfl
    refine w_gp (fun v => v = f 30 0 (1 : Int32).toNatClampNeg) rfl (fun v6 q6 => ?_)
    have b6x : zB v6 0 5 := by rw [q6]; exact (hI 30 0 (1 : Int32).toNatClampNeg)
    refine z_icmp_eq (pc := 27) 33 C dX10_lets_27 (by decide) (fun h27_6 => ?_) (fun h27_6 => ?_)
    · skip
      have rr8 : v5.toInt = v6.toInt := by simp only [z32lt, z32le, z32eq] at h27_6; omega
      refine z_aload_n (pc := 33) C dX10_lets_33 rfl ?_
      refine z_callV (pc := 34) C zk_X10_151 (x_X10_findOpen _ _  hI) rfl rfl (by decide) rfl rfl (Nat.le_of_ble_eq_true rfl) dX10_lets_34 (fun r9 g9 q9 => ?_)
      obtain ⟨rfl, hI9, hF9q, hp9_0⟩ := q9
      have hF9 := zFr.tr hF hF9q (by decide)
      simp only [Option.toList, List.cons_append, List.nil_append]
      refine z_aload_n (pc := 37) C dX10_lets_37 rfl ?_
      refine z_iload_n (pc := 38) C dX10_lets_38 rfl ?_
      refine z_callV (pc := 39) C zk_X10_154 (x_X10_goesNow _ _ a1 b2x hI9) rfl rfl (by decide) rfl rfl (Nat.le_of_ble_eq_true rfl) dX10_lets_39 (fun r10 g10 q10 => ?_)
      obtain ⟨⟨v10, rfl, b10x⟩, hI10, hF10q, hp10_0⟩ := q10
      have hp10_0 := hp10_0 _ rfl
      obtain rfl := zFr_nil hF10q
      simp only [Option.toList, List.cons_append, List.nil_append]
      exact z_iret (pc := 42) C hr dX10_lets_42 ⟨⟨_, rfl, (zB.wk (a' := (-2)) (b' := 255) b10x (by decide) (by decide))⟩, hI9, hF9, (by
                                                                                          intro v hv; cases hv
                                                                                          have x20 : (v4).toNatClampNeg = 8 * a1.toInt.toNat + 1 := by omega
                                                                                          have r20 := q5
                                                                                          rw [x20] at r20
                                                                                          have r26 : v6 = f 30 0 1 := q6
                                                                                          have k25 : g9 25 0 = f 25 0 := funext (fun j => hF9q 25 0 j rfl)
                                                                                          have k26 : g9 26 0 = f 26 0 := funext (fun j => hF9q 26 0 j rfl)
                                                                                          have k27 : g9 27 0 = f 27 0 := funext (fun j => hF9q 27 0 j rfl)
                                                                                          have k28 : g9 28 0 = f 28 0 := funext (fun j => hF9q 28 0 j rfl)
                                                                                          have k30 : g9 30 0 = f 30 0 := funext (fun j => hF9q 30 0 j rfl)
                                                                                          have hft : f 28 0 (8 * a1.toInt.toNat + 1) = f 30 0 1 := by rw [← r20, ← r26]; assumption
                                                                                          have h1 := hp9_0 a1.toInt.toNat (by omega)
                                                                                          have hg := hp10_0
                                                                                          rw [h1, k25, k28, k30] at hg
                                                                                          have b8 : (f 25 0 2).toInt ≤ 8 := (hI 25 0 2).2
                                                                                          refine Or.inr (Or.inr ⟨by omega, hft, ?_⟩)
                                                                                          rw [hg]
                                                                                          refine zbf_congr _ (fun k hk => ?_)
                                                                                          rw [zmg_k k25 k26 k27 k28, zbf_bit (by omega) _ (by omega)]
                                                                                          constructor
                                                                                          · rintro ⟨_, ⟨_, q1⟩, q2⟩; exact ⟨q1, q2⟩
                                                                                          · rintro ⟨q1, q2⟩; exact ⟨hft, ⟨hk, q1⟩, q2⟩), (by intro v hv; cases hv; omega)⟩
    · skip
      refine z_bipush (pc := 30) (v := -2) C dX10_lets_30 (by decide) ?_
      exact z_iret (pc := 32) C hr dX10_lets_32 ⟨⟨_, rfl, (zB.wk (a' := (-2)) (b' := 255) (zB.of (x := (-2)) (-2) (by decide)) (by decide) (by decide))⟩, hI, hF, (by
                                                                                          intro v hv; cases hv
                                                                                          have x20 : (v4).toNatClampNeg = 8 * a1.toInt.toNat + 1 := by omega
                                                                                          have r20 := q5
                                                                                          rw [x20] at r20
                                                                                          have r26 : v6 = f 30 0 1 := q6
                                                                                          exact Or.inr (Or.inl ⟨by omega, by rw [← r20, ← r26]; assumption, rfl⟩)), (by intro v hv; cases hv; have qc0 : ((-2) : Int32).toInt = (-2) := (by decide); omega)⟩
  · skip
    refine z_if_ne (pc := 5) 10 C dX10_lets_5 (by decide) (fun h => absurd (by decide) h) (fun _ => ?_)
    refine z_iconst (pc := 8) (v := -1) C dX10_lets_8 (by decide) ?_
    exact z_iret (pc := 9) C hr dX10_lets_9 ⟨⟨_, rfl, (zB.wk (a' := (-2)) (b' := 255) (zB.of (x := (-1)) (-1) (by decide)) (by decide) (by decide))⟩, hI, hF, (by intro v hv; cases hv; exact Or.inl ⟨by omega, rfl⟩), (by intro v hv; cases hv; have qc0 : ((-1) : Int32).toInt = (-1) := (by decide); omega)⟩

set_option maxRecDepth 100000 in
set_option maxHeartbeats 4000000 in
theorem x_X3_go (d : Nat) (f : zM) (m0 : Nat) (h0 : m0 < zcnt 6) (m1 : Nat) (h1 : m1 < zcnt 11) (a2 : Int32) (b2 : zB a2 0 255) (hI : zInv f) : ZM (d + 1) yX3_go cX3_go 3 none [zr 6 m0, zr 11 m1, zi a2] f (fun r g => r = none ∧ zInv g ∧ zFr [(6, some 1), (6, some 4), (6, some 5), (6, some 6)] f g ∧ ((∀ a b c, ¬ (a = 6 ∧ b = m0 ∧ (c = 1 ∨ c = 4 ∨ c = 5 ∨ c = 6)) → g a b c = f a b c)) ∧ (g 6 m0 1 = f 11 m1 2) ∧ (zbo (g 6 m0 4) (¬ f 11 m1 7 &&& 1 = 0)) ∧ ((¬ f 11 m1 7 &&& 4 = 0 ∧ g 6 m0 5 = f 11 m1 1) ∨ (f 11 m1 7 &&& 4 = 0 ∧ g 6 m0 5 = -4)) ∧ ((¬ f 11 m1 7 &&& 2 = 0 ∧ g 6 m0 6 = a2) ∨ (f 11 m1 7 &&& 2 = 0 ∧ g 6 m0 6 = 255))) := by
  refine ZM.intro (by decide +kernel) (Nat.le_of_ble_eq_true rfl) ?_
  intro X C hr hn
  have hF : zFr [(6, some 1), (6, some 4), (6, some 5), (6, some 6)] f f := zFr.rf _ _
  show Z X 0 [some (zr 6 m0), some (zr 11 m1), some (zi a2)] [] f
  refine z_aload_n (pc := 0) C dX3_go_0 rfl ?_
  refine z_aload_n (pc := 1) C dX3_go_1 rfl ?_
  refine z_getI (pc := 2) C zf_X3_43 rfl rfl h1 dX3_go_2 ?_
  refine w_gp (fun v => v = f 11 m1 2) rfl (fun v2 q2 => ?_)
  have b2x : zB v2 0 5 := by rw [q2]; exact (hI 11 m1 2)
  refine z_putI (pc := 5) C zf_X3_18 zp_3_1 rfl rfl h0 dX3_go_5 ?_
  refine w_memy hI hF b2x rfl (fun g3 qm3 hI3 hF3 => ?_)
  refine z_aload_n (pc := 8) C dX3_go_8 rfl ?_
  refine z_aload_n (pc := 9) C dX3_go_9 rfl ?_
  refine z_iconst (pc := 10) (v := 1) C dX3_go_10 (by decide) ?_
  refine z_callV (pc := 11) C zk_X3_49 (x_X4_pledges _ _ m1 h1 1 (zB.wk (a' := 0) (b' := 7) (zB.of (x := 1) 1 (by decide)) (by decide) (by decide)) hI3) rfl rfl h1 rfl rfl (Nat.le_of_ble_eq_true rfl) dX3_go_11 (fun r4 g4 q4 => ?_)
  have qa4_1 : (1 : Int32).toInt = 1 := by decide
  obtain ⟨⟨v4, rfl, b4x⟩, hI4, hF4q, hp4_0⟩ := q4
  have hp4_0 := hp4_0 _ rfl
  obtain rfl := zFr_nil hF4q
  simp only [Option.toList, List.cons_append, List.nil_append]
  refine z_putZ (pc := 14) C zf_X3_21 zp_3_4 (z01 b4x) rfl rfl h0 dX3_go_14 ?_
  refine w_memy hI3 hF3 b4x rfl (fun g5 qm5 hI5 hF5 => ?_)
  refine z_aload_n (pc := 17) C dX3_go_17 rfl ?_
  refine z_aload_n (pc := 18) C dX3_go_18 rfl ?_
  refine z_iconst (pc := 19) (v := 4) C dX3_go_19 (by decide) ?_
  refine z_callV (pc := 20) C zk_X3_49 (x_X4_pledges _ _ m1 h1 4 (zB.wk (a' := 0) (b' := 7) (zB.of (x := 4) 4 (by decide)) (by decide) (by decide)) hI5) rfl rfl h1 rfl rfl (Nat.le_of_ble_eq_true rfl) dX3_go_20 (fun r6 g6 q6 => ?_)
  have qa6_4 : (4 : Int32).toInt = 4 := by decide
  obtain ⟨⟨v6, rfl, b6x⟩, hI6, hF6q, hp6_0⟩ := q6
  have hp6_0 := hp6_0 _ rfl
  obtain rfl := zFr_nil hF6q
  simp only [Option.toList, List.cons_append, List.nil_append]
  refine z_if_eq (pc := 23) 33 C dX3_go_23 (by decide) (fun h23_6 => ?_) (fun h23_6 => ?_)
  · skip
    have b8x : zB v6 0 0 := by have q1 := b6x; have q2 := (zB.of (x := 0) 0 (by decide)); simp only [z32lt, z32le, z32eq, Int32.reduceToInt, Int32.toInt_zero] at h23_6; constructor <;> omega
    refine z_bipush (pc := 33) (v := -4) C dX3_go_33 (by decide) ?_
    refine z_putI (pc := 35) C zf_X3_9 zp_3_5 rfl rfl h0 dX3_go_35 ?_
    refine w_memy hI5 hF5 (zB.wk (a' := (-4)) (b' := 5) (zB.of (x := (-4)) (-4) (by decide)) (by decide) (by decide)) rfl (fun g9 qm9 hI9 hF9 => ?_)
    refine z_aload_n (pc := 38) C dX3_go_38 rfl ?_
    refine z_aload_n (pc := 39) C dX3_go_39 rfl ?_
    refine z_iconst (pc := 40) (v := 2) C dX3_go_40 (by decide) ?_
    refine z_callV (pc := 41) C zk_X3_49 (x_X4_pledges _ _ m1 h1 2 (zB.wk (a' := 0) (b' := 7) (zB.of (x := 2) 2 (by decide)) (by decide) (by decide)) hI9) rfl rfl h1 rfl rfl (Nat.le_of_ble_eq_true rfl) dX3_go_41 (fun r10 g10 q10 => ?_)
    have qa10_2 : (2 : Int32).toInt = 2 := by decide
    obtain ⟨⟨v10, rfl, b10x⟩, hI10, hF10q, hp10_0⟩ := q10
    have hp10_0 := hp10_0 _ rfl
    obtain rfl := zFr_nil hF10q
    simp only [Option.toList, List.cons_append, List.nil_append]
    refine z_if_eq (pc := 44) 51 C dX3_go_44 (by decide) (fun h44_10 => ?_) (fun h44_10 => ?_)
    · skip
      have b12x : zB v10 0 0 := by have q1 := b10x; have q2 := (zB.of (x := 0) 0 (by decide)); simp only [z32lt, z32le, z32eq, Int32.reduceToInt, Int32.toInt_zero] at h44_10; constructor <;> omega
      refine z_sipush (pc := 51) (v := 255) C dX3_go_51 (by decide) ?_
      refine z_putI (pc := 54) C zf_X3_15 zp_3_6 rfl rfl h0 dX3_go_54 ?_
      refine w_memy hI9 hF9 (zB.wk (a' := 0) (b' := 255) (zB.of (x := 255) 255 (by decide)) (by decide) (by decide)) rfl (fun g13 qm13 hI13 hF13 => ?_)
      exact z_vret (pc := 57) C hr dX3_go_57 ⟨rfl, hI13, hF13, (by
                                                                                          have e0 : ∀ a b c, ¬ (a = 6 ∧ b = m0 ∧ (c = 1 ∨ c = 4 ∨ c = 5 ∨ c = 6)) → g3 a b c = f a b c := fun a b c h => by rw [qm3, zup_ne _ _ (by omega)]
                                                                                          have e1 : ∀ a b c, ¬ (a = 6 ∧ b = m0 ∧ (c = 1 ∨ c = 4 ∨ c = 5 ∨ c = 6)) → g5 a b c = f a b c := fun a b c h => by rw [qm5, zup_ne _ _ (by omega)]; exact e0 a b c h
                                                                                          have e2 : ∀ a b c, ¬ (a = 6 ∧ b = m0 ∧ (c = 1 ∨ c = 4 ∨ c = 5 ∨ c = 6)) → g9 a b c = f a b c := fun a b c h => by rw [qm9, zup_ne _ _ (by omega)]; exact e1 a b c h
                                                                                          have e3 : ∀ a b c, ¬ (a = 6 ∧ b = m0 ∧ (c = 1 ∨ c = 4 ∨ c = 5 ∨ c = 6)) → g13 a b c = f a b c := fun a b c h => by rw [qm13, zup_ne _ _ (by omega)]; exact e2 a b c h
                                                                                          exact e3), (by
                                                                                          have e0 : ∀ a b c, ¬ (a = 6 ∧ b = m0 ∧ (c = 1 ∨ c = 4 ∨ c = 5 ∨ c = 6)) → g3 a b c = f a b c := fun a b c h => by rw [qm3, zup_ne _ _ (by omega)]
                                                                                          have e1 : ∀ a b c, ¬ (a = 6 ∧ b = m0 ∧ (c = 1 ∨ c = 4 ∨ c = 5 ∨ c = 6)) → g5 a b c = f a b c := fun a b c h => by rw [qm5, zup_ne _ _ (by omega)]; exact e0 a b c h
                                                                                          have e2 : ∀ a b c, ¬ (a = 6 ∧ b = m0 ∧ (c = 1 ∨ c = 4 ∨ c = 5 ∨ c = 6)) → g9 a b c = f a b c := fun a b c h => by rw [qm9, zup_ne _ _ (by omega)]; exact e1 a b c h
                                                                                          have e3 : ∀ a b c, ¬ (a = 6 ∧ b = m0 ∧ (c = 1 ∨ c = 4 ∨ c = 5 ∨ c = 6)) → g13 a b c = f a b c := fun a b c h => by rw [qm13, zup_ne _ _ (by omega)]; exact e2 a b c h
                                                                                          rw [qm13, zup_ne _ _ (by omega), qm9, zup_ne _ _ (by omega), qm5, zup_ne _ _ (by omega), qm3, zup_same]
                                                                                          exact q2), (by
                                                                                          have e0 : ∀ a b c, ¬ (a = 6 ∧ b = m0 ∧ (c = 1 ∨ c = 4 ∨ c = 5 ∨ c = 6)) → g3 a b c = f a b c := fun a b c h => by rw [qm3, zup_ne _ _ (by omega)]
                                                                                          have e1 : ∀ a b c, ¬ (a = 6 ∧ b = m0 ∧ (c = 1 ∨ c = 4 ∨ c = 5 ∨ c = 6)) → g5 a b c = f a b c := fun a b c h => by rw [qm5, zup_ne _ _ (by omega)]; exact e0 a b c h
                                                                                          have e2 : ∀ a b c, ¬ (a = 6 ∧ b = m0 ∧ (c = 1 ∨ c = 4 ∨ c = 5 ∨ c = 6)) → g9 a b c = f a b c := fun a b c h => by rw [qm9, zup_ne _ _ (by omega)]; exact e1 a b c h
                                                                                          have e3 : ∀ a b c, ¬ (a = 6 ∧ b = m0 ∧ (c = 1 ∨ c = 4 ∨ c = 5 ∨ c = 6)) → g13 a b c = f a b c := fun a b c h => by rw [qm13, zup_ne _ _ (by omega)]; exact e2 a b c h
                                                                                          have h := hp4_0
                                                                                          rw [e0 11 m1 7 (by omega)] at h
                                                                                          rw [qm13, zup_ne _ _ (by omega), qm9, zup_ne _ _ (by omega), qm5, zup_same]
                                                                                          exact h), (by
                                                                                          have e0 : ∀ a b c, ¬ (a = 6 ∧ b = m0 ∧ (c = 1 ∨ c = 4 ∨ c = 5 ∨ c = 6)) → g3 a b c = f a b c := fun a b c h => by rw [qm3, zup_ne _ _ (by omega)]
                                                                                          have e1 : ∀ a b c, ¬ (a = 6 ∧ b = m0 ∧ (c = 1 ∨ c = 4 ∨ c = 5 ∨ c = 6)) → g5 a b c = f a b c := fun a b c h => by rw [qm5, zup_ne _ _ (by omega)]; exact e0 a b c h
                                                                                          have e2 : ∀ a b c, ¬ (a = 6 ∧ b = m0 ∧ (c = 1 ∨ c = 4 ∨ c = 5 ∨ c = 6)) → g9 a b c = f a b c := fun a b c h => by rw [qm9, zup_ne _ _ (by omega)]; exact e1 a b c h
                                                                                          have e3 : ∀ a b c, ¬ (a = 6 ∧ b = m0 ∧ (c = 1 ∨ c = 4 ∨ c = 5 ∨ c = 6)) → g13 a b c = f a b c := fun a b c h => by rw [qm13, zup_ne _ _ (by omega)]; exact e2 a b c h
                                                                                          have h := hp6_0
                                                                                          rw [e1 11 m1 7 (by omega)] at h
                                                                                          rw [qm13, zup_ne _ _ (by omega), qm9, zup_same]
                                                                                          first
                                                                                            | exact Or.inr ⟨Classical.byContradiction (zbo_n h (by omega)), rfl⟩), (by
                                                                                          have e0 : ∀ a b c, ¬ (a = 6 ∧ b = m0 ∧ (c = 1 ∨ c = 4 ∨ c = 5 ∨ c = 6)) → g3 a b c = f a b c := fun a b c h => by rw [qm3, zup_ne _ _ (by omega)]
                                                                                          have e1 : ∀ a b c, ¬ (a = 6 ∧ b = m0 ∧ (c = 1 ∨ c = 4 ∨ c = 5 ∨ c = 6)) → g5 a b c = f a b c := fun a b c h => by rw [qm5, zup_ne _ _ (by omega)]; exact e0 a b c h
                                                                                          have e2 : ∀ a b c, ¬ (a = 6 ∧ b = m0 ∧ (c = 1 ∨ c = 4 ∨ c = 5 ∨ c = 6)) → g9 a b c = f a b c := fun a b c h => by rw [qm9, zup_ne _ _ (by omega)]; exact e1 a b c h
                                                                                          have e3 : ∀ a b c, ¬ (a = 6 ∧ b = m0 ∧ (c = 1 ∨ c = 4 ∨ c = 5 ∨ c = 6)) → g13 a b c = f a b c := fun a b c h => by rw [qm13, zup_ne _ _ (by omega)]; exact e2 a b c h
                                                                                          have h := hp10_0
                                                                                          rw [e2 11 m1 7 (by omega)] at h
                                                                                          rw [qm13, zup_same]
                                                                                          first
                                                                                            | exact Or.inl ⟨zbo_y h (by omega), rfl⟩
                                                                                            | exact Or.inr ⟨Classical.byContradiction (zbo_n h (by omega)), rfl⟩)⟩
    · skip
      have b14x : zB v10 1 1 := by have q1 := b10x; have q2 := (zB.of (x := 0) 0 (by decide)); simp only [z32lt, z32le, z32eq, Int32.reduceToInt, Int32.toInt_zero] at h44_10; constructor <;> omega
      refine z_iload_n (pc := 47) C dX3_go_47 rfl ?_
      refine z_goto (pc := 48) 54 C dX3_go_48 (by decide) ?_
      refine z_putI (pc := 54) C zf_X3_15 zp_3_6 rfl rfl h0 dX3_go_54 ?_
      refine w_memy hI9 hF9 b2 rfl (fun g15 qm15 hI15 hF15 => ?_)
      exact z_vret (pc := 57) C hr dX3_go_57 ⟨rfl, hI15, hF15, (by
                                                                                          have e0 : ∀ a b c, ¬ (a = 6 ∧ b = m0 ∧ (c = 1 ∨ c = 4 ∨ c = 5 ∨ c = 6)) → g3 a b c = f a b c := fun a b c h => by rw [qm3, zup_ne _ _ (by omega)]
                                                                                          have e1 : ∀ a b c, ¬ (a = 6 ∧ b = m0 ∧ (c = 1 ∨ c = 4 ∨ c = 5 ∨ c = 6)) → g5 a b c = f a b c := fun a b c h => by rw [qm5, zup_ne _ _ (by omega)]; exact e0 a b c h
                                                                                          have e2 : ∀ a b c, ¬ (a = 6 ∧ b = m0 ∧ (c = 1 ∨ c = 4 ∨ c = 5 ∨ c = 6)) → g9 a b c = f a b c := fun a b c h => by rw [qm9, zup_ne _ _ (by omega)]; exact e1 a b c h
                                                                                          have e3 : ∀ a b c, ¬ (a = 6 ∧ b = m0 ∧ (c = 1 ∨ c = 4 ∨ c = 5 ∨ c = 6)) → g15 a b c = f a b c := fun a b c h => by rw [qm15, zup_ne _ _ (by omega)]; exact e2 a b c h
                                                                                          exact e3), (by
                                                                                          have e0 : ∀ a b c, ¬ (a = 6 ∧ b = m0 ∧ (c = 1 ∨ c = 4 ∨ c = 5 ∨ c = 6)) → g3 a b c = f a b c := fun a b c h => by rw [qm3, zup_ne _ _ (by omega)]
                                                                                          have e1 : ∀ a b c, ¬ (a = 6 ∧ b = m0 ∧ (c = 1 ∨ c = 4 ∨ c = 5 ∨ c = 6)) → g5 a b c = f a b c := fun a b c h => by rw [qm5, zup_ne _ _ (by omega)]; exact e0 a b c h
                                                                                          have e2 : ∀ a b c, ¬ (a = 6 ∧ b = m0 ∧ (c = 1 ∨ c = 4 ∨ c = 5 ∨ c = 6)) → g9 a b c = f a b c := fun a b c h => by rw [qm9, zup_ne _ _ (by omega)]; exact e1 a b c h
                                                                                          have e3 : ∀ a b c, ¬ (a = 6 ∧ b = m0 ∧ (c = 1 ∨ c = 4 ∨ c = 5 ∨ c = 6)) → g15 a b c = f a b c := fun a b c h => by rw [qm15, zup_ne _ _ (by omega)]; exact e2 a b c h
                                                                                          rw [qm15, zup_ne _ _ (by omega), qm9, zup_ne _ _ (by omega), qm5, zup_ne _ _ (by omega), qm3, zup_same]
                                                                                          exact q2), (by
                                                                                          have e0 : ∀ a b c, ¬ (a = 6 ∧ b = m0 ∧ (c = 1 ∨ c = 4 ∨ c = 5 ∨ c = 6)) → g3 a b c = f a b c := fun a b c h => by rw [qm3, zup_ne _ _ (by omega)]
                                                                                          have e1 : ∀ a b c, ¬ (a = 6 ∧ b = m0 ∧ (c = 1 ∨ c = 4 ∨ c = 5 ∨ c = 6)) → g5 a b c = f a b c := fun a b c h => by rw [qm5, zup_ne _ _ (by omega)]; exact e0 a b c h
                                                                                          have e2 : ∀ a b c, ¬ (a = 6 ∧ b = m0 ∧ (c = 1 ∨ c = 4 ∨ c = 5 ∨ c = 6)) → g9 a b c = f a b c := fun a b c h => by rw [qm9, zup_ne _ _ (by omega)]; exact e1 a b c h
                                                                                          have e3 : ∀ a b c, ¬ (a = 6 ∧ b = m0 ∧ (c = 1 ∨ c = 4 ∨ c = 5 ∨ c = 6)) → g15 a b c = f a b c := fun a b c h => by rw [qm15, zup_ne _ _ (by omega)]; exact e2 a b c h
                                                                                          have h := hp4_0
                                                                                          rw [e0 11 m1 7 (by omega)] at h
                                                                                          rw [qm15, zup_ne _ _ (by omega), qm9, zup_ne _ _ (by omega), qm5, zup_same]
                                                                                          exact h), (by
                                                                                          have e0 : ∀ a b c, ¬ (a = 6 ∧ b = m0 ∧ (c = 1 ∨ c = 4 ∨ c = 5 ∨ c = 6)) → g3 a b c = f a b c := fun a b c h => by rw [qm3, zup_ne _ _ (by omega)]
                                                                                          have e1 : ∀ a b c, ¬ (a = 6 ∧ b = m0 ∧ (c = 1 ∨ c = 4 ∨ c = 5 ∨ c = 6)) → g5 a b c = f a b c := fun a b c h => by rw [qm5, zup_ne _ _ (by omega)]; exact e0 a b c h
                                                                                          have e2 : ∀ a b c, ¬ (a = 6 ∧ b = m0 ∧ (c = 1 ∨ c = 4 ∨ c = 5 ∨ c = 6)) → g9 a b c = f a b c := fun a b c h => by rw [qm9, zup_ne _ _ (by omega)]; exact e1 a b c h
                                                                                          have e3 : ∀ a b c, ¬ (a = 6 ∧ b = m0 ∧ (c = 1 ∨ c = 4 ∨ c = 5 ∨ c = 6)) → g15 a b c = f a b c := fun a b c h => by rw [qm15, zup_ne _ _ (by omega)]; exact e2 a b c h
                                                                                          have h := hp6_0
                                                                                          rw [e1 11 m1 7 (by omega)] at h
                                                                                          rw [qm15, zup_ne _ _ (by omega), qm9, zup_same]
                                                                                          first
                                                                                            | exact Or.inr ⟨Classical.byContradiction (zbo_n h (by omega)), rfl⟩), (by
                                                                                          have e0 : ∀ a b c, ¬ (a = 6 ∧ b = m0 ∧ (c = 1 ∨ c = 4 ∨ c = 5 ∨ c = 6)) → g3 a b c = f a b c := fun a b c h => by rw [qm3, zup_ne _ _ (by omega)]
                                                                                          have e1 : ∀ a b c, ¬ (a = 6 ∧ b = m0 ∧ (c = 1 ∨ c = 4 ∨ c = 5 ∨ c = 6)) → g5 a b c = f a b c := fun a b c h => by rw [qm5, zup_ne _ _ (by omega)]; exact e0 a b c h
                                                                                          have e2 : ∀ a b c, ¬ (a = 6 ∧ b = m0 ∧ (c = 1 ∨ c = 4 ∨ c = 5 ∨ c = 6)) → g9 a b c = f a b c := fun a b c h => by rw [qm9, zup_ne _ _ (by omega)]; exact e1 a b c h
                                                                                          have e3 : ∀ a b c, ¬ (a = 6 ∧ b = m0 ∧ (c = 1 ∨ c = 4 ∨ c = 5 ∨ c = 6)) → g15 a b c = f a b c := fun a b c h => by rw [qm15, zup_ne _ _ (by omega)]; exact e2 a b c h
                                                                                          have h := hp10_0
                                                                                          rw [e2 11 m1 7 (by omega)] at h
                                                                                          rw [qm15, zup_same]
                                                                                          first
                                                                                            | exact Or.inl ⟨zbo_y h (by omega), rfl⟩
                                                                                            | exact Or.inr ⟨Classical.byContradiction (zbo_n h (by omega)), rfl⟩)⟩
  · skip
    have b16x : zB v6 1 1 := by have q1 := b6x; have q2 := (zB.of (x := 0) 0 (by decide)); simp only [z32lt, z32le, z32eq, Int32.reduceToInt, Int32.toInt_zero] at h23_6; constructor <;> omega
    refine z_aload_n (pc := 26) C dX3_go_26 rfl ?_
    refine z_getI (pc := 27) C zf_X3_38 rfl rfl h1 dX3_go_27 ?_
    refine w_gp (fun v => v = g5 11 m1 1) rfl (fun v18 q18 => ?_)
    have b18x : zB v18 0 5 := by rw [q18]; exact (hI5 11 m1 1)
    refine z_goto (pc := 30) 35 C dX3_go_30 (by decide) ?_
    refine z_putI (pc := 35) C zf_X3_9 zp_3_5 rfl rfl h0 dX3_go_35 ?_
    refine w_memy hI5 hF5 (zB.wk (a' := (-4)) (b' := 5) b18x (by decide) (by decide)) rfl (fun g19 qm19 hI19 hF19 => ?_)
    refine z_aload_n (pc := 38) C dX3_go_38 rfl ?_
    refine z_aload_n (pc := 39) C dX3_go_39 rfl ?_
    refine z_iconst (pc := 40) (v := 2) C dX3_go_40 (by decide) ?_
    refine z_callV (pc := 41) C zk_X3_49 (x_X4_pledges _ _ m1 h1 2 (zB.wk (a' := 0) (b' := 7) (zB.of (x := 2) 2 (by decide)) (by decide) (by decide)) hI19) rfl rfl h1 rfl rfl (Nat.le_of_ble_eq_true rfl) dX3_go_41 (fun r20 g20 q20 => ?_)
    have qa20_2 : (2 : Int32).toInt = 2 := by decide
    obtain ⟨⟨v20, rfl, b20x⟩, hI20, hF20q, hp20_0⟩ := q20
    have hp20_0 := hp20_0 _ rfl
    obtain rfl := zFr_nil hF20q
    simp only [Option.toList, List.cons_append, List.nil_append]
    refine z_if_eq (pc := 44) 51 C dX3_go_44 (by decide) (fun h44_20 => ?_) (fun h44_20 => ?_)
    · skip
      have b22x : zB v20 0 0 := by have q1 := b20x; have q2 := (zB.of (x := 0) 0 (by decide)); simp only [z32lt, z32le, z32eq, Int32.reduceToInt, Int32.toInt_zero] at h44_20; constructor <;> omega
      refine z_sipush (pc := 51) (v := 255) C dX3_go_51 (by decide) ?_
      refine z_putI (pc := 54) C zf_X3_15 zp_3_6 rfl rfl h0 dX3_go_54 ?_
      refine w_memy hI19 hF19 (zB.wk (a' := 0) (b' := 255) (zB.of (x := 255) 255 (by decide)) (by decide) (by decide)) rfl (fun g23 qm23 hI23 hF23 => ?_)
      exact z_vret (pc := 57) C hr dX3_go_57 ⟨rfl, hI23, hF23, (by
                                                                                          have e0 : ∀ a b c, ¬ (a = 6 ∧ b = m0 ∧ (c = 1 ∨ c = 4 ∨ c = 5 ∨ c = 6)) → g3 a b c = f a b c := fun a b c h => by rw [qm3, zup_ne _ _ (by omega)]
                                                                                          have e1 : ∀ a b c, ¬ (a = 6 ∧ b = m0 ∧ (c = 1 ∨ c = 4 ∨ c = 5 ∨ c = 6)) → g5 a b c = f a b c := fun a b c h => by rw [qm5, zup_ne _ _ (by omega)]; exact e0 a b c h
                                                                                          have e2 : ∀ a b c, ¬ (a = 6 ∧ b = m0 ∧ (c = 1 ∨ c = 4 ∨ c = 5 ∨ c = 6)) → g19 a b c = f a b c := fun a b c h => by rw [qm19, zup_ne _ _ (by omega)]; exact e1 a b c h
                                                                                          have e3 : ∀ a b c, ¬ (a = 6 ∧ b = m0 ∧ (c = 1 ∨ c = 4 ∨ c = 5 ∨ c = 6)) → g23 a b c = f a b c := fun a b c h => by rw [qm23, zup_ne _ _ (by omega)]; exact e2 a b c h
                                                                                          exact e3), (by
                                                                                          have e0 : ∀ a b c, ¬ (a = 6 ∧ b = m0 ∧ (c = 1 ∨ c = 4 ∨ c = 5 ∨ c = 6)) → g3 a b c = f a b c := fun a b c h => by rw [qm3, zup_ne _ _ (by omega)]
                                                                                          have e1 : ∀ a b c, ¬ (a = 6 ∧ b = m0 ∧ (c = 1 ∨ c = 4 ∨ c = 5 ∨ c = 6)) → g5 a b c = f a b c := fun a b c h => by rw [qm5, zup_ne _ _ (by omega)]; exact e0 a b c h
                                                                                          have e2 : ∀ a b c, ¬ (a = 6 ∧ b = m0 ∧ (c = 1 ∨ c = 4 ∨ c = 5 ∨ c = 6)) → g19 a b c = f a b c := fun a b c h => by rw [qm19, zup_ne _ _ (by omega)]; exact e1 a b c h
                                                                                          have e3 : ∀ a b c, ¬ (a = 6 ∧ b = m0 ∧ (c = 1 ∨ c = 4 ∨ c = 5 ∨ c = 6)) → g23 a b c = f a b c := fun a b c h => by rw [qm23, zup_ne _ _ (by omega)]; exact e2 a b c h
                                                                                          rw [qm23, zup_ne _ _ (by omega), qm19, zup_ne _ _ (by omega), qm5, zup_ne _ _ (by omega), qm3, zup_same]
                                                                                          exact q2), (by
                                                                                          have e0 : ∀ a b c, ¬ (a = 6 ∧ b = m0 ∧ (c = 1 ∨ c = 4 ∨ c = 5 ∨ c = 6)) → g3 a b c = f a b c := fun a b c h => by rw [qm3, zup_ne _ _ (by omega)]
                                                                                          have e1 : ∀ a b c, ¬ (a = 6 ∧ b = m0 ∧ (c = 1 ∨ c = 4 ∨ c = 5 ∨ c = 6)) → g5 a b c = f a b c := fun a b c h => by rw [qm5, zup_ne _ _ (by omega)]; exact e0 a b c h
                                                                                          have e2 : ∀ a b c, ¬ (a = 6 ∧ b = m0 ∧ (c = 1 ∨ c = 4 ∨ c = 5 ∨ c = 6)) → g19 a b c = f a b c := fun a b c h => by rw [qm19, zup_ne _ _ (by omega)]; exact e1 a b c h
                                                                                          have e3 : ∀ a b c, ¬ (a = 6 ∧ b = m0 ∧ (c = 1 ∨ c = 4 ∨ c = 5 ∨ c = 6)) → g23 a b c = f a b c := fun a b c h => by rw [qm23, zup_ne _ _ (by omega)]; exact e2 a b c h
                                                                                          have h := hp4_0
                                                                                          rw [e0 11 m1 7 (by omega)] at h
                                                                                          rw [qm23, zup_ne _ _ (by omega), qm19, zup_ne _ _ (by omega), qm5, zup_same]
                                                                                          exact h), (by
                                                                                          have e0 : ∀ a b c, ¬ (a = 6 ∧ b = m0 ∧ (c = 1 ∨ c = 4 ∨ c = 5 ∨ c = 6)) → g3 a b c = f a b c := fun a b c h => by rw [qm3, zup_ne _ _ (by omega)]
                                                                                          have e1 : ∀ a b c, ¬ (a = 6 ∧ b = m0 ∧ (c = 1 ∨ c = 4 ∨ c = 5 ∨ c = 6)) → g5 a b c = f a b c := fun a b c h => by rw [qm5, zup_ne _ _ (by omega)]; exact e0 a b c h
                                                                                          have e2 : ∀ a b c, ¬ (a = 6 ∧ b = m0 ∧ (c = 1 ∨ c = 4 ∨ c = 5 ∨ c = 6)) → g19 a b c = f a b c := fun a b c h => by rw [qm19, zup_ne _ _ (by omega)]; exact e1 a b c h
                                                                                          have e3 : ∀ a b c, ¬ (a = 6 ∧ b = m0 ∧ (c = 1 ∨ c = 4 ∨ c = 5 ∨ c = 6)) → g23 a b c = f a b c := fun a b c h => by rw [qm23, zup_ne _ _ (by omega)]; exact e2 a b c h
                                                                                          have h := hp6_0
                                                                                          rw [e1 11 m1 7 (by omega)] at h
                                                                                          rw [qm23, zup_ne _ _ (by omega), qm19, zup_same]
                                                                                          have r27 := q18
                                                                                          rw [e1 11 m1 1 (by omega)] at r27
                                                                                          first
                                                                                            | exact Or.inl ⟨zbo_y h (by omega), r27⟩
                                                                                            | exact Or.inr ⟨Classical.byContradiction (zbo_n h (by omega)), rfl⟩), (by
                                                                                          have e0 : ∀ a b c, ¬ (a = 6 ∧ b = m0 ∧ (c = 1 ∨ c = 4 ∨ c = 5 ∨ c = 6)) → g3 a b c = f a b c := fun a b c h => by rw [qm3, zup_ne _ _ (by omega)]
                                                                                          have e1 : ∀ a b c, ¬ (a = 6 ∧ b = m0 ∧ (c = 1 ∨ c = 4 ∨ c = 5 ∨ c = 6)) → g5 a b c = f a b c := fun a b c h => by rw [qm5, zup_ne _ _ (by omega)]; exact e0 a b c h
                                                                                          have e2 : ∀ a b c, ¬ (a = 6 ∧ b = m0 ∧ (c = 1 ∨ c = 4 ∨ c = 5 ∨ c = 6)) → g19 a b c = f a b c := fun a b c h => by rw [qm19, zup_ne _ _ (by omega)]; exact e1 a b c h
                                                                                          have e3 : ∀ a b c, ¬ (a = 6 ∧ b = m0 ∧ (c = 1 ∨ c = 4 ∨ c = 5 ∨ c = 6)) → g23 a b c = f a b c := fun a b c h => by rw [qm23, zup_ne _ _ (by omega)]; exact e2 a b c h
                                                                                          have h := hp20_0
                                                                                          rw [e2 11 m1 7 (by omega)] at h
                                                                                          rw [qm23, zup_same]
                                                                                          first
                                                                                            | exact Or.inl ⟨zbo_y h (by omega), rfl⟩
                                                                                            | exact Or.inr ⟨Classical.byContradiction (zbo_n h (by omega)), rfl⟩)⟩
    · skip
      have b24x : zB v20 1 1 := by have q1 := b20x; have q2 := (zB.of (x := 0) 0 (by decide)); simp only [z32lt, z32le, z32eq, Int32.reduceToInt, Int32.toInt_zero] at h44_20; constructor <;> omega
      refine z_iload_n (pc := 47) C dX3_go_47 rfl ?_
      refine z_goto (pc := 48) 54 C dX3_go_48 (by decide) ?_
      refine z_putI (pc := 54) C zf_X3_15 zp_3_6 rfl rfl h0 dX3_go_54 ?_
      refine w_memy hI19 hF19 b2 rfl (fun g25 qm25 hI25 hF25 => ?_)
      exact z_vret (pc := 57) C hr dX3_go_57 ⟨rfl, hI25, hF25, (by
                                                                                          have e0 : ∀ a b c, ¬ (a = 6 ∧ b = m0 ∧ (c = 1 ∨ c = 4 ∨ c = 5 ∨ c = 6)) → g3 a b c = f a b c := fun a b c h => by rw [qm3, zup_ne _ _ (by omega)]
                                                                                          have e1 : ∀ a b c, ¬ (a = 6 ∧ b = m0 ∧ (c = 1 ∨ c = 4 ∨ c = 5 ∨ c = 6)) → g5 a b c = f a b c := fun a b c h => by rw [qm5, zup_ne _ _ (by omega)]; exact e0 a b c h
                                                                                          have e2 : ∀ a b c, ¬ (a = 6 ∧ b = m0 ∧ (c = 1 ∨ c = 4 ∨ c = 5 ∨ c = 6)) → g19 a b c = f a b c := fun a b c h => by rw [qm19, zup_ne _ _ (by omega)]; exact e1 a b c h
                                                                                          have e3 : ∀ a b c, ¬ (a = 6 ∧ b = m0 ∧ (c = 1 ∨ c = 4 ∨ c = 5 ∨ c = 6)) → g25 a b c = f a b c := fun a b c h => by rw [qm25, zup_ne _ _ (by omega)]; exact e2 a b c h
                                                                                          exact e3), (by
                                                                                          have e0 : ∀ a b c, ¬ (a = 6 ∧ b = m0 ∧ (c = 1 ∨ c = 4 ∨ c = 5 ∨ c = 6)) → g3 a b c = f a b c := fun a b c h => by rw [qm3, zup_ne _ _ (by omega)]
                                                                                          have e1 : ∀ a b c, ¬ (a = 6 ∧ b = m0 ∧ (c = 1 ∨ c = 4 ∨ c = 5 ∨ c = 6)) → g5 a b c = f a b c := fun a b c h => by rw [qm5, zup_ne _ _ (by omega)]; exact e0 a b c h
                                                                                          have e2 : ∀ a b c, ¬ (a = 6 ∧ b = m0 ∧ (c = 1 ∨ c = 4 ∨ c = 5 ∨ c = 6)) → g19 a b c = f a b c := fun a b c h => by rw [qm19, zup_ne _ _ (by omega)]; exact e1 a b c h
                                                                                          have e3 : ∀ a b c, ¬ (a = 6 ∧ b = m0 ∧ (c = 1 ∨ c = 4 ∨ c = 5 ∨ c = 6)) → g25 a b c = f a b c := fun a b c h => by rw [qm25, zup_ne _ _ (by omega)]; exact e2 a b c h
                                                                                          rw [qm25, zup_ne _ _ (by omega), qm19, zup_ne _ _ (by omega), qm5, zup_ne _ _ (by omega), qm3, zup_same]
                                                                                          exact q2), (by
                                                                                          have e0 : ∀ a b c, ¬ (a = 6 ∧ b = m0 ∧ (c = 1 ∨ c = 4 ∨ c = 5 ∨ c = 6)) → g3 a b c = f a b c := fun a b c h => by rw [qm3, zup_ne _ _ (by omega)]
                                                                                          have e1 : ∀ a b c, ¬ (a = 6 ∧ b = m0 ∧ (c = 1 ∨ c = 4 ∨ c = 5 ∨ c = 6)) → g5 a b c = f a b c := fun a b c h => by rw [qm5, zup_ne _ _ (by omega)]; exact e0 a b c h
                                                                                          have e2 : ∀ a b c, ¬ (a = 6 ∧ b = m0 ∧ (c = 1 ∨ c = 4 ∨ c = 5 ∨ c = 6)) → g19 a b c = f a b c := fun a b c h => by rw [qm19, zup_ne _ _ (by omega)]; exact e1 a b c h
                                                                                          have e3 : ∀ a b c, ¬ (a = 6 ∧ b = m0 ∧ (c = 1 ∨ c = 4 ∨ c = 5 ∨ c = 6)) → g25 a b c = f a b c := fun a b c h => by rw [qm25, zup_ne _ _ (by omega)]; exact e2 a b c h
                                                                                          have h := hp4_0
                                                                                          rw [e0 11 m1 7 (by omega)] at h
                                                                                          rw [qm25, zup_ne _ _ (by omega), qm19, zup_ne _ _ (by omega), qm5, zup_same]
                                                                                          exact h), (by
                                                                                          have e0 : ∀ a b c, ¬ (a = 6 ∧ b = m0 ∧ (c = 1 ∨ c = 4 ∨ c = 5 ∨ c = 6)) → g3 a b c = f a b c := fun a b c h => by rw [qm3, zup_ne _ _ (by omega)]
                                                                                          have e1 : ∀ a b c, ¬ (a = 6 ∧ b = m0 ∧ (c = 1 ∨ c = 4 ∨ c = 5 ∨ c = 6)) → g5 a b c = f a b c := fun a b c h => by rw [qm5, zup_ne _ _ (by omega)]; exact e0 a b c h
                                                                                          have e2 : ∀ a b c, ¬ (a = 6 ∧ b = m0 ∧ (c = 1 ∨ c = 4 ∨ c = 5 ∨ c = 6)) → g19 a b c = f a b c := fun a b c h => by rw [qm19, zup_ne _ _ (by omega)]; exact e1 a b c h
                                                                                          have e3 : ∀ a b c, ¬ (a = 6 ∧ b = m0 ∧ (c = 1 ∨ c = 4 ∨ c = 5 ∨ c = 6)) → g25 a b c = f a b c := fun a b c h => by rw [qm25, zup_ne _ _ (by omega)]; exact e2 a b c h
                                                                                          have h := hp6_0
                                                                                          rw [e1 11 m1 7 (by omega)] at h
                                                                                          rw [qm25, zup_ne _ _ (by omega), qm19, zup_same]
                                                                                          have r27 := q18
                                                                                          rw [e1 11 m1 1 (by omega)] at r27
                                                                                          first
                                                                                            | exact Or.inl ⟨zbo_y h (by omega), r27⟩
                                                                                            | exact Or.inr ⟨Classical.byContradiction (zbo_n h (by omega)), rfl⟩), (by
                                                                                          have e0 : ∀ a b c, ¬ (a = 6 ∧ b = m0 ∧ (c = 1 ∨ c = 4 ∨ c = 5 ∨ c = 6)) → g3 a b c = f a b c := fun a b c h => by rw [qm3, zup_ne _ _ (by omega)]
                                                                                          have e1 : ∀ a b c, ¬ (a = 6 ∧ b = m0 ∧ (c = 1 ∨ c = 4 ∨ c = 5 ∨ c = 6)) → g5 a b c = f a b c := fun a b c h => by rw [qm5, zup_ne _ _ (by omega)]; exact e0 a b c h
                                                                                          have e2 : ∀ a b c, ¬ (a = 6 ∧ b = m0 ∧ (c = 1 ∨ c = 4 ∨ c = 5 ∨ c = 6)) → g19 a b c = f a b c := fun a b c h => by rw [qm19, zup_ne _ _ (by omega)]; exact e1 a b c h
                                                                                          have e3 : ∀ a b c, ¬ (a = 6 ∧ b = m0 ∧ (c = 1 ∨ c = 4 ∨ c = 5 ∨ c = 6)) → g25 a b c = f a b c := fun a b c h => by rw [qm25, zup_ne _ _ (by omega)]; exact e2 a b c h
                                                                                          have h := hp20_0
                                                                                          rw [e2 11 m1 7 (by omega)] at h
                                                                                          rw [qm25, zup_same]
                                                                                          first
                                                                                            | exact Or.inl ⟨zbo_y h (by omega), rfl⟩
                                                                                            | exact Or.inr ⟨Classical.byContradiction (zbo_n h (by omega)), rfl⟩)⟩

theorem zbf_B {P : Nat → Prop} {n : Nat} (hn : n ≤ 8) : 0 ≤ (zbf P n).toInt ∧ (zbf P n).toInt ≤ 255 := by
  have h := (zbits_lt (x := zbf P n) (k := 8) (by decide)).mpr (fun i hi hk => by
    cases q : bt (zbf P n) i
    · rfl
    · have := ((zbf_bit hi n (by omega)).mp q).1
      omega)
  exact ⟨h.1, by have := h.2; omega⟩

set_option maxRecDepth 100000 in
set_option maxHeartbeats 4000000 in
theorem x_X9_send (d : Nat) (f : zM) (a1 : Int32) (b1 : zB a1 (-2147483648) 2147483647) (hI : zInv f) : ZM (d + 4) yX9_send cX9_send 3 (some .int) [zr 0 0, zi a1] f (fun r g => (∃ v, r = some (zi v) ∧ zB v (-4) 255) ∧ zInv g ∧ zFr [(6, some 1), (6, some 3), (6, some 4), (6, some 5), (6, some 6), (11, some 8), (11, some 9)] f g ∧ (∀ v : Int32, r = some (zi v) → (¬ (0 ≤ a1.toInt ∧ a1.toInt < (f 1 0 7).toInt) ∧ v = -1 ∧ g = f) ∨ ((0 ≤ a1.toInt ∧ a1.toInt < (f 1 0 7).toInt) ∧ ¬ f 11 a1.toInt.toNat 1 = f 6 0 1 ∧ v = -2 ∧ g = f) ∨ ((0 ≤ a1.toInt ∧ a1.toInt < (f 1 0 7).toInt) ∧ f 11 a1.toInt.toNat 1 = f 6 0 1 ∧ zbf (fun i => (f 6 0 5 = -4 ∨ f 6 0 5 = f 11 a1.toInt.toNat 2) ∧ (zcx f a1.toInt.toNat i ∧ zbx f a1.toInt.toNat i = 0) ∧ bt (f 6 0 6) i = true ∧ (f 6 0 4 = 0 ∨ ¬ f 11 a1.toInt.toNat 7 &&& 1 = 0 ∨ ¬ bt (f 8 i 7) (f 11 a1.toInt.toNat 2).toInt.toNat = true)) (f 1 0 6).toInt.toNat = 0 ∧ v = -4 ∧ (∀ a b c, ¬ (a = 11 ∧ b = a1.toInt.toNat ∧ (c = 8 ∨ c = 9)) → g a b c = f a b c)) ∨ ((0 ≤ a1.toInt ∧ a1.toInt < (f 1 0 7).toInt) ∧ f 11 a1.toInt.toNat 1 = f 6 0 1 ∧ ¬ zbf (fun i => (f 6 0 5 = -4 ∨ f 6 0 5 = f 11 a1.toInt.toNat 2) ∧ (zcx f a1.toInt.toNat i ∧ zbx f a1.toInt.toNat i = 0) ∧ bt (f 6 0 6) i = true ∧ (f 6 0 4 = 0 ∨ ¬ f 11 a1.toInt.toNat 7 &&& 1 = 0 ∨ ¬ bt (f 8 i 7) (f 11 a1.toInt.toNat 2).toInt.toNat = true)) (f 1 0 6).toInt.toNat = 0 ∧ v = zbf (fun i => (f 6 0 5 = -4 ∨ f 6 0 5 = f 11 a1.toInt.toNat 2) ∧ (zcx f a1.toInt.toNat i ∧ zbx f a1.toInt.toNat i = 0) ∧ bt (f 6 0 6) i = true ∧ (f 6 0 4 = 0 ∨ ¬ f 11 a1.toInt.toNat 7 &&& 1 = 0 ∨ ¬ bt (f 8 i 7) (f 11 a1.toInt.toNat 2).toInt.toNat = true)) (f 1 0 6).toInt.toNat ∧ (∀ a b c, ¬ (a = 11 ∧ b = a1.toInt.toNat ∧ (c = 8 ∨ c = 9)) → ¬ (a = 6 ∧ b = 0 ∧ (c = 1 ∨ c = 3 ∨ c = 4 ∨ c = 5 ∨ c = 6)) → g a b c = f a b c) ∧ g 6 0 1 = f 11 a1.toInt.toNat 2 ∧ g 6 0 3 = f 6 0 3 + 1 ∧ zbo (g 6 0 4) (¬ f 11 a1.toInt.toNat 7 &&& 1 = 0) ∧ ((¬ f 11 a1.toInt.toNat 7 &&& 4 = 0 ∧ g 6 0 5 = f 11 a1.toInt.toNat 1) ∨ (f 11 a1.toInt.toNat 7 &&& 4 = 0 ∧ g 6 0 5 = -4)) ∧ ((¬ f 11 a1.toInt.toNat 7 &&& 2 = 0 ∧ g 6 0 6 = v) ∨ (f 11 a1.toInt.toNat 7 &&& 2 = 0 ∧ g 6 0 6 = 255))))) := by
  refine ZM.intro (by decide +kernel) (Nat.le_of_ble_eq_true rfl) ?_
  intro X C hr hn
  have hF : zFr [(6, some 1), (6, some 3), (6, some 4), (6, some 5), (6, some 6), (11, some 8), (11, some 9)] f f := zFr.rf _ _
  show Z X 0 [some (zr 0 0), some (zi a1), none] [] f
  refine z_aload_n (pc := 0) C dX9_send_0 rfl ?_
  refine z_iload_n (pc := 1) C dX9_send_1 rfl ?_
  refine z_callV (pc := 2) C zk_X9_269 (x_X9_lets _ _ a1 b1 hI) rfl rfl (by decide) rfl rfl (Nat.le_of_ble_eq_true rfl) dX9_send_2 (fun r1 g1 q1 => ?_)
  obtain ⟨⟨v1, rfl, b1x⟩, hI1, hF1q, hp1_0, hp1_1⟩ := q1
  have hp1_0 := hp1_0 _ rfl
  have hp1_1 := hp1_1 _ rfl
  have hF1 := zFr.tr hF hF1q (by decide)
  simp only [Option.toList, List.cons_append, List.nil_append]
  refine z_istore_n (pc := 5) C dX9_send_5 (by rw [hn]; decide) rfl ?_
  refine z_iload_n (pc := 6) C dX9_send_6 rfl ?_
  refine z_if_ge (pc := 7) 12 C dX9_send_7 (by decide) (fun h7_1 => ?_) (fun h7_1 => ?_)
  · skip
    have b3x : zB v1 0 255 := by have q1 := b1x; have q2 := (zB.of (x := 0) 0 (by decide)); simp only [z32lt, z32le, z32eq, Int32.reduceToInt, Int32.toInt_zero] at h7_1; constructor <;> omega
    have b4x : zB a1 0 11 := by first | assumption | (constructor <;> omega)
    refine z_iload_n (pc := 12) C dX9_send_12 rfl ?_
    refine z_if_ne (pc := 13) 19 C dX9_send_13 (by decide) (fun h13_4 => ?_) (fun h13_4 => ?_)
    · skip
      have b6x : zB v1 1 255 := by have q1 := b3x; have q2 := (zB.of (x := 0) 0 (by decide)); simp only [z32lt, z32le, z32eq, Int32.reduceToInt, Int32.toInt_zero] at h13_4; constructor <;> omega
      have b7x : zB a1 0 11 := by first | assumption | (constructor <;> omega)
      refine z_aload_n (pc := 19) C dX9_send_19 rfl ?_
      refine z_getR (pc := 20) C zf_X9_10 rfl rfl (by decide) dX9_send_20 ?_
      refine z_getR (pc := 23) C zf_X9_220 rfl rfl (by decide) dX9_send_23 ?_
      refine z_aload_n (pc := 26) C dX9_send_26 rfl ?_
      refine z_getR (pc := 27) C zf_X9_10 rfl rfl (by decide) dX9_send_27 ?_
      refine z_getR (pc := 30) C zf_X9_90 rfl rfl (by decide) dX9_send_30 ?_
      refine z_iload_n (pc := 33) C dX9_send_33 rfl ?_
      refine z_aald (pc := 34) C rfl ⟨rfl, by decide⟩ (by decide) (zIx b7x (by decide) (by decide)) dX9_send_34 ?_
      refine w_grx (by have hq := zN b7x (by decide); show 12 * 0 + a1.toNatClampNeg < 36; omega) (fun m8 q8r h8x => ?_)
      have q8r : m8 = 12 * 0 + a1.toNatClampNeg := q8r
      have k8r : a1.toNatClampNeg = a1.toInt.toNat := rfl
      refine z_iload_n (pc := 35) C dX9_send_35 rfl ?_
      refine z_callV (pc := 36) C zk_X9_272 (x_X3_go _ _ 0 (by decide) m8 h8x v1 (zB.wk (a' := 0) (b' := 255) b6x (by decide) (by decide)) hI1) rfl rfl (by decide) rfl rfl (Nat.le_of_ble_eq_true rfl) dX9_send_36 (fun r9 g9 q9 => ?_)
      obtain ⟨rfl, hI9, hF9q, hp9_0, hp9_1, hp9_2, hp9_3, hp9_4⟩ := q9
      have hF9 := zFr.tr hF1 hF9q (by decide)
      simp only [Option.toList, List.cons_append, List.nil_append]
      refine z_aload_n (pc := 39) C dX9_send_39 rfl ?_
      refine z_getR (pc := 40) C zf_X9_10 rfl rfl (by decide) dX9_send_40 ?_
      refine z_getR (pc := 43) C zf_X9_220 rfl rfl (by decide) dX9_send_43 ?_
      refine z_dupr (pc := 46) C dX9_send_46 ?_
      refine z_getI (pc := 47) C zf_X9_224 rfl rfl (by decide) dX9_send_47 ?_
      refine w_gp (fun v => v = g9 6 0 3) rfl (fun v11 q11 => ?_)
      have b11x : zB v11 (-2147483648) 2147483647 := by rw [q11]; exact (hI9 6 0 3)
      refine z_iconst (pc := 50) (v := 1) C dX9_send_50 (by decide) ?_
      refine z_iadd (pc := 51) C dX9_send_51 ?_
      refine w_gp (fun v => v = v11 + (1 : Int32)) rfl (fun v12 q12 => ?_)
      refine z_putI (pc := 52) C zf_X9_224 zp_3_3 rfl rfl (by decide) dX9_send_52 ?_
      refine w_memy hI9 hF9 (zB_any v12) rfl (fun g13 qm13 hI13 hF13 => ?_)
      refine z_iload_n (pc := 55) C dX9_send_55 rfl ?_
      exact z_iret (pc := 56) C hr dX9_send_56 ⟨⟨_, rfl, (zB.wk (a' := (-4)) (b' := 255) b6x (by decide) (by decide))⟩, hI13, hF13, (by
                                                                                          intro v hv; cases hv
                                                                                          have b8 : (f 1 0 6).toInt ≤ 8 := (hI 1 0 6).2
                                                                                          have hB := zbf_B (P := (fun i => (f 6 0 5 = -4 ∨ f 6 0 5 = f 11 a1.toInt.toNat 2) ∧ (zcx f a1.toInt.toNat i ∧ zbx f a1.toInt.toNat i = 0) ∧ bt (f 6 0 6) i = true ∧ (f 6 0 4 = 0 ∨ ¬ f 11 a1.toInt.toNat 7 &&& 1 = 0 ∨ ¬ bt (f 8 i 7) (f 11 a1.toInt.toNat 2).toInt.toNat = true))) (n := (f 1 0 6).toInt.toNat) (by omega)
                                                                                          have c1 : (-1 : Int32).toInt = -1 := by decide
                                                                                          have c2 : (-2 : Int32).toInt = -2 := by decide
                                                                                          rcases hp1_0 with ⟨h1, h2, h3⟩ | ⟨h1, h2, h3, h4⟩ | ⟨h1, h2, h3, h4⟩
                                                                                          · exfalso; rw [z32eq] at h2; first | omega | (simp only [z32eq, Int32.reduceToInt, Int32.toInt_zero, Int32.toInt_one] at *; omega)
                                                                                          · exfalso; rw [z32eq] at h3; first | omega | (simp only [z32eq, Int32.reduceToInt, Int32.toInt_zero, Int32.toInt_one] at *; omega)
                                                                                          · have hd : m8 = a1.toInt.toNat := by omega
                                                                                            have g0 := hp9_0
                                                                                            have g1 := hp9_1
                                                                                            have g2 := hp9_2
                                                                                            have g3 := hp9_3
                                                                                            have g4 := hp9_4
                                                                                            rw [hd, h4 11 _ 2 (by omega)] at g1
                                                                                            rw [hd, h4 11 _ 7 (by omega)] at g2 g3 g4
                                                                                            rw [h4 11 _ 1 (by omega)] at g3
                                                                                            have r47 := q11
                                                                                            rw [g0 6 0 3 (by omega), h4 6 0 3 (by omega)] at r47
                                                                                            refine Or.inr (Or.inr (Or.inr ⟨h1, h2, fun z => ?_, h3, fun a b c y1 y2 => ?_, ?_, ?_, ?_, ?_, ?_⟩))
                                                                                            · rw [← h3] at z; first | exact absurd z (by assumption) | (rw [z32eq] at z; first | omega | (simp only [z32eq, Int32.reduceToInt, Int32.toInt_zero, Int32.toInt_one] at *; omega))
                                                                                            · rw [qm13, zup_ne _ _ (by omega), g0 a b c (by omega)]; exact h4 a b c y1
                                                                                            · rw [qm13, zup_ne _ _ (by omega)]; exact g1
                                                                                            · rw [qm13, zup_same, q12, r47]
                                                                                            · rw [qm13, zup_ne _ _ (by omega)]; exact g2
                                                                                            · rw [qm13, zup_ne _ _ (by omega)]; exact g3
                                                                                            · rw [qm13, zup_ne _ _ (by omega)]; exact g4)⟩
    · skip
      have b14x : zB v1 0 0 := by have q1 := b3x; have q2 := (zB.of (x := 0) 0 (by decide)); simp only [z32lt, z32le, z32eq, Int32.reduceToInt, Int32.toInt_zero] at h13_4; constructor <;> omega
      have b15x : zB a1 0 11 := by first | assumption | (constructor <;> omega)
      refine z_bipush (pc := 16) (v := -4) C dX9_send_16 (by decide) ?_
      exact z_iret (pc := 18) C hr dX9_send_18 ⟨⟨_, rfl, (zB.wk (a' := (-4)) (b' := 255) (zB.of (x := (-4)) (-4) (by decide)) (by decide) (by decide))⟩, hI1, hF1, (by
                                                                                          intro v hv; cases hv
                                                                                          have b8 : (f 1 0 6).toInt ≤ 8 := (hI 1 0 6).2
                                                                                          have hB := zbf_B (P := (fun i => (f 6 0 5 = -4 ∨ f 6 0 5 = f 11 a1.toInt.toNat 2) ∧ (zcx f a1.toInt.toNat i ∧ zbx f a1.toInt.toNat i = 0) ∧ bt (f 6 0 6) i = true ∧ (f 6 0 4 = 0 ∨ ¬ f 11 a1.toInt.toNat 7 &&& 1 = 0 ∨ ¬ bt (f 8 i 7) (f 11 a1.toInt.toNat 2).toInt.toNat = true))) (n := (f 1 0 6).toInt.toNat) (by omega)
                                                                                          have c1 : (-1 : Int32).toInt = -1 := by decide
                                                                                          have c2 : (-2 : Int32).toInt = -2 := by decide
                                                                                          rcases hp1_0 with ⟨h1, h2, h3⟩ | ⟨h1, h2, h3, h4⟩ | ⟨h1, h2, h3, h4⟩
                                                                                          · exfalso; rw [z32eq] at h2; first | omega | (simp only [z32eq, Int32.reduceToInt, Int32.toInt_zero, Int32.toInt_one] at *; omega)
                                                                                          · exfalso; rw [z32eq] at h3; first | omega | (simp only [z32eq, Int32.reduceToInt, Int32.toInt_zero, Int32.toInt_one] at *; omega)
                                                                                          · exact Or.inr (Or.inr (Or.inl ⟨h1, h2, h3.symm.trans (by first | assumption | (rw [z32eq]; first | omega | (simp only [z32eq, Int32.reduceToInt, Int32.toInt_zero, Int32.toInt_one] at *; omega))), rfl, h4⟩)))⟩
  · skip
    have b16x : zB v1 (-2) (-1) := by have q1 := b1x; have q2 := (zB.of (x := 0) 0 (by decide)); simp only [z32lt, z32le, z32eq, Int32.reduceToInt, Int32.toInt_zero] at h7_1; constructor <;> omega
    refine z_iload_n (pc := 10) C dX9_send_10 rfl ?_
    exact z_iret (pc := 11) C hr dX9_send_11 ⟨⟨_, rfl, (zB.wk (a' := (-4)) (b' := 255) b16x (by decide) (by decide))⟩, hI1, hF1, (by
                                                                                          intro v hv; cases hv
                                                                                          have b8 : (f 1 0 6).toInt ≤ 8 := (hI 1 0 6).2
                                                                                          have hB := zbf_B (P := (fun i => (f 6 0 5 = -4 ∨ f 6 0 5 = f 11 a1.toInt.toNat 2) ∧ (zcx f a1.toInt.toNat i ∧ zbx f a1.toInt.toNat i = 0) ∧ bt (f 6 0 6) i = true ∧ (f 6 0 4 = 0 ∨ ¬ f 11 a1.toInt.toNat 7 &&& 1 = 0 ∨ ¬ bt (f 8 i 7) (f 11 a1.toInt.toNat 2).toInt.toNat = true))) (n := (f 1 0 6).toInt.toNat) (by omega)
                                                                                          have c1 : (-1 : Int32).toInt = -1 := by decide
                                                                                          have c2 : (-2 : Int32).toInt = -2 := by decide
                                                                                          rcases hp1_0 with ⟨h1, h2, h3⟩ | ⟨h1, h2, h3, h4⟩ | ⟨h1, h2, h3, h4⟩
                                                                                          · exact Or.inl ⟨h1, h2, h3⟩
                                                                                          · exact Or.inr (Or.inl ⟨h1, h2, h3, h4⟩)
                                                                                          · exfalso; rw [← h3] at hB; omega)⟩

set_option maxRecDepth 100000 in
set_option maxHeartbeats 4000000 in
theorem x_X10_send (d : Nat) (f : zM) (a1 : Int32) (b1 : zB a1 (-2147483648) 2147483647) (hI : zInv f) : ZM (d + 7) yX10_send cX10_send 4 (some .int) [zr 25 0, zi a1] f (fun r g => (∃ v, r = some (zi v) ∧ zB v (-4) 255) ∧ zInv g ∧ zFr [(30, none), (31, none)] f g ∧ (∀ v : Int32, r = some (zi v) → (¬ (0 ≤ a1.toInt ∧ a1.toInt < (f 25 0 4).toInt) ∧ v = -1 ∧ (∀ j, g 30 0 j = f 30 0 j)) ∨ ((0 ≤ a1.toInt ∧ a1.toInt < (f 25 0 4).toInt) ∧ ¬ f 28 0 (8 * a1.toInt.toNat + 1) = f 30 0 1 ∧ v = -2 ∧ (∀ j, g 30 0 j = f 30 0 j)) ∨ ((0 ≤ a1.toInt ∧ a1.toInt < (f 25 0 4).toInt) ∧ f 28 0 (8 * a1.toInt.toNat + 1) = f 30 0 1 ∧ zbf (fun i => (zcr f a1.toInt.toNat i ∧ zsr f a1.toInt.toNat i = 0) ∧ zmg f a1.toInt.toNat i (f 30 0 3) (f 30 0 4) (f 30 0 5)) (f 25 0 2).toInt.toNat = 0 ∧ v = -4 ∧ (∀ j, g 30 0 j = f 30 0 j)) ∨ ((0 ≤ a1.toInt ∧ a1.toInt < (f 25 0 4).toInt) ∧ f 28 0 (8 * a1.toInt.toNat + 1) = f 30 0 1 ∧ ¬ zbf (fun i => (zcr f a1.toInt.toNat i ∧ zsr f a1.toInt.toNat i = 0) ∧ zmg f a1.toInt.toNat i (f 30 0 3) (f 30 0 4) (f 30 0 5)) (f 25 0 2).toInt.toNat = 0 ∧ v = zbf (fun i => (zcr f a1.toInt.toNat i ∧ zsr f a1.toInt.toNat i = 0) ∧ zmg f a1.toInt.toNat i (f 30 0 3) (f 30 0 4) (f 30 0 5)) (f 25 0 2).toInt.toNat ∧ (g 30 0 0 = f 30 0 0 ∧ g 30 0 2 = f 30 0 2) ∧ g 30 0 1 = f 28 0 (8 * a1.toInt.toNat + 2) ∧ g 30 0 6 = f 30 0 6 + 1 ∧ g 30 0 3 = f 28 0 (8 * a1.toInt.toNat + 7) &&& 1 ∧ ((¬ f 28 0 (8 * a1.toInt.toNat + 7) &&& 4 = 0 ∧ g 30 0 4 = f 28 0 (8 * a1.toInt.toNat + 1)) ∨ (f 28 0 (8 * a1.toInt.toNat + 7) &&& 4 = 0 ∧ g 30 0 4 = -4)) ∧ ((¬ f 28 0 (8 * a1.toInt.toNat + 7) &&& 2 = 0 ∧ g 30 0 5 = v) ∨ (f 28 0 (8 * a1.toInt.toNat + 7) &&& 2 = 0 ∧ g 30 0 5 = 255))))) := by
  refine ZM.intro (by decide +kernel) (Nat.le_of_ble_eq_true rfl) ?_
  intro X C hr hn
  have hF : zFr [(30, none), (31, none)] f f := zFr.rf _ _
  show Z X 0 [some (zr 25 0), some (zi a1), none, none] [] f
  refine z_aload_n (pc := 0) C dX10_send_0 rfl ?_
  refine z_iload_n (pc := 1) C dX10_send_1 rfl ?_
  refine z_callV (pc := 2) C zk_X10_158 (x_X10_lets _ _ a1 b1 hI) rfl rfl (by decide) rfl rfl (Nat.le_of_ble_eq_true rfl) dX10_send_2 (fun r1 g1 q1 => ?_)
  obtain ⟨⟨v1, rfl, b1x⟩, hI1, hF1q, hp1_0, hp1_1⟩ := q1
  have hp1_0 := hp1_0 _ rfl
  have hp1_1 := hp1_1 _ rfl
  have hF1 := zFr.tr hF hF1q (by decide)
  simp only [Option.toList, List.cons_append, List.nil_append]
  refine z_istore_n (pc := 5) C dX10_send_5 (by rw [hn]; decide) rfl ?_
  refine z_iload_n (pc := 6) C dX10_send_6 rfl ?_
  refine z_if_ge (pc := 7) 12 C dX10_send_7 (by decide) (fun h7_1 => ?_) (fun h7_1 => ?_)
  · skip
    have b3x : zB v1 0 255 := by have q1 := b1x; have q2 := (zB.of (x := 0) 0 (by decide)); simp only [z32lt, z32le, z32eq, Int32.reduceToInt, Int32.toInt_zero] at h7_1; constructor <;> omega
    have b4x : zB a1 0 11 := by first | assumption | (constructor <;> omega)
    refine z_iload_n (pc := 12) C dX10_send_12 rfl ?_
    refine z_if_ne (pc := 13) 19 C dX10_send_13 (by decide) (fun h13_4 => ?_) (fun h13_4 => ?_)
    · skip
      have b6x : zB v1 1 255 := by have q1 := b3x; have q2 := (zB.of (x := 0) 0 (by decide)); simp only [z32lt, z32le, z32eq, Int32.reduceToInt, Int32.toInt_zero] at h13_4; constructor <;> omega
      have b7x : zB a1 0 11 := by first | assumption | (constructor <;> omega)
      refine z_aload_n (pc := 19) C dX10_send_19 rfl ?_
      refine z_getR (pc := 20) C zf_X10_16 rfl rfl (by decide) dX10_send_20 ?_
      refine z_bipush (pc := 23) (v := 8) C dX10_send_23 (by decide) ?_
      refine z_iload_n (pc := 25) C dX10_send_25 rfl ?_
      refine z_imul (pc := 26) C dX10_send_26 ?_
      refine w_gp (fun v => v = (8 : Int32) * a1) rfl (fun v8 q8 => ?_)
      have e8 : v8.toInt = 8 * a1.toInt := by rw [q8]; exact (zmul_kb 8 (by decide) (by decide) b7x (by decide) (by decide))
      have b8x : zB v8 0 88 := zmul_bb e8 (by decide) b7x
      refine z_bipush (pc := 27) (v := 7) C dX10_send_27 (by decide) ?_
      refine z_iadd (pc := 29) C dX10_send_29 ?_
      refine w_gp (fun v => v = v8 + (7 : Int32)) rfl (fun v9 q9 => ?_)
      have e9 : v9.toInt = v8.toInt + 7 := by rw [q9]; exact (zadd_eb b8x (zB.of (x := 7) 7 (by decide)) (by decide) (by decide))
      have b9x : zB v9 7 95 := by have q1 := b8x; have q2 := (zB.of (x := 7) 7 (by decide)); constructor <;> omega
      refine z_iald (pc := 30) C rfl (by decide) (zIx b9x (by decide) (by decide)) dX10_send_30 ?_
      have kq30_9 : v9.toNatClampNeg = v9.toInt.toNat := rfl
      refine w_gp (fun v => v = g1 28 0 v9.toNatClampNeg) rfl (fun v10 q10 => ?_)
      have b10x : zB v10 0 7 := by rw [q10]; exact (by have hq9 := hI1 28 0 v9.toNatClampNeg; rw [zrg28 (r := 7) (by have hq : v9.toNatClampNeg = v9.toInt.toNat := rfl; have hq2 := b9x; omega)] at hq9; exact hq9)
      refine z_istore_n (pc := 31) C dX10_send_31 (by rw [hn]; decide) rfl ?_
      refine z_aload_n (pc := 32) C dX10_send_32 rfl ?_
      refine z_getR (pc := 33) C zf_X10_22 rfl rfl (by decide) dX10_send_33 ?_
      refine z_iconst (pc := 36) (v := 1) C dX10_send_36 (by decide) ?_
      refine z_aload_n (pc := 37) C dX10_send_37 rfl ?_
      refine z_getR (pc := 38) C zf_X10_16 rfl rfl (by decide) dX10_send_38 ?_
      refine z_bipush (pc := 41) (v := 8) C dX10_send_41 (by decide) ?_
      refine z_iload_n (pc := 43) C dX10_send_43 rfl ?_
      refine z_imul (pc := 44) C dX10_send_44 ?_
      refine w_gp (fun v => v = (8 : Int32) * a1) rfl (fun v11 q11 => ?_)
      have e11 : v11.toInt = 8 * a1.toInt := by rw [q11]; exact (zmul_kb 8 (by decide) (by decide) b7x (by decide) (by decide))
      have b11x : zB v11 0 88 := zmul_bb e11 (by decide) b7x
      refine z_iconst (pc := 45) (v := 2) C dX10_send_45 (by decide) ?_
      refine z_iadd (pc := 46) C dX10_send_46 ?_
      refine w_gp (fun v => v = v11 + (2 : Int32)) rfl (fun v12 q12 => ?_)
      have e12 : v12.toInt = v11.toInt + 2 := by rw [q12]; exact (zadd_eb b11x (zB.of (x := 2) 2 (by decide)) (by decide) (by decide))
      have b12x : zB v12 2 90 := by have q1 := b11x; have q2 := (zB.of (x := 2) 2 (by decide)); constructor <;> omega
      refine z_iald (pc := 47) C rfl (by decide) (zIx b12x (by decide) (by decide)) dX10_send_47 ?_
      have kq47_12 : v12.toNatClampNeg = v12.toInt.toNat := rfl
      refine w_gp (fun v => v = g1 28 0 v12.toNatClampNeg) rfl (fun v13 q13 => ?_)
      have b13x : zB v13 0 5 := by rw [q13]; exact (by have hq9 := hI1 28 0 v12.toNatClampNeg; rw [zrg28 (r := 2) (by have hq : v12.toNatClampNeg = v12.toInt.toNat := rfl; have hq2 := b12x; omega)] at hq9; exact hq9)
      have kw48_13 : (1 : Int32).toNatClampNeg = (1 : Int32).toInt.toNat := rfl
      refine z_iast (pc := 48) C rfl (by decide) (zIx (zB.of (x := 1) 1 (by decide)) (by decide) (by decide)) dX10_send_48 ?_
      refine w_memy hI1 hF1 b13x rfl (fun g14 qm14 hI14 hF14 => ?_)
      refine z_aload_n (pc := 49) C dX10_send_49 rfl ?_
      refine z_getR (pc := 50) C zf_X10_22 rfl rfl (by decide) dX10_send_50 ?_
      refine z_iconst (pc := 53) (v := 3) C dX10_send_53 (by decide) ?_
      refine z_iload_n (pc := 54) C dX10_send_54 rfl ?_
      refine z_iconst (pc := 55) (v := 1) C dX10_send_55 (by decide) ?_
      refine z_iand (pc := 56) C dX10_send_56 ?_
      refine w_gp (fun v => v = v10 &&& (1 : Int32)) rfl (fun v15 q15 => ?_)
      have b15x : zB v15 0 1 := by rw [q15]; exact (zand_b b10x (zB.of (x := 1) 1 (by decide)) (by decide))
      have kw57_15 : (3 : Int32).toNatClampNeg = (3 : Int32).toInt.toNat := rfl
      refine z_iast (pc := 57) C rfl (by decide) (zIx (zB.of (x := 3) 3 (by decide)) (by decide) (by decide)) dX10_send_57 ?_
      refine w_memy hI14 hF14 b15x rfl (fun g16 qm16 hI16 hF16 => ?_)
      refine z_aload_n (pc := 58) C dX10_send_58 rfl ?_
      refine z_getR (pc := 59) C zf_X10_22 rfl rfl (by decide) dX10_send_59 ?_
      refine z_iconst (pc := 62) (v := 4) C dX10_send_62 (by decide) ?_
      refine z_iload_n (pc := 63) C dX10_send_63 rfl ?_
      refine z_iconst (pc := 64) (v := 4) C dX10_send_64 (by decide) ?_
      refine z_iand (pc := 65) C dX10_send_65 ?_
      refine w_gp (fun v => v = v10 &&& (4 : Int32)) rfl (fun v17 q17 => ?_)
      have b17x : zB v17 0 4 := by rw [q17]; exact (zand_b b10x (zB.of (x := 4) 4 (by decide)) (by decide))
      refine z_if_eq (pc := 66) 83 C dX10_send_66 (by decide) (fun h66_17 => ?_) (fun h66_17 => ?_)
      · skip
        have b19x : zB v17 0 0 := by have q1 := b17x; have q2 := (zB.of (x := 0) 0 (by decide)); simp only [z32lt, z32le, z32eq, Int32.reduceToInt, Int32.toInt_zero] at h66_17; constructor <;> omega
        refine z_bipush (pc := 83) (v := -4) C dX10_send_83 (by decide) ?_
        have kw85_19 : (4 : Int32).toNatClampNeg = (4 : Int32).toInt.toNat := rfl
        refine z_iast (pc := 85) C rfl (by decide) (zIx (zB.of (x := 4) 4 (by decide)) (by decide) (by decide)) dX10_send_85 ?_
        refine w_memy hI16 hF16 (zB.wk (a' := (-4)) (b' := 5) (zB.of (x := (-4)) (-4) (by decide)) (by decide) (by decide)) rfl (fun g20 qm20 hI20 hF20 => ?_)
        refine z_aload_n (pc := 86) C dX10_send_86 rfl ?_
        refine z_getR (pc := 87) C zf_X10_22 rfl rfl (by decide) dX10_send_87 ?_
        refine z_iconst (pc := 90) (v := 5) C dX10_send_90 (by decide) ?_
        refine z_iload_n (pc := 91) C dX10_send_91 rfl ?_
        refine z_iconst (pc := 92) (v := 2) C dX10_send_92 (by decide) ?_
        refine z_iand (pc := 93) C dX10_send_93 ?_
        refine w_gp (fun v => v = v10 &&& (2 : Int32)) rfl (fun v21 q21 => ?_)
        have b21x : zB v21 0 2 := by rw [q21]; exact (zand_b b10x (zB.of (x := 2) 2 (by decide)) (by decide))
        refine z_if_eq (pc := 94) 101 C dX10_send_94 (by decide) (fun h94_21 => ?_) (fun h94_21 => ?_)
        · skip
          have b23x : zB v21 0 0 := by have q1 := b21x; have q2 := (zB.of (x := 0) 0 (by decide)); simp only [z32lt, z32le, z32eq, Int32.reduceToInt, Int32.toInt_zero] at h94_21; constructor <;> omega
          refine z_sipush (pc := 101) (v := 255) C dX10_send_101 (by decide) ?_
          have kw104_23 : (5 : Int32).toNatClampNeg = (5 : Int32).toInt.toNat := rfl
          refine z_iast (pc := 104) C rfl (by decide) (zIx (zB.of (x := 5) 5 (by decide)) (by decide) (by decide)) dX10_send_104 ?_
          refine w_memy hI20 hF20 (zB.wk (a' := 0) (b' := 255) (zB.of (x := 255) 255 (by decide)) (by decide) (by decide)) rfl (fun g24 qm24 hI24 hF24 => ?_)
          refine z_aload_n (pc := 105) C dX10_send_105 rfl ?_
          refine z_getR (pc := 106) C zf_X10_22 rfl rfl (by decide) dX10_send_106 ?_
          refine z_bipush (pc := 109) (v := 6) C dX10_send_109 (by decide) ?_
          refine z_dup2 (pc := 111) C dX10_send_111 ?_
          refine z_iald (pc := 112) C rfl (by decide) (zIx (zB.of (x := 6) 6 (by decide)) (by decide) (by decide)) dX10_send_112 ?_
          have kq112_24 : (6 : Int32).toNatClampNeg = (6 : Int32).toInt.toNat := rfl
          refine w_gp (fun v => v = g24 30 0 (6 : Int32).toNatClampNeg) rfl (fun v25 q25 => ?_)
          have b25x : zB v25 (-2147483648) 2147483647 := by rw [q25]; exact (hI24 30 0 (6 : Int32).toNatClampNeg)
          refine z_iconst (pc := 113) (v := 1) C dX10_send_113 (by decide) ?_
          refine z_iadd (pc := 114) C dX10_send_114 ?_
          refine w_gp (fun v => v = v25 + (1 : Int32)) rfl (fun v26 q26 => ?_)
          have kw115_26 : (6 : Int32).toNatClampNeg = (6 : Int32).toInt.toNat := rfl
          refine z_iast (pc := 115) C rfl (by decide) (zIx (zB.of (x := 6) 6 (by decide)) (by decide) (by decide)) dX10_send_115 ?_
          refine w_memy hI24 hF24 (zB_any v26) rfl (fun g27 qm27 hI27 hF27 => ?_)
          refine z_iload_n (pc := 116) C dX10_send_116 rfl ?_
          exact z_iret (pc := 117) C hr dX10_send_117 ⟨⟨_, rfl, (zB.wk (a' := (-4)) (b' := 255) b6x (by decide) (by decide))⟩, hI27, hF27, (by
                                                                                          intro v hv; cases hv
                                                                                          have b8 : (f 25 0 2).toInt ≤ 8 := (hI 25 0 2).2
                                                                                          have hB := zbf_B (P := (fun i => (zcr f a1.toInt.toNat i ∧ zsr f a1.toInt.toNat i = 0) ∧ zmg f a1.toInt.toNat i (f 30 0 3) (f 30 0 4) (f 30 0 5))) (n := (f 25 0 2).toInt.toNat) (by omega)
                                                                                          have c1 : (-1 : Int32).toInt = -1 := by decide
                                                                                          have c2 : (-2 : Int32).toInt = -2 := by decide
                                                                                          have l30 : ∀ j, g1 30 0 j = f 30 0 j := fun j => hF1q 30 0 j rfl
                                                                                          have l28 : ∀ j, g1 28 0 j = f 28 0 j := fun j => hF1q 28 0 j rfl
                                                                                          rcases hp1_0 with ⟨h1, h2⟩ | ⟨h1, h2, h3⟩ | ⟨h1, h2, h3⟩
                                                                                          · exfalso; rw [z32eq] at h2; first | omega | (simp only [z32eq, Int32.reduceToInt, Int32.toInt_zero, Int32.toInt_one] at *; omega)
                                                                                          · exfalso; rw [z32eq] at h3; first | omega | (simp only [z32eq, Int32.reduceToInt, Int32.toInt_zero, Int32.toInt_one] at *; omega)
                                                                                          · have n1 : (1 : Int32).toNatClampNeg = 1 := by decide
                                                                                            rw [n1] at qm14
                                                                                            have n3 : (3 : Int32).toNatClampNeg = 3 := by decide
                                                                                            rw [n3] at qm16
                                                                                            have n4 : (4 : Int32).toNatClampNeg = 4 := by decide
                                                                                            rw [n4] at qm20
                                                                                            have n5 : (5 : Int32).toNatClampNeg = 5 := by decide
                                                                                            rw [n5] at qm24
                                                                                            have n6 : (6 : Int32).toNatClampNeg = 6 := by decide
                                                                                            rw [n6] at qm27
                                                                                            have x30 : (v9).toNatClampNeg = 8 * a1.toInt.toNat + 7 := by omega
                                                                                            have r30 := q10
                                                                                            rw [x30, l28] at r30
                                                                                            have x47 : (v12).toNatClampNeg = 8 * a1.toInt.toNat + 2 := by omega
                                                                                            have r47 := q13
                                                                                            rw [x47, l28] at r47
                                                                                            have e56 : v15 = f 28 0 (8 * a1.toInt.toNat + 7) &&& 1 := by rw [q15, r30]
                                                                                            have e65 : v17 = f 28 0 (8 * a1.toInt.toNat + 7) &&& 4 := by rw [q17, r30]
                                                                                            have e93 : v21 = f 28 0 (8 * a1.toInt.toNat + 7) &&& 2 := by rw [q21, r30]
                                                                                            have r112 : v25 = f 30 0 6 := by
                                                                                              have h := q25
                                                                                              rw [n6, qm24, zup_ne _ _ (by omega), qm20, zup_ne _ _ (by omega), qm16, zup_ne _ _ (by omega), qm14, zup_ne _ _ (by omega)] at h
                                                                                              exact h.trans (l30 6)
                                                                                            refine Or.inr (Or.inr (Or.inr ⟨h1, h2, fun z => ?_, h3, ⟨?_, ?_⟩, ?_, ?_, ?_, ?_, ?_⟩))
                                                                                            · rw [← h3] at z; first | exact absurd z (by assumption) | (rw [z32eq] at z; first | omega | (simp only [z32eq, Int32.reduceToInt, Int32.toInt_zero, Int32.toInt_one] at *; omega))
                                                                                            · rw [qm27, zup_ne _ _ (by omega), qm24, zup_ne _ _ (by omega), qm20, zup_ne _ _ (by omega), qm16, zup_ne _ _ (by omega), qm14, zup_ne _ _ (by omega)]; exact l30 0
                                                                                            · rw [qm27, zup_ne _ _ (by omega), qm24, zup_ne _ _ (by omega), qm20, zup_ne _ _ (by omega), qm16, zup_ne _ _ (by omega), qm14, zup_ne _ _ (by omega)]; exact l30 2
                                                                                            · rw [qm27, zup_ne _ _ (by omega), qm24, zup_ne _ _ (by omega), qm20, zup_ne _ _ (by omega), qm16, zup_ne _ _ (by omega), qm14, zup_same]; exact r47
                                                                                            · rw [qm27, zup_same, q26, r112]
                                                                                            · rw [qm27, zup_ne _ _ (by omega), qm24, zup_ne _ _ (by omega), qm20, zup_ne _ _ (by omega), qm16, zup_same]; exact e56
                                                                                            · rw [qm27, zup_ne _ _ (by omega), qm24, zup_ne _ _ (by omega), qm20, zup_same]
                                                                                              first
                                                                                                | exact Or.inl ⟨by rw [← e65]; assumption, rfl⟩
                                                                                                | exact Or.inr ⟨by rw [← e65]; assumption, rfl⟩
                                                                                            · rw [qm27, zup_ne _ _ (by omega), qm24, zup_same]
                                                                                              first
                                                                                                | exact Or.inl ⟨by rw [← e93]; assumption, rfl⟩
                                                                                                | exact Or.inr ⟨by rw [← e93]; assumption, rfl⟩)⟩
        · skip
          have b28x : zB v21 1 2 := by have q1 := b21x; have q2 := (zB.of (x := 0) 0 (by decide)); simp only [z32lt, z32le, z32eq, Int32.reduceToInt, Int32.toInt_zero] at h94_21; constructor <;> omega
          refine z_iload_n (pc := 97) C dX10_send_97 rfl ?_
          refine z_goto (pc := 98) 104 C dX10_send_98 (by decide) ?_
          have kw104_28 : (5 : Int32).toNatClampNeg = (5 : Int32).toInt.toNat := rfl
          refine z_iast (pc := 104) C rfl (by decide) (zIx (zB.of (x := 5) 5 (by decide)) (by decide) (by decide)) dX10_send_104 ?_
          refine w_memy hI20 hF20 (zB.wk (a' := 0) (b' := 255) b6x (by decide) (by decide)) rfl (fun g29 qm29 hI29 hF29 => ?_)
          refine z_aload_n (pc := 105) C dX10_send_105 rfl ?_
          refine z_getR (pc := 106) C zf_X10_22 rfl rfl (by decide) dX10_send_106 ?_
          refine z_bipush (pc := 109) (v := 6) C dX10_send_109 (by decide) ?_
          refine z_dup2 (pc := 111) C dX10_send_111 ?_
          refine z_iald (pc := 112) C rfl (by decide) (zIx (zB.of (x := 6) 6 (by decide)) (by decide) (by decide)) dX10_send_112 ?_
          have kq112_29 : (6 : Int32).toNatClampNeg = (6 : Int32).toInt.toNat := rfl
          refine w_gp (fun v => v = g29 30 0 (6 : Int32).toNatClampNeg) rfl (fun v30 q30 => ?_)
          have b30x : zB v30 (-2147483648) 2147483647 := by rw [q30]; exact (hI29 30 0 (6 : Int32).toNatClampNeg)
          refine z_iconst (pc := 113) (v := 1) C dX10_send_113 (by decide) ?_
          refine z_iadd (pc := 114) C dX10_send_114 ?_
          refine w_gp (fun v => v = v30 + (1 : Int32)) rfl (fun v31 q31 => ?_)
          have kw115_31 : (6 : Int32).toNatClampNeg = (6 : Int32).toInt.toNat := rfl
          refine z_iast (pc := 115) C rfl (by decide) (zIx (zB.of (x := 6) 6 (by decide)) (by decide) (by decide)) dX10_send_115 ?_
          refine w_memy hI29 hF29 (zB_any v31) rfl (fun g32 qm32 hI32 hF32 => ?_)
          refine z_iload_n (pc := 116) C dX10_send_116 rfl ?_
          exact z_iret (pc := 117) C hr dX10_send_117 ⟨⟨_, rfl, (zB.wk (a' := (-4)) (b' := 255) b6x (by decide) (by decide))⟩, hI32, hF32, (by
                                                                                          intro v hv; cases hv
                                                                                          have b8 : (f 25 0 2).toInt ≤ 8 := (hI 25 0 2).2
                                                                                          have hB := zbf_B (P := (fun i => (zcr f a1.toInt.toNat i ∧ zsr f a1.toInt.toNat i = 0) ∧ zmg f a1.toInt.toNat i (f 30 0 3) (f 30 0 4) (f 30 0 5))) (n := (f 25 0 2).toInt.toNat) (by omega)
                                                                                          have c1 : (-1 : Int32).toInt = -1 := by decide
                                                                                          have c2 : (-2 : Int32).toInt = -2 := by decide
                                                                                          have l30 : ∀ j, g1 30 0 j = f 30 0 j := fun j => hF1q 30 0 j rfl
                                                                                          have l28 : ∀ j, g1 28 0 j = f 28 0 j := fun j => hF1q 28 0 j rfl
                                                                                          rcases hp1_0 with ⟨h1, h2⟩ | ⟨h1, h2, h3⟩ | ⟨h1, h2, h3⟩
                                                                                          · exfalso; rw [z32eq] at h2; first | omega | (simp only [z32eq, Int32.reduceToInt, Int32.toInt_zero, Int32.toInt_one] at *; omega)
                                                                                          · exfalso; rw [z32eq] at h3; first | omega | (simp only [z32eq, Int32.reduceToInt, Int32.toInt_zero, Int32.toInt_one] at *; omega)
                                                                                          · have n1 : (1 : Int32).toNatClampNeg = 1 := by decide
                                                                                            rw [n1] at qm14
                                                                                            have n3 : (3 : Int32).toNatClampNeg = 3 := by decide
                                                                                            rw [n3] at qm16
                                                                                            have n4 : (4 : Int32).toNatClampNeg = 4 := by decide
                                                                                            rw [n4] at qm20
                                                                                            have n5 : (5 : Int32).toNatClampNeg = 5 := by decide
                                                                                            rw [n5] at qm29
                                                                                            have n6 : (6 : Int32).toNatClampNeg = 6 := by decide
                                                                                            rw [n6] at qm32
                                                                                            have x30 : (v9).toNatClampNeg = 8 * a1.toInt.toNat + 7 := by omega
                                                                                            have r30 := q10
                                                                                            rw [x30, l28] at r30
                                                                                            have x47 : (v12).toNatClampNeg = 8 * a1.toInt.toNat + 2 := by omega
                                                                                            have r47 := q13
                                                                                            rw [x47, l28] at r47
                                                                                            have e56 : v15 = f 28 0 (8 * a1.toInt.toNat + 7) &&& 1 := by rw [q15, r30]
                                                                                            have e65 : v17 = f 28 0 (8 * a1.toInt.toNat + 7) &&& 4 := by rw [q17, r30]
                                                                                            have e93 : v21 = f 28 0 (8 * a1.toInt.toNat + 7) &&& 2 := by rw [q21, r30]
                                                                                            have r112 : v30 = f 30 0 6 := by
                                                                                              have h := q30
                                                                                              rw [n6, qm29, zup_ne _ _ (by omega), qm20, zup_ne _ _ (by omega), qm16, zup_ne _ _ (by omega), qm14, zup_ne _ _ (by omega)] at h
                                                                                              exact h.trans (l30 6)
                                                                                            refine Or.inr (Or.inr (Or.inr ⟨h1, h2, fun z => ?_, h3, ⟨?_, ?_⟩, ?_, ?_, ?_, ?_, ?_⟩))
                                                                                            · rw [← h3] at z; first | exact absurd z (by assumption) | (rw [z32eq] at z; first | omega | (simp only [z32eq, Int32.reduceToInt, Int32.toInt_zero, Int32.toInt_one] at *; omega))
                                                                                            · rw [qm32, zup_ne _ _ (by omega), qm29, zup_ne _ _ (by omega), qm20, zup_ne _ _ (by omega), qm16, zup_ne _ _ (by omega), qm14, zup_ne _ _ (by omega)]; exact l30 0
                                                                                            · rw [qm32, zup_ne _ _ (by omega), qm29, zup_ne _ _ (by omega), qm20, zup_ne _ _ (by omega), qm16, zup_ne _ _ (by omega), qm14, zup_ne _ _ (by omega)]; exact l30 2
                                                                                            · rw [qm32, zup_ne _ _ (by omega), qm29, zup_ne _ _ (by omega), qm20, zup_ne _ _ (by omega), qm16, zup_ne _ _ (by omega), qm14, zup_same]; exact r47
                                                                                            · rw [qm32, zup_same, q31, r112]
                                                                                            · rw [qm32, zup_ne _ _ (by omega), qm29, zup_ne _ _ (by omega), qm20, zup_ne _ _ (by omega), qm16, zup_same]; exact e56
                                                                                            · rw [qm32, zup_ne _ _ (by omega), qm29, zup_ne _ _ (by omega), qm20, zup_same]
                                                                                              first
                                                                                                | exact Or.inl ⟨by rw [← e65]; assumption, rfl⟩
                                                                                                | exact Or.inr ⟨by rw [← e65]; assumption, rfl⟩
                                                                                            · rw [qm32, zup_ne _ _ (by omega), qm29, zup_same]
                                                                                              first
                                                                                                | exact Or.inl ⟨by rw [← e93]; assumption, rfl⟩
                                                                                                | exact Or.inr ⟨by rw [← e93]; assumption, rfl⟩)⟩
      · skip
        have b33x : zB v17 1 4 := by have q1 := b17x; have q2 := (zB.of (x := 0) 0 (by decide)); simp only [z32lt, z32le, z32eq, Int32.reduceToInt, Int32.toInt_zero] at h66_17; constructor <;> omega
        refine z_aload_n (pc := 69) C dX10_send_69 rfl ?_
        refine z_getR (pc := 70) C zf_X10_16 rfl rfl (by decide) dX10_send_70 ?_
        refine z_bipush (pc := 73) (v := 8) C dX10_send_73 (by decide) ?_
        refine z_iload_n (pc := 75) C dX10_send_75 rfl ?_
        refine z_imul (pc := 76) C dX10_send_76 ?_
        refine w_gp (fun v => v = (8 : Int32) * a1) rfl (fun v34 q34 => ?_)
        have e34 : v34.toInt = 8 * a1.toInt := by rw [q34]; exact (zmul_kb 8 (by decide) (by decide) b7x (by decide) (by decide))
        have b34x : zB v34 0 88 := zmul_bb e34 (by decide) b7x
        refine z_iconst (pc := 77) (v := 1) C dX10_send_77 (by decide) ?_
        refine z_iadd (pc := 78) C dX10_send_78 ?_
        refine w_gp (fun v => v = v34 + (1 : Int32)) rfl (fun v35 q35 => ?_)
        have e35 : v35.toInt = v34.toInt + 1 := by rw [q35]; exact (zadd_eb b34x (zB.of (x := 1) 1 (by decide)) (by decide) (by decide))
        have b35x : zB v35 1 89 := by have q1 := b34x; have q2 := (zB.of (x := 1) 1 (by decide)); constructor <;> omega
        refine z_iald (pc := 79) C rfl (by decide) (zIx b35x (by decide) (by decide)) dX10_send_79 ?_
        have kq79_35 : v35.toNatClampNeg = v35.toInt.toNat := rfl
        refine w_gp (fun v => v = g16 28 0 v35.toNatClampNeg) rfl (fun v36 q36 => ?_)
        have b36x : zB v36 0 5 := by rw [q36]; exact (by have hq9 := hI16 28 0 v35.toNatClampNeg; rw [zrg28 (r := 1) (by have hq : v35.toNatClampNeg = v35.toInt.toNat := rfl; have hq2 := b35x; omega)] at hq9; exact hq9)
        refine z_goto (pc := 80) 85 C dX10_send_80 (by decide) ?_
        have kw85_36 : (4 : Int32).toNatClampNeg = (4 : Int32).toInt.toNat := rfl
        refine z_iast (pc := 85) C rfl (by decide) (zIx (zB.of (x := 4) 4 (by decide)) (by decide) (by decide)) dX10_send_85 ?_
        refine w_memy hI16 hF16 (zB.wk (a' := (-4)) (b' := 5) b36x (by decide) (by decide)) rfl (fun g37 qm37 hI37 hF37 => ?_)
        refine z_aload_n (pc := 86) C dX10_send_86 rfl ?_
        refine z_getR (pc := 87) C zf_X10_22 rfl rfl (by decide) dX10_send_87 ?_
        refine z_iconst (pc := 90) (v := 5) C dX10_send_90 (by decide) ?_
        refine z_iload_n (pc := 91) C dX10_send_91 rfl ?_
        refine z_iconst (pc := 92) (v := 2) C dX10_send_92 (by decide) ?_
        refine z_iand (pc := 93) C dX10_send_93 ?_
        refine w_gp (fun v => v = v10 &&& (2 : Int32)) rfl (fun v38 q38 => ?_)
        have b38x : zB v38 0 2 := by rw [q38]; exact (zand_b b10x (zB.of (x := 2) 2 (by decide)) (by decide))
        refine z_if_eq (pc := 94) 101 C dX10_send_94 (by decide) (fun h94_38 => ?_) (fun h94_38 => ?_)
        · skip
          have b40x : zB v38 0 0 := by have q1 := b38x; have q2 := (zB.of (x := 0) 0 (by decide)); simp only [z32lt, z32le, z32eq, Int32.reduceToInt, Int32.toInt_zero] at h94_38; constructor <;> omega
          refine z_sipush (pc := 101) (v := 255) C dX10_send_101 (by decide) ?_
          have kw104_40 : (5 : Int32).toNatClampNeg = (5 : Int32).toInt.toNat := rfl
          refine z_iast (pc := 104) C rfl (by decide) (zIx (zB.of (x := 5) 5 (by decide)) (by decide) (by decide)) dX10_send_104 ?_
          refine w_memy hI37 hF37 (zB.wk (a' := 0) (b' := 255) (zB.of (x := 255) 255 (by decide)) (by decide) (by decide)) rfl (fun g41 qm41 hI41 hF41 => ?_)
          refine z_aload_n (pc := 105) C dX10_send_105 rfl ?_
          refine z_getR (pc := 106) C zf_X10_22 rfl rfl (by decide) dX10_send_106 ?_
          refine z_bipush (pc := 109) (v := 6) C dX10_send_109 (by decide) ?_
          refine z_dup2 (pc := 111) C dX10_send_111 ?_
          refine z_iald (pc := 112) C rfl (by decide) (zIx (zB.of (x := 6) 6 (by decide)) (by decide) (by decide)) dX10_send_112 ?_
          have kq112_41 : (6 : Int32).toNatClampNeg = (6 : Int32).toInt.toNat := rfl
          refine w_gp (fun v => v = g41 30 0 (6 : Int32).toNatClampNeg) rfl (fun v42 q42 => ?_)
          have b42x : zB v42 (-2147483648) 2147483647 := by rw [q42]; exact (hI41 30 0 (6 : Int32).toNatClampNeg)
          refine z_iconst (pc := 113) (v := 1) C dX10_send_113 (by decide) ?_
          refine z_iadd (pc := 114) C dX10_send_114 ?_
          refine w_gp (fun v => v = v42 + (1 : Int32)) rfl (fun v43 q43 => ?_)
          have kw115_43 : (6 : Int32).toNatClampNeg = (6 : Int32).toInt.toNat := rfl
          refine z_iast (pc := 115) C rfl (by decide) (zIx (zB.of (x := 6) 6 (by decide)) (by decide) (by decide)) dX10_send_115 ?_
          refine w_memy hI41 hF41 (zB_any v43) rfl (fun g44 qm44 hI44 hF44 => ?_)
          refine z_iload_n (pc := 116) C dX10_send_116 rfl ?_
          exact z_iret (pc := 117) C hr dX10_send_117 ⟨⟨_, rfl, (zB.wk (a' := (-4)) (b' := 255) b6x (by decide) (by decide))⟩, hI44, hF44, (by
                                                                                          intro v hv; cases hv
                                                                                          have b8 : (f 25 0 2).toInt ≤ 8 := (hI 25 0 2).2
                                                                                          have hB := zbf_B (P := (fun i => (zcr f a1.toInt.toNat i ∧ zsr f a1.toInt.toNat i = 0) ∧ zmg f a1.toInt.toNat i (f 30 0 3) (f 30 0 4) (f 30 0 5))) (n := (f 25 0 2).toInt.toNat) (by omega)
                                                                                          have c1 : (-1 : Int32).toInt = -1 := by decide
                                                                                          have c2 : (-2 : Int32).toInt = -2 := by decide
                                                                                          have l30 : ∀ j, g1 30 0 j = f 30 0 j := fun j => hF1q 30 0 j rfl
                                                                                          have l28 : ∀ j, g1 28 0 j = f 28 0 j := fun j => hF1q 28 0 j rfl
                                                                                          rcases hp1_0 with ⟨h1, h2⟩ | ⟨h1, h2, h3⟩ | ⟨h1, h2, h3⟩
                                                                                          · exfalso; rw [z32eq] at h2; first | omega | (simp only [z32eq, Int32.reduceToInt, Int32.toInt_zero, Int32.toInt_one] at *; omega)
                                                                                          · exfalso; rw [z32eq] at h3; first | omega | (simp only [z32eq, Int32.reduceToInt, Int32.toInt_zero, Int32.toInt_one] at *; omega)
                                                                                          · have n1 : (1 : Int32).toNatClampNeg = 1 := by decide
                                                                                            rw [n1] at qm14
                                                                                            have n3 : (3 : Int32).toNatClampNeg = 3 := by decide
                                                                                            rw [n3] at qm16
                                                                                            have n4 : (4 : Int32).toNatClampNeg = 4 := by decide
                                                                                            rw [n4] at qm37
                                                                                            have n5 : (5 : Int32).toNatClampNeg = 5 := by decide
                                                                                            rw [n5] at qm41
                                                                                            have n6 : (6 : Int32).toNatClampNeg = 6 := by decide
                                                                                            rw [n6] at qm44
                                                                                            have x30 : (v9).toNatClampNeg = 8 * a1.toInt.toNat + 7 := by omega
                                                                                            have r30 := q10
                                                                                            rw [x30, l28] at r30
                                                                                            have x47 : (v12).toNatClampNeg = 8 * a1.toInt.toNat + 2 := by omega
                                                                                            have r47 := q13
                                                                                            rw [x47, l28] at r47
                                                                                            have e56 : v15 = f 28 0 (8 * a1.toInt.toNat + 7) &&& 1 := by rw [q15, r30]
                                                                                            have e65 : v17 = f 28 0 (8 * a1.toInt.toNat + 7) &&& 4 := by rw [q17, r30]
                                                                                            have e93 : v38 = f 28 0 (8 * a1.toInt.toNat + 7) &&& 2 := by rw [q38, r30]
                                                                                            have r112 : v42 = f 30 0 6 := by
                                                                                              have h := q42
                                                                                              rw [n6, qm41, zup_ne _ _ (by omega), qm37, zup_ne _ _ (by omega), qm16, zup_ne _ _ (by omega), qm14, zup_ne _ _ (by omega)] at h
                                                                                              exact h.trans (l30 6)
                                                                                            have x79 : (v35).toNatClampNeg = 8 * a1.toInt.toNat + 1 := by omega
                                                                                            have r79 := q36
                                                                                            rw [x79, qm16, zup_ne _ _ (by omega), qm14, zup_ne _ _ (by omega), l28] at r79
                                                                                            refine Or.inr (Or.inr (Or.inr ⟨h1, h2, fun z => ?_, h3, ⟨?_, ?_⟩, ?_, ?_, ?_, ?_, ?_⟩))
                                                                                            · rw [← h3] at z; first | exact absurd z (by assumption) | (rw [z32eq] at z; first | omega | (simp only [z32eq, Int32.reduceToInt, Int32.toInt_zero, Int32.toInt_one] at *; omega))
                                                                                            · rw [qm44, zup_ne _ _ (by omega), qm41, zup_ne _ _ (by omega), qm37, zup_ne _ _ (by omega), qm16, zup_ne _ _ (by omega), qm14, zup_ne _ _ (by omega)]; exact l30 0
                                                                                            · rw [qm44, zup_ne _ _ (by omega), qm41, zup_ne _ _ (by omega), qm37, zup_ne _ _ (by omega), qm16, zup_ne _ _ (by omega), qm14, zup_ne _ _ (by omega)]; exact l30 2
                                                                                            · rw [qm44, zup_ne _ _ (by omega), qm41, zup_ne _ _ (by omega), qm37, zup_ne _ _ (by omega), qm16, zup_ne _ _ (by omega), qm14, zup_same]; exact r47
                                                                                            · rw [qm44, zup_same, q43, r112]
                                                                                            · rw [qm44, zup_ne _ _ (by omega), qm41, zup_ne _ _ (by omega), qm37, zup_ne _ _ (by omega), qm16, zup_same]; exact e56
                                                                                            · rw [qm44, zup_ne _ _ (by omega), qm41, zup_ne _ _ (by omega), qm37, zup_same]
                                                                                              first
                                                                                                | exact Or.inl ⟨by rw [← e65]; assumption, r79⟩
                                                                                                | exact Or.inr ⟨by rw [← e65]; assumption, rfl⟩
                                                                                            · rw [qm44, zup_ne _ _ (by omega), qm41, zup_same]
                                                                                              first
                                                                                                | exact Or.inl ⟨by rw [← e93]; assumption, rfl⟩
                                                                                                | exact Or.inr ⟨by rw [← e93]; assumption, rfl⟩)⟩
        · skip
          have b45x : zB v38 1 2 := by have q1 := b38x; have q2 := (zB.of (x := 0) 0 (by decide)); simp only [z32lt, z32le, z32eq, Int32.reduceToInt, Int32.toInt_zero] at h94_38; constructor <;> omega
          refine z_iload_n (pc := 97) C dX10_send_97 rfl ?_
          refine z_goto (pc := 98) 104 C dX10_send_98 (by decide) ?_
          have kw104_45 : (5 : Int32).toNatClampNeg = (5 : Int32).toInt.toNat := rfl
          refine z_iast (pc := 104) C rfl (by decide) (zIx (zB.of (x := 5) 5 (by decide)) (by decide) (by decide)) dX10_send_104 ?_
          refine w_memy hI37 hF37 (zB.wk (a' := 0) (b' := 255) b6x (by decide) (by decide)) rfl (fun g46 qm46 hI46 hF46 => ?_)
          refine z_aload_n (pc := 105) C dX10_send_105 rfl ?_
          refine z_getR (pc := 106) C zf_X10_22 rfl rfl (by decide) dX10_send_106 ?_
          refine z_bipush (pc := 109) (v := 6) C dX10_send_109 (by decide) ?_
          refine z_dup2 (pc := 111) C dX10_send_111 ?_
          refine z_iald (pc := 112) C rfl (by decide) (zIx (zB.of (x := 6) 6 (by decide)) (by decide) (by decide)) dX10_send_112 ?_
          have kq112_46 : (6 : Int32).toNatClampNeg = (6 : Int32).toInt.toNat := rfl
          refine w_gp (fun v => v = g46 30 0 (6 : Int32).toNatClampNeg) rfl (fun v47 q47 => ?_)
          have b47x : zB v47 (-2147483648) 2147483647 := by rw [q47]; exact (hI46 30 0 (6 : Int32).toNatClampNeg)
          refine z_iconst (pc := 113) (v := 1) C dX10_send_113 (by decide) ?_
          refine z_iadd (pc := 114) C dX10_send_114 ?_
          refine w_gp (fun v => v = v47 + (1 : Int32)) rfl (fun v48 q48 => ?_)
          have kw115_48 : (6 : Int32).toNatClampNeg = (6 : Int32).toInt.toNat := rfl
          refine z_iast (pc := 115) C rfl (by decide) (zIx (zB.of (x := 6) 6 (by decide)) (by decide) (by decide)) dX10_send_115 ?_
          refine w_memy hI46 hF46 (zB_any v48) rfl (fun g49 qm49 hI49 hF49 => ?_)
          refine z_iload_n (pc := 116) C dX10_send_116 rfl ?_
          exact z_iret (pc := 117) C hr dX10_send_117 ⟨⟨_, rfl, (zB.wk (a' := (-4)) (b' := 255) b6x (by decide) (by decide))⟩, hI49, hF49, (by
                                                                                          intro v hv; cases hv
                                                                                          have b8 : (f 25 0 2).toInt ≤ 8 := (hI 25 0 2).2
                                                                                          have hB := zbf_B (P := (fun i => (zcr f a1.toInt.toNat i ∧ zsr f a1.toInt.toNat i = 0) ∧ zmg f a1.toInt.toNat i (f 30 0 3) (f 30 0 4) (f 30 0 5))) (n := (f 25 0 2).toInt.toNat) (by omega)
                                                                                          have c1 : (-1 : Int32).toInt = -1 := by decide
                                                                                          have c2 : (-2 : Int32).toInt = -2 := by decide
                                                                                          have l30 : ∀ j, g1 30 0 j = f 30 0 j := fun j => hF1q 30 0 j rfl
                                                                                          have l28 : ∀ j, g1 28 0 j = f 28 0 j := fun j => hF1q 28 0 j rfl
                                                                                          rcases hp1_0 with ⟨h1, h2⟩ | ⟨h1, h2, h3⟩ | ⟨h1, h2, h3⟩
                                                                                          · exfalso; rw [z32eq] at h2; first | omega | (simp only [z32eq, Int32.reduceToInt, Int32.toInt_zero, Int32.toInt_one] at *; omega)
                                                                                          · exfalso; rw [z32eq] at h3; first | omega | (simp only [z32eq, Int32.reduceToInt, Int32.toInt_zero, Int32.toInt_one] at *; omega)
                                                                                          · have n1 : (1 : Int32).toNatClampNeg = 1 := by decide
                                                                                            rw [n1] at qm14
                                                                                            have n3 : (3 : Int32).toNatClampNeg = 3 := by decide
                                                                                            rw [n3] at qm16
                                                                                            have n4 : (4 : Int32).toNatClampNeg = 4 := by decide
                                                                                            rw [n4] at qm37
                                                                                            have n5 : (5 : Int32).toNatClampNeg = 5 := by decide
                                                                                            rw [n5] at qm46
                                                                                            have n6 : (6 : Int32).toNatClampNeg = 6 := by decide
                                                                                            rw [n6] at qm49
                                                                                            have x30 : (v9).toNatClampNeg = 8 * a1.toInt.toNat + 7 := by omega
                                                                                            have r30 := q10
                                                                                            rw [x30, l28] at r30
                                                                                            have x47 : (v12).toNatClampNeg = 8 * a1.toInt.toNat + 2 := by omega
                                                                                            have r47 := q13
                                                                                            rw [x47, l28] at r47
                                                                                            have e56 : v15 = f 28 0 (8 * a1.toInt.toNat + 7) &&& 1 := by rw [q15, r30]
                                                                                            have e65 : v17 = f 28 0 (8 * a1.toInt.toNat + 7) &&& 4 := by rw [q17, r30]
                                                                                            have e93 : v38 = f 28 0 (8 * a1.toInt.toNat + 7) &&& 2 := by rw [q38, r30]
                                                                                            have r112 : v47 = f 30 0 6 := by
                                                                                              have h := q47
                                                                                              rw [n6, qm46, zup_ne _ _ (by omega), qm37, zup_ne _ _ (by omega), qm16, zup_ne _ _ (by omega), qm14, zup_ne _ _ (by omega)] at h
                                                                                              exact h.trans (l30 6)
                                                                                            have x79 : (v35).toNatClampNeg = 8 * a1.toInt.toNat + 1 := by omega
                                                                                            have r79 := q36
                                                                                            rw [x79, qm16, zup_ne _ _ (by omega), qm14, zup_ne _ _ (by omega), l28] at r79
                                                                                            refine Or.inr (Or.inr (Or.inr ⟨h1, h2, fun z => ?_, h3, ⟨?_, ?_⟩, ?_, ?_, ?_, ?_, ?_⟩))
                                                                                            · rw [← h3] at z; first | exact absurd z (by assumption) | (rw [z32eq] at z; first | omega | (simp only [z32eq, Int32.reduceToInt, Int32.toInt_zero, Int32.toInt_one] at *; omega))
                                                                                            · rw [qm49, zup_ne _ _ (by omega), qm46, zup_ne _ _ (by omega), qm37, zup_ne _ _ (by omega), qm16, zup_ne _ _ (by omega), qm14, zup_ne _ _ (by omega)]; exact l30 0
                                                                                            · rw [qm49, zup_ne _ _ (by omega), qm46, zup_ne _ _ (by omega), qm37, zup_ne _ _ (by omega), qm16, zup_ne _ _ (by omega), qm14, zup_ne _ _ (by omega)]; exact l30 2
                                                                                            · rw [qm49, zup_ne _ _ (by omega), qm46, zup_ne _ _ (by omega), qm37, zup_ne _ _ (by omega), qm16, zup_ne _ _ (by omega), qm14, zup_same]; exact r47
                                                                                            · rw [qm49, zup_same, q48, r112]
                                                                                            · rw [qm49, zup_ne _ _ (by omega), qm46, zup_ne _ _ (by omega), qm37, zup_ne _ _ (by omega), qm16, zup_same]; exact e56
                                                                                            · rw [qm49, zup_ne _ _ (by omega), qm46, zup_ne _ _ (by omega), qm37, zup_same]
                                                                                              first
                                                                                                | exact Or.inl ⟨by rw [← e65]; assumption, r79⟩
                                                                                                | exact Or.inr ⟨by rw [← e65]; assumption, rfl⟩
                                                                                            · rw [qm49, zup_ne _ _ (by omega), qm46, zup_same]
                                                                                              first
                                                                                                | exact Or.inl ⟨by rw [← e93]; assumption, rfl⟩
                                                                                                | exact Or.inr ⟨by rw [← e93]; assumption, rfl⟩)⟩
    · skip
      have b50x : zB v1 0 0 := by have q1 := b3x; have q2 := (zB.of (x := 0) 0 (by decide)); simp only [z32lt, z32le, z32eq, Int32.reduceToInt, Int32.toInt_zero] at h13_4; constructor <;> omega
      have b51x : zB a1 0 11 := by first | assumption | (constructor <;> omega)
      refine z_bipush (pc := 16) (v := -4) C dX10_send_16 (by decide) ?_
      exact z_iret (pc := 18) C hr dX10_send_18 ⟨⟨_, rfl, (zB.wk (a' := (-4)) (b' := 255) (zB.of (x := (-4)) (-4) (by decide)) (by decide) (by decide))⟩, hI1, hF1, (by
                                                                                          intro v hv; cases hv
                                                                                          have b8 : (f 25 0 2).toInt ≤ 8 := (hI 25 0 2).2
                                                                                          have hB := zbf_B (P := (fun i => (zcr f a1.toInt.toNat i ∧ zsr f a1.toInt.toNat i = 0) ∧ zmg f a1.toInt.toNat i (f 30 0 3) (f 30 0 4) (f 30 0 5))) (n := (f 25 0 2).toInt.toNat) (by omega)
                                                                                          have c1 : (-1 : Int32).toInt = -1 := by decide
                                                                                          have c2 : (-2 : Int32).toInt = -2 := by decide
                                                                                          have l30 : ∀ j, g1 30 0 j = f 30 0 j := fun j => hF1q 30 0 j rfl
                                                                                          have l28 : ∀ j, g1 28 0 j = f 28 0 j := fun j => hF1q 28 0 j rfl
                                                                                          rcases hp1_0 with ⟨h1, h2⟩ | ⟨h1, h2, h3⟩ | ⟨h1, h2, h3⟩
                                                                                          · exfalso; rw [z32eq] at h2; first | omega | (simp only [z32eq, Int32.reduceToInt, Int32.toInt_zero, Int32.toInt_one] at *; omega)
                                                                                          · exfalso; rw [z32eq] at h3; first | omega | (simp only [z32eq, Int32.reduceToInt, Int32.toInt_zero, Int32.toInt_one] at *; omega)
                                                                                          · exact Or.inr (Or.inr (Or.inl ⟨h1, h2, h3.symm.trans (by first | assumption | (rw [z32eq]; first | omega | (simp only [z32eq, Int32.reduceToInt, Int32.toInt_zero, Int32.toInt_one] at *; omega))), rfl, l30⟩)))⟩
  · skip
    have b52x : zB v1 (-2) (-1) := by have q1 := b1x; have q2 := (zB.of (x := 0) 0 (by decide)); simp only [z32lt, z32le, z32eq, Int32.reduceToInt, Int32.toInt_zero] at h7_1; constructor <;> omega
    refine z_iload_n (pc := 10) C dX10_send_10 rfl ?_
    exact z_iret (pc := 11) C hr dX10_send_11 ⟨⟨_, rfl, (zB.wk (a' := (-4)) (b' := 255) b52x (by decide) (by decide))⟩, hI1, hF1, (by
                                                                                          intro v hv; cases hv
                                                                                          have b8 : (f 25 0 2).toInt ≤ 8 := (hI 25 0 2).2
                                                                                          have hB := zbf_B (P := (fun i => (zcr f a1.toInt.toNat i ∧ zsr f a1.toInt.toNat i = 0) ∧ zmg f a1.toInt.toNat i (f 30 0 3) (f 30 0 4) (f 30 0 5))) (n := (f 25 0 2).toInt.toNat) (by omega)
                                                                                          have c1 : (-1 : Int32).toInt = -1 := by decide
                                                                                          have c2 : (-2 : Int32).toInt = -2 := by decide
                                                                                          have l30 : ∀ j, g1 30 0 j = f 30 0 j := fun j => hF1q 30 0 j rfl
                                                                                          have l28 : ∀ j, g1 28 0 j = f 28 0 j := fun j => hF1q 28 0 j rfl
                                                                                          rcases hp1_0 with ⟨h1, h2⟩ | ⟨h1, h2, h3⟩ | ⟨h1, h2, h3⟩
                                                                                          · exact Or.inl ⟨h1, h2, l30⟩
                                                                                          · exact Or.inr (Or.inl ⟨h1, h2, h3, l30⟩)
                                                                                          · exfalso; rw [← h3] at hB; omega)⟩
