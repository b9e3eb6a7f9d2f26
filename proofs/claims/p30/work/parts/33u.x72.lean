/-- CRIMES of a land that marks are: by the land's and by the marks' bits -/
theorem zlc_bit {C : Nat → Nat → Int32} {m : Int32} {i : Nat} (hi : i < 32) : ∀ n : Nat, n ≤ 32 → (bt (zlc C m n) i = true ↔ i < n ∧ zmt (C i) m)
  | 0, _ => by rw [zlc, b_0]; constructor
               · intro h; cases h
               · intro h; exact absurd h.1 (Nat.not_lt_zero i)
  | n + 1, hn => by
    rw [zlc]
    by_cases h : zmt (C n) m
    · rw [if_pos h, b_or, Bool.or_eq_true, zlc_bit hi n (by omega), b_one n (by omega) i hi, decide_eq_true_iff]
      constructor
      · rintro (q | q)
        · exact ⟨by omega, q.2⟩
        · subst q; exact ⟨by omega, h⟩
      · intro q
        by_cases e : i = n
        · exact Or.inr e
        · exact Or.inl ⟨by omega, q.2⟩
    · rw [if_neg h, zlc_bit hi n (by omega)]
      constructor
      · intro q; exact ⟨by omega, q.2⟩
      · intro q
        refine ⟨?_, q.2⟩
        by_cases e : i = n
        · subst e; exact absurd q.2 h
        · omega
theorem zcf_lc {C : Nat → Nat → Int32} {m l : Int32} {n : Nat} (hn : n ≤ 32) : zcf (fun k => C k 0) l n &&& zlc C m n = zcw C m l n := by
  apply b_ext
  intro i hi
  rw [b_and]
  have h1 := zcf_bit (T := fun k => C k 0) (l := l) hi n hn
  have h2 := zlc_bit (C := C) (m := m) hi n hn
  have h3 := zcw_bit (C := C) (m := m) (l := l) hi n hn
  cases q : bt (zcw C m l n) i
  · cases q1 : bt (zcf (fun k => C k 0) l n) i
    · rfl
    · cases q2 : bt (zlc C m n) i
      · rfl
      · rw [h3.mpr ⟨(h1.mp q1).1, (h1.mp q1).2, (h2.mp q2).2⟩] at q; cases q
  · obtain ⟨e1, e2, e3⟩ := h3.mp q
    rw [h1.mpr ⟨e1, e2⟩, h2.mpr ⟨e1, e3⟩]; rfl

set_option maxRecDepth 100000 in
set_option maxHeartbeats 4000000 in
theorem x_X9_matches (d : Nat) (f : zM) (a1 : Int32) (b1 : zB a1 (-2147483648) 2147483647) (a2 : Int32) (b2 : zB a2 (-2147483648) 2147483647) (a3 : Int32) (b3 : zB a3 (-2147483648) 2147483647) (hI : zInv f) : ZM (d + 1) yX9_matches cX9_matches 5 (some .int) [zr 0 0, zi a1, zi a2, zi a3] f (fun r g => (∃ v, r = some (zi v) ∧ zB v (-1) 16777215) ∧ zInv g ∧ zFr [] f g ∧ (∀ v : Int32, r = some (zi v) → (¬ ((0 ≤ a1.toInt ∧ a1.toInt < (f 1 0 6).toInt) ∧ (0 ≤ a2.toInt ∧ a2.toInt ≤ 5) ∧ (0 ≤ a3.toInt ∧ a3.toInt ≤ 1)) ∧ v = -1) ∨ (((0 ≤ a1.toInt ∧ a1.toInt < (f 1 0 6).toInt) ∧ (0 ≤ a2.toInt ∧ a2.toInt ≤ 5) ∧ (0 ≤ a3.toInt ∧ a3.toInt ≤ 1)) ∧ v = zcf (fun i => f 7 i 0) a2 (f 1 0 5).toInt.toNat &&& (if a3 = 0 then f 8 a1.toInt.toNat 5 else f 8 a1.toInt.toNat 6)))) := by
  refine ZM.intro (by decide +kernel) (Nat.le_of_ble_eq_true rfl) ?_
  intro X C hr hn
  have hF : zFr [] f f := zFr.rf _ _
  show Z X 0 [some (zr 0 0), some (zi a1), some (zi a2), some (zi a3), none] [] f
  refine z_aload_n (pc := 0) C dX9_matches_0 rfl ?_
  refine z_iload_n (pc := 1) C dX9_matches_1 rfl ?_
  refine z_callVb (pc := 2) C zk_X9_179 (m_X9_isDeed _ _ _) rfl rfl (by decide) rfl rfl (Nat.le_of_ble_eq_true rfl) dX9_matches_2 (fun h2_0 => ?_) (fun h2_0 => ?_)
  · skip
    have b2x : zB a1 0 7 := (zltc h2_0 (hI 1 0 6).2)
    refine z_if_eq (pc := 5) 24 C dX9_matches_5 (by decide) (fun h => absurd h (by decide)) (fun _ => ?_)
    refine z_iload_n (pc := 8) C dX9_matches_8 rfl ?_
    refine z_callSb (pc := 9) C zk_X9_46 (m_X9_isLand _ _ _) rfl rfl (Nat.le_of_ble_eq_true rfl) dX9_matches_9 (fun h9_2 => ?_) (fun h9_2 => ?_)
    · skip
      have b4x : zB a2 0 5 := h9_2
      refine z_if_eq (pc := 12) 24 C dX9_matches_12 (by decide) (fun h => absurd h (by decide)) (fun _ => ?_)
      refine z_iload_n (pc := 15) C dX9_matches_15 rfl ?_
      refine z_if_lt (pc := 16) 24 C dX9_matches_16 (by decide) (fun h16_4 => ?_) (fun h16_4 => ?_)
      · skip
        have b6x : zB a3 (-2147483648) (-1) := by have q1 := b3; have q2 := (zB.of (x := 0) 0 (by decide)); simp only [z32lt, z32le, z32eq, Int32.reduceToInt, Int32.toInt_zero] at h16_4; constructor <;> omega
        refine z_iconst (pc := 24) (v := -1) C dX9_matches_24 (by decide) ?_
        exact z_iret (pc := 25) C hr dX9_matches_25 ⟨⟨_, rfl, (zB.wk (a' := (-1)) (b' := 16777215) (zB.of (x := (-1)) (-1) (by decide)) (by decide) (by decide))⟩, hI, hF, (by intro v hv; cases hv; exact Or.inl ⟨by omega, rfl⟩)⟩
      · skip
        have b7x : zB a3 0 2147483647 := by have q1 := b3; have q2 := (zB.of (x := 0) 0 (by decide)); simp only [z32lt, z32le, z32eq, Int32.reduceToInt, Int32.toInt_zero] at h16_4; constructor <;> omega
        refine z_iload_n (pc := 19) C dX9_matches_19 rfl ?_
        refine z_iconst (pc := 20) (v := 1) C dX9_matches_20 (by decide) ?_
        refine z_icmp_le (pc := 21) 26 C dX9_matches_21 (by decide) (fun h21_7 => ?_) (fun h21_7 => ?_)
        · skip
          have b9x : zB a3 0 1 := by have q1 := b7x; have q2 := (zB.of (x := 1) 1 (by decide)); simp only [z32lt, z32le, z32eq, Int32.reduceToInt, Int32.toInt_zero] at h21_7; constructor <;> omega
          refine z_aload_n (pc := 26) C dX9_matches_26 rfl ?_
          refine z_getR (pc := 27) C zf_X9_10 rfl rfl (by decide) dX9_matches_27 ?_
          refine z_getR (pc := 30) C zf_X9_74 rfl rfl (by decide) dX9_matches_30 ?_
          refine z_iload_n (pc := 33) C dX9_matches_33 rfl ?_
          refine z_aald (pc := 34) C rfl ⟨rfl, by decide⟩ (by decide) (zIx b2x (by decide) (by decide)) dX9_matches_34 ?_
          refine w_grx (by have hq := zN b2x (by decide); show 8 * 0 + a1.toNatClampNeg < 16; omega) (fun m10 q10r h10x => ?_)
          have q10r : m10 = 8 * 0 + a1.toNatClampNeg := q10r
          have k10r : a1.toNatClampNeg = a1.toInt.toNat := rfl
          refine z_astore (pc := 35) C dX9_matches_35 (by rw [hn]; decide) rfl ?_
          refine z_aload_n (pc := 37) C dX9_matches_37 rfl ?_
          refine z_getR (pc := 38) C zf_X9_10 rfl rfl (by decide) dX9_matches_38 ?_
          refine z_iload_n (pc := 41) C dX9_matches_41 rfl ?_
          refine z_callV (pc := 42) C zk_X9_100 (x_X8_crimesOf _ _ a2 b4x hI) rfl rfl (by decide) rfl rfl (Nat.le_of_ble_eq_true rfl) dX9_matches_42 (fun r11 g11 q11 => ?_)
          obtain ⟨⟨v11, rfl, b11x⟩, hI11, hF11q, hp11_0⟩ := q11
          have hp11_0 := hp11_0 _ rfl
          obtain rfl := zFr_nil hF11q
          simp only [Option.toList, List.cons_append, List.nil_append]
          refine z_iload_n (pc := 45) C dX9_matches_45 rfl ?_
          refine z_if_ne (pc := 46) 57 C dX9_matches_46 (by decide) (fun h46_11 => ?_) (fun h46_11 => ?_)
          · skip
            have b13x : zB a3 1 1 := by have q1 := b9x; have q2 := (zB.of (x := 0) 0 (by decide)); simp only [z32lt, z32le, z32eq, Int32.reduceToInt, Int32.toInt_zero] at h46_11; constructor <;> omega
            refine z_aload (pc := 57) C dX9_matches_57 rfl ?_
            refine z_getI (pc := 59) C zf_X9_185 rfl rfl h10x dX9_matches_59 ?_
            refine w_gp (fun v => v = f 8 m10 6) rfl (fun v15 q15 => ?_)
            have b15x : zB v15 0 16777215 := by rw [q15]; exact (hI 8 m10 6)
            refine z_iand (pc := 62) C dX9_matches_62 ?_
            refine w_gp (fun v => v = v11 &&& v15) rfl (fun v16 q16 => ?_)
            have b16x : zB v16 0 16777215 := by rw [q16]; exact (zand_b b11x b15x (by decide))
            exact z_iret (pc := 63) C hr dX9_matches_63 ⟨⟨_, rfl, (zB.wk (a' := (-1)) (b' := 16777215) b16x (by decide) (by decide))⟩, hI, hF, (by
                                                                                          intro v hv; cases hv
                                                                                          have hd : m10 = a1.toInt.toNat := by omega
                                                                                          have hc := hp11_0
                                                                                          have hq := q15
                                                                                          rw [hd] at hq
                                                                                          refine Or.inr ⟨by omega, ?_⟩
                                                                                          rw [q16, hc, hq]
                                                                                          rw [if_neg (by assumption)])⟩
          · skip
            have b17x : zB a3 0 0 := by have q1 := b9x; have q2 := (zB.of (x := 0) 0 (by decide)); simp only [z32lt, z32le, z32eq, Int32.reduceToInt, Int32.toInt_zero] at h46_11; constructor <;> omega
            refine z_aload (pc := 49) C dX9_matches_49 rfl ?_
            refine z_getI (pc := 51) C zf_X9_182 rfl rfl h10x dX9_matches_51 ?_
            refine w_gp (fun v => v = f 8 m10 5) rfl (fun v19 q19 => ?_)
            have b19x : zB v19 0 16777215 := by rw [q19]; exact (hI 8 m10 5)
            refine z_goto (pc := 54) 62 C dX9_matches_54 (by decide) ?_
            refine z_iand (pc := 62) C dX9_matches_62 ?_
            refine w_gp (fun v => v = v11 &&& v19) rfl (fun v20 q20 => ?_)
            have b20x : zB v20 0 16777215 := by rw [q20]; exact (zand_b b11x b19x (by decide))
            exact z_iret (pc := 63) C hr dX9_matches_63 ⟨⟨_, rfl, (zB.wk (a' := (-1)) (b' := 16777215) b20x (by decide) (by decide))⟩, hI, hF, (by
                                                                                          intro v hv; cases hv
                                                                                          have hd : m10 = a1.toInt.toNat := by omega
                                                                                          have hc := hp11_0
                                                                                          have hq := q19
                                                                                          rw [hd] at hq
                                                                                          refine Or.inr ⟨by omega, ?_⟩
                                                                                          rw [q20, hc, hq]
                                                                                          rw [if_pos (by assumption)])⟩
        · skip
          have b21x : zB a3 2 2147483647 := by have q1 := b7x; have q2 := (zB.of (x := 1) 1 (by decide)); simp only [z32lt, z32le, z32eq, Int32.reduceToInt, Int32.toInt_zero] at h21_7; constructor <;> omega
          refine z_iconst (pc := 24) (v := -1) C dX9_matches_24 (by decide) ?_
          exact z_iret (pc := 25) C hr dX9_matches_25 ⟨⟨_, rfl, (zB.wk (a' := (-1)) (b' := 16777215) (zB.of (x := (-1)) (-1) (by decide)) (by decide) (by decide))⟩, hI, hF, (by intro v hv; cases hv; exact Or.inl ⟨by omega, rfl⟩)⟩
    · skip
      refine z_if_eq (pc := 12) 24 C dX9_matches_12 (by decide) (fun _ => ?_) (fun h => absurd (by decide) h)
      refine z_iconst (pc := 24) (v := -1) C dX9_matches_24 (by decide) ?_
      exact z_iret (pc := 25) C hr dX9_matches_25 ⟨⟨_, rfl, (zB.wk (a' := (-1)) (b' := 16777215) (zB.of (x := (-1)) (-1) (by decide)) (by decide) (by decide))⟩, hI, hF, (by intro v hv; cases hv; exact Or.inl ⟨by omega, rfl⟩)⟩
  · skip
    refine z_if_eq (pc := 5) 24 C dX9_matches_5 (by decide) (fun _ => ?_) (fun h => absurd (by decide) h)
    refine z_iconst (pc := 24) (v := -1) C dX9_matches_24 (by decide) ?_
    exact z_iret (pc := 25) C hr dX9_matches_25 ⟨⟨_, rfl, (zB.wk (a' := (-1)) (b' := 16777215) (zB.of (x := (-1)) (-1) (by decide)) (by decide) (by decide))⟩, hI, hF, (by intro v hv; cases hv; exact Or.inl ⟨by omega, rfl⟩)⟩

set_option maxRecDepth 100000 in
set_option maxHeartbeats 4000000 in
theorem x_X9_yearsOf (d : Nat) (f : zM) (a1 : Int32) (b1 : zB a1 (-2147483648) 2147483647) (a2 : Int32) (b2 : zB a2 (-2147483648) 2147483647) (a3 : Int32) (b3 : zB a3 (-2147483648) 2147483647) (hI : zInv f) : ZM (d + 1) yX9_yearsOf cX9_yearsOf 5 (some .int) [zr 0 0, zi a1, zi a2, zi a3] f (fun r g => (∃ v, r = some (zi v) ∧ zB v (-1) 40) ∧ zInv g ∧ zFr [] f g ∧ (∀ v : Int32, r = some (zi v) → (¬ ((0 ≤ a1.toInt ∧ a1.toInt < (f 1 0 6).toInt) ∧ (0 ≤ a2.toInt ∧ a2.toInt ≤ 5) ∧ (0 ≤ a3.toInt ∧ a3.toInt ≤ 1)) ∧ v = -1) ∨ (((0 ≤ a1.toInt ∧ a1.toInt < (f 1 0 6).toInt) ∧ (0 ≤ a2.toInt ∧ a2.toInt ≤ 5) ∧ (0 ≤ a3.toInt ∧ a3.toInt ≤ 1)) ∧ v = (if a3 = 0 then f 9 a1.toInt.toNat a2.toInt.toNat else f 10 a1.toInt.toNat a2.toInt.toNat)))) := by
  refine ZM.intro (by decide +kernel) (Nat.le_of_ble_eq_true rfl) ?_
  intro X C hr hn
  have hF : zFr [] f f := zFr.rf _ _
  show Z X 0 [some (zr 0 0), some (zi a1), some (zi a2), some (zi a3), none] [] f
  refine z_aload_n (pc := 0) C dX9_yearsOf_0 rfl ?_
  refine z_iload_n (pc := 1) C dX9_yearsOf_1 rfl ?_
  refine z_callVb (pc := 2) C zk_X9_179 (m_X9_isDeed _ _ _) rfl rfl (by decide) rfl rfl (Nat.le_of_ble_eq_true rfl) dX9_yearsOf_2 (fun h2_0 => ?_) (fun h2_0 => ?_)
  · skip
    have b2x : zB a1 0 7 := (zltc h2_0 (hI 1 0 6).2)
    refine z_if_eq (pc := 5) 24 C dX9_yearsOf_5 (by decide) (fun h => absurd h (by decide)) (fun _ => ?_)
    refine z_iload_n (pc := 8) C dX9_yearsOf_8 rfl ?_
    refine z_callSb (pc := 9) C zk_X9_46 (m_X9_isLand _ _ _) rfl rfl (Nat.le_of_ble_eq_true rfl) dX9_yearsOf_9 (fun h9_2 => ?_) (fun h9_2 => ?_)
    · skip
      have b4x : zB a2 0 5 := h9_2
      refine z_if_eq (pc := 12) 24 C dX9_yearsOf_12 (by decide) (fun h => absurd h (by decide)) (fun _ => ?_)
      refine z_iload_n (pc := 15) C dX9_yearsOf_15 rfl ?_
      refine z_if_lt (pc := 16) 24 C dX9_yearsOf_16 (by decide) (fun h16_4 => ?_) (fun h16_4 => ?_)
      · skip
        have b6x : zB a3 (-2147483648) (-1) := by have q1 := b3; have q2 := (zB.of (x := 0) 0 (by decide)); simp only [z32lt, z32le, z32eq, Int32.reduceToInt, Int32.toInt_zero] at h16_4; constructor <;> omega
        refine z_iconst (pc := 24) (v := -1) C dX9_yearsOf_24 (by decide) ?_
        exact z_iret (pc := 25) C hr dX9_yearsOf_25 ⟨⟨_, rfl, (zB.wk (a' := (-1)) (b' := 40) (zB.of (x := (-1)) (-1) (by decide)) (by decide) (by decide))⟩, hI, hF, (by intro v hv; cases hv; exact Or.inl ⟨by omega, rfl⟩)⟩
      · skip
        have b7x : zB a3 0 2147483647 := by have q1 := b3; have q2 := (zB.of (x := 0) 0 (by decide)); simp only [z32lt, z32le, z32eq, Int32.reduceToInt, Int32.toInt_zero] at h16_4; constructor <;> omega
        refine z_iload_n (pc := 19) C dX9_yearsOf_19 rfl ?_
        refine z_iconst (pc := 20) (v := 1) C dX9_yearsOf_20 (by decide) ?_
        refine z_icmp_le (pc := 21) 26 C dX9_yearsOf_21 (by decide) (fun h21_7 => ?_) (fun h21_7 => ?_)
        · skip
          have b9x : zB a3 0 1 := by have q1 := b7x; have q2 := (zB.of (x := 1) 1 (by decide)); simp only [z32lt, z32le, z32eq, Int32.reduceToInt, Int32.toInt_zero] at h21_7; constructor <;> omega
          refine z_aload_n (pc := 26) C dX9_yearsOf_26 rfl ?_
          refine z_getR (pc := 27) C zf_X9_10 rfl rfl (by decide) dX9_yearsOf_27 ?_
          refine z_getR (pc := 30) C zf_X9_74 rfl rfl (by decide) dX9_yearsOf_30 ?_
          refine z_iload_n (pc := 33) C dX9_yearsOf_33 rfl ?_
          refine z_aald (pc := 34) C rfl ⟨rfl, by decide⟩ (by decide) (zIx b2x (by decide) (by decide)) dX9_yearsOf_34 ?_
          refine w_grx (by have hq := zN b2x (by decide); show 8 * 0 + a1.toNatClampNeg < 16; omega) (fun m10 q10r h10x => ?_)
          have q10r : m10 = 8 * 0 + a1.toNatClampNeg := q10r
          have k10r : a1.toNatClampNeg = a1.toInt.toNat := rfl
          refine z_astore (pc := 35) C dX9_yearsOf_35 (by rw [hn]; decide) rfl ?_
          refine z_iload_n (pc := 37) C dX9_yearsOf_37 rfl ?_
          refine z_if_ne (pc := 38) 51 C dX9_yearsOf_38 (by decide) (fun h38_10 => ?_) (fun h38_10 => ?_)
          · skip
            have b12x : zB a3 1 1 := by have q1 := b9x; have q2 := (zB.of (x := 0) 0 (by decide)); simp only [z32lt, z32le, z32eq, Int32.reduceToInt, Int32.toInt_zero] at h38_10; constructor <;> omega
            refine z_aload (pc := 51) C dX9_yearsOf_51 rfl ?_
            refine z_getR (pc := 53) C zf_X9_192 rfl rfl h10x dX9_yearsOf_53 ?_
            refine z_iload_n (pc := 56) C dX9_yearsOf_56 rfl ?_
            refine z_iald (pc := 57) C rfl h10x (zIx b4x (by decide) (by decide)) dX9_yearsOf_57 ?_
            have kq57_12 : a2.toNatClampNeg = a2.toInt.toNat := rfl
            refine w_gp (fun v => v = f 10 m10 a2.toNatClampNeg) rfl (fun v13 q13 => ?_)
            have b13x : zB v13 0 40 := by rw [q13]; exact (hI 10 m10 a2.toNatClampNeg)
            exact z_iret (pc := 58) C hr dX9_yearsOf_58 ⟨⟨_, rfl, (zB.wk (a' := (-1)) (b' := 40) b13x (by decide) (by decide))⟩, hI, hF, (by
                                                                                          intro v hv; cases hv
                                                                                          have hd : m10 = a1.toInt.toNat := by omega
                                                                                          have hi : a2.toNatClampNeg = a2.toInt.toNat := by rfl
                                                                                          have hq := q13
                                                                                          rw [hd, hi] at hq
                                                                                          refine Or.inr ⟨by omega, ?_⟩
                                                                                          rw [hq]
                                                                                          rw [if_neg (by assumption)])⟩
          · skip
            have b14x : zB a3 0 0 := by have q1 := b9x; have q2 := (zB.of (x := 0) 0 (by decide)); simp only [z32lt, z32le, z32eq, Int32.reduceToInt, Int32.toInt_zero] at h38_10; constructor <;> omega
            refine z_aload (pc := 41) C dX9_yearsOf_41 rfl ?_
            refine z_getR (pc := 43) C zf_X9_188 rfl rfl h10x dX9_yearsOf_43 ?_
            refine z_iload_n (pc := 46) C dX9_yearsOf_46 rfl ?_
            refine z_iald (pc := 47) C rfl h10x (zIx b4x (by decide) (by decide)) dX9_yearsOf_47 ?_
            have kq47_14 : a2.toNatClampNeg = a2.toInt.toNat := rfl
            refine w_gp (fun v => v = f 9 m10 a2.toNatClampNeg) rfl (fun v15 q15 => ?_)
            have b15x : zB v15 0 40 := by rw [q15]; exact (hI 9 m10 a2.toNatClampNeg)
            refine z_goto (pc := 48) 58 C dX9_yearsOf_48 (by decide) ?_
            exact z_iret (pc := 58) C hr dX9_yearsOf_58 ⟨⟨_, rfl, (zB.wk (a' := (-1)) (b' := 40) b15x (by decide) (by decide))⟩, hI, hF, (by
                                                                                          intro v hv; cases hv
                                                                                          have hd : m10 = a1.toInt.toNat := by omega
                                                                                          have hi : a2.toNatClampNeg = a2.toInt.toNat := by rfl
                                                                                          have hq := q15
                                                                                          rw [hd, hi] at hq
                                                                                          refine Or.inr ⟨by omega, ?_⟩
                                                                                          rw [hq]
                                                                                          rw [if_pos (by assumption)])⟩
        · skip
          have b16x : zB a3 2 2147483647 := by have q1 := b7x; have q2 := (zB.of (x := 1) 1 (by decide)); simp only [z32lt, z32le, z32eq, Int32.reduceToInt, Int32.toInt_zero] at h21_7; constructor <;> omega
          refine z_iconst (pc := 24) (v := -1) C dX9_yearsOf_24 (by decide) ?_
          exact z_iret (pc := 25) C hr dX9_yearsOf_25 ⟨⟨_, rfl, (zB.wk (a' := (-1)) (b' := 40) (zB.of (x := (-1)) (-1) (by decide)) (by decide) (by decide))⟩, hI, hF, (by intro v hv; cases hv; exact Or.inl ⟨by omega, rfl⟩)⟩
    · skip
      refine z_if_eq (pc := 12) 24 C dX9_yearsOf_12 (by decide) (fun _ => ?_) (fun h => absurd (by decide) h)
      refine z_iconst (pc := 24) (v := -1) C dX9_yearsOf_24 (by decide) ?_
      exact z_iret (pc := 25) C hr dX9_yearsOf_25 ⟨⟨_, rfl, (zB.wk (a' := (-1)) (b' := 40) (zB.of (x := (-1)) (-1) (by decide)) (by decide) (by decide))⟩, hI, hF, (by intro v hv; cases hv; exact Or.inl ⟨by omega, rfl⟩)⟩
  · skip
    refine z_if_eq (pc := 5) 24 C dX9_yearsOf_5 (by decide) (fun _ => ?_) (fun h => absurd (by decide) h)
    refine z_iconst (pc := 24) (v := -1) C dX9_yearsOf_24 (by decide) ?_
    exact z_iret (pc := 25) C hr dX9_yearsOf_25 ⟨⟨_, rfl, (zB.wk (a' := (-1)) (b' := 40) (zB.of (x := (-1)) (-1) (by decide)) (by decide) (by decide))⟩, hI, hF, (by intro v hv; cases hv; exact Or.inl ⟨by omega, rfl⟩)⟩

set_option maxRecDepth 100000 in
set_option maxHeartbeats 4000000 in
theorem x_X10_yearsFor (d : Nat) (f : zM) (a1 : Int32) (b1 : zB a1 0 63) (a2 : Int32) (b2 : zB a2 0 5) (hI : zInv f) : ZM (d + 2) yX10_yearsFor cX10_yearsFor 6 (some .int) [zr 25 0, zi a1, zi a2] f (fun r g => (∃ v, r = some (zi v) ∧ zB v 0 40) ∧ zInv g ∧ zFr [] f g ∧ (∀ v : Int32, r = some (zi v) → v = zly (fun k j => f 26 0 (6 * k + j)) a1 a2.toInt.toNat (f 25 0 0).toInt.toNat)) := by
  refine ZM.intro (by decide +kernel) (Nat.le_of_ble_eq_true rfl) ?_
  intro X C hr hn
  have hF : zFr [] f f := zFr.rf _ _
  have ct25_0_0 : zB (f 25 0 0) 0 24 := hI 25 0 0
  have J : ∀ t : Nat, (∀ a13_3 : Int32, zB a13_3 0 16777215 → ∀ a13_4 : Int32, zB a13_4 0 40 → ∀ a13_5 : Int32, zB a13_5 0 24 → ∀ g : zM, zInv g → zFr [] f g → zB (g 25 0 0) 0 24 → (g = f) → (a13_3 = zcw (fun k j => f 26 0 (6 * k + j)) a1 a2 (f 25 0 0).toInt.toNat) → (a13_4 = zly (fun k j => f 26 0 (6 * k + j)) a1 a2.toInt.toNat a13_5.toInt.toNat) → (a13_5.toInt ≤ (f 25 0 0).toInt) → ((g 25 0 0).toInt = (f 25 0 0).toInt) → (0 + 3 * (24 - a13_5.toInt) : Int) < t → Z X 13 [some (zr 25 0), some (zi a1), some (zi a2), some (zi a13_3), some (zi a13_4), some (zi a13_5)] [] g) := by
    intro t
    induction t with
    | zero =>
      intros; exfalso; omega
    | succ t ih =>
      have ih0 := ih
      intro a13_3 b13_3 a13_4 b13_4 a13_5 b13_5 g13_ hI13_ hF13_ f13_25_0_0 hR13_0 hR13_1 hR13_2 hR13_3 hR13_4 hM13_
      refine z_iload (pc := 13) C dX10_yearsFor_13 rfl ?_
      refine z_aload_n (pc := 15) C dX10_yearsFor_15 rfl ?_
      refine z_getI (pc := 16) C zf_X10_80 rfl rfl (by decide) dX10_yearsFor_16 ?_
      refine w_gp (fun v => v = g13_ 25 0 0) rfl (fun v1 q1 => ?_)
      have e1 : v1.toInt = (g13_ 25 0 0).toInt := by rw [q1]
      have b1x : zB v1 0 24 := by first | exact zB.eqv e1 f13_25_0_0 | (have q9 := f13_25_0_0; constructor <;> omega)
      refine z_icmp_ge (pc := 19) 74 C dX10_yearsFor_19 (by decide) (fun h19_1 => ?_) (fun h19_1 => ?_)
      · skip
        have rr3 : a13_5.toInt ≥ v1.toInt := by simp only [z32lt, z32le, z32eq] at h19_1; omega
        refine z_iload (pc := 74) C dX10_yearsFor_74 rfl ?_
        exact z_iret (pc := 76) C hr dX10_yearsFor_76 ⟨⟨_, rfl, b13_4⟩, hI13_, hF13_, (by
                                                                                          intro v hv; cases hv
                                                                                          have hn : (f 25 0 0).toInt.toNat = a13_5.toInt.toNat := by omega
                                                                                          rw [hn]; exact hR13_2)⟩
      · skip
        have rr4 : a13_5.toInt < v1.toInt := by simp only [z32lt, z32le, z32eq] at h19_1; omega
        have b5x : zB a13_5 0 23 := by have q1 := b13_5; have q2 := b1x; simp only [z32lt, z32le, z32eq, Int32.reduceToInt, Int32.toInt_zero] at h19_1; constructor <;> omega
        have b6x : zB v1 1 24 := by have q1 := b13_5; have q2 := b1x; simp only [z32lt, z32le, z32eq, Int32.reduceToInt, Int32.toInt_zero] at h19_1; constructor <;> omega
        have c7x : zB (g13_ 25 0 0) 1 24 := by first | assumption | (constructor <;> omega)
        refine z_iload_n (pc := 22) C dX10_yearsFor_22 rfl ?_
        refine z_iload (pc := 23) C dX10_yearsFor_23 rfl ?_
        refine z_ishr (pc := 25) C dX10_yearsFor_25 ?_
        refine w_gp (fun v => v = a13_3 >>> (a13_5 &&& 31)) rfl (fun v8 q8 => ?_)
        refine z_iconst (pc := 26) (v := 1) C dX10_yearsFor_26 (by decide) ?_
        refine z_iand (pc := 27) C dX10_yearsFor_27 ?_
        refine w_gp (fun v => v = v8 &&& (1 : Int32)) rfl (fun v9 q9 => ?_)
        have b9x : zB v9 0 1 := by rw [q9]; exact (zand_b (zB_any v8) (zB.of (x := 1) 1 (by decide)) (by decide))
        refine z_iconst (pc := 28) (v := 1) C dX10_yearsFor_28 (by decide) ?_
        refine z_icmp_ne (pc := 29) 64 C dX10_yearsFor_29 (by decide) (fun h29_9 => ?_) (fun h29_9 => ?_)
        · skip
          have b11x : zB v9 0 0 := by have q1 := b9x; have q2 := (zB.of (x := 1) 1 (by decide)); simp only [z32lt, z32le, z32eq, Int32.reduceToInt, Int32.toInt_zero] at h29_9; constructor <;> omega
          refine z_iload (pc := 64) C dX10_yearsFor_64 rfl ?_
          refine z_istore (pc := 66) C dX10_yearsFor_66 (by rw [hn]; decide) rfl ?_
          refine z_iinc (pc := 68) (v := 1) C dX10_yearsFor_68 rfl (by decide) (by rw [hn]; decide) rfl ?_
          obtain ⟨v12, hv12, e12⟩ : ∃ v : Int32, v = a13_5 + 1 ∧ v.toInt = a13_5.toInt + 1 := ⟨_, rfl, zadd_eb b5x (zB.of (x := 1) 1 (by decide)) (by decide) (by decide)⟩
          rw [← hv12]
          have b12x : zB v12 1 24 := by have q9 := b5x; constructor <;> omega
          refine z_goto (pc := 71) 13 C dX10_yearsFor_71 (by decide) ?_
          exact ih0 a13_3 b13_3 a13_4 b13_4 v12 (zB.wk (a' := 0) (b' := 24) b12x (by decide) (by decide)) g13_ hI13_ hF13_ (zB.wk c7x (by decide) (by decide)) (by exact hR13_0) (by exact hR13_1) (by
                                                                                          have hn : (v12).toInt.toNat = a13_5.toInt.toNat + 1 := by omega
                                                                                          have hi : a13_5 = nI a13_5.toInt.toNat := (nI_ofI (by omega)).1
                                                                                          have hl : a2 = nI a2.toInt.toNat := (nI_ofI (by omega)).1
                                                                                          have b24 : (f 25 0 0).toInt ≤ 24 := (hI 25 0 0).2
                                                                                          have hb := zcw_bit (C := (fun k j => f 26 0 (6 * k + j))) (m := a1) (l := a2) (i := a13_5.toInt.toNat) (by omega) (f 25 0 0).toInt.toNat (by omega)
                                                                                          have z := z01b (x := zcw (fun k j => f 26 0 (6 * k + j)) a1 a2 (f 25 0 0).toInt.toNat) (a := a13_5.toInt.toNat) (by omega)
                                                                                          rw [← hi, ← hR13_1, ← q8, ← q9] at z
                                                                                          rw [← hR13_1] at hb
                                                                                          rw [hn, zly, ← hR13_2]
                                                                                          rw [if_neg (fun h => by
                                                                                            have hz := hb.mpr ⟨by omega, h.2.trans hl.symm, h.1⟩
                                                                                            rw [if_pos hz] at z
                                                                                            exact absurd z (by assumption))]) (by omega) (by omega) (by omega)
        · skip
          have b13x : zB v9 1 1 := by have q1 := b9x; have q2 := (zB.of (x := 1) 1 (by decide)); simp only [z32lt, z32le, z32eq, Int32.reduceToInt, Int32.toInt_zero] at h29_9; constructor <;> omega
          refine z_aload_n (pc := 32) C dX10_yearsFor_32 rfl ?_
          refine z_getR (pc := 33) C zf_X10_7 rfl rfl (by decide) dX10_yearsFor_33 ?_
          refine z_bipush (pc := 36) (v := 6) C dX10_yearsFor_36 (by decide) ?_
          refine z_iload (pc := 38) C dX10_yearsFor_38 rfl ?_
          refine z_imul (pc := 40) C dX10_yearsFor_40 ?_
          refine w_gp (fun v => v = (6 : Int32) * a13_5) rfl (fun v14 q14 => ?_)
          have e14 : v14.toInt = 6 * a13_5.toInt := by rw [q14]; exact (zmul_kb 6 (by decide) (by decide) b5x (by decide) (by decide))
          have b14x : zB v14 0 138 := zmul_bb e14 (by decide) b5x
          refine z_iconst (pc := 41) (v := 4) C dX10_yearsFor_41 (by decide) ?_
          refine z_iadd (pc := 42) C dX10_yearsFor_42 ?_
          refine w_gp (fun v => v = v14 + (4 : Int32)) rfl (fun v15 q15 => ?_)
          have e15 : v15.toInt = v14.toInt + 4 := by rw [q15]; exact (zadd_eb b14x (zB.of (x := 4) 4 (by decide)) (by decide) (by decide))
          have b15x : zB v15 4 142 := by have q1 := b14x; have q2 := (zB.of (x := 4) 4 (by decide)); constructor <;> omega
          refine z_iald (pc := 43) C rfl (by decide) (zIx b15x (by decide) (by decide)) dX10_yearsFor_43 ?_
          have kq43_15 : v15.toNatClampNeg = v15.toInt.toNat := rfl
          refine w_gp (fun v => v = g13_ 26 0 v15.toNatClampNeg) rfl (fun v16 q16 => ?_)
          have b16x : zB v16 0 40 := by rw [q16]; exact (by have hq9 := hI13_ 26 0 v15.toNatClampNeg; rw [zrg26 (r := 4) (by have hq : v15.toNatClampNeg = v15.toInt.toNat := rfl; have hq2 := b15x; omega)] at hq9; exact hq9)
          refine z_iload (pc := 44) C dX10_yearsFor_44 rfl ?_
          refine z_icmp_le (pc := 46) 64 C dX10_yearsFor_46 (by decide) (fun h46_16 => ?_) (fun h46_16 => ?_)
          · skip
            have rr18 : v16.toInt ≤ a13_4.toInt := by simp only [z32lt, z32le, z32eq] at h46_16; omega
            refine z_iload (pc := 64) C dX10_yearsFor_64 rfl ?_
            refine z_istore (pc := 66) C dX10_yearsFor_66 (by rw [hn]; decide) rfl ?_
            refine z_iinc (pc := 68) (v := 1) C dX10_yearsFor_68 rfl (by decide) (by rw [hn]; decide) rfl ?_
            obtain ⟨v19, hv19, e19⟩ : ∃ v : Int32, v = a13_5 + 1 ∧ v.toInt = a13_5.toInt + 1 := ⟨_, rfl, zadd_eb b5x (zB.of (x := 1) 1 (by decide)) (by decide) (by decide)⟩
            rw [← hv19]
            have b19x : zB v19 1 24 := by have q9 := b5x; constructor <;> omega
            refine z_goto (pc := 71) 13 C dX10_yearsFor_71 (by decide) ?_
            exact ih0 a13_3 b13_3 a13_4 b13_4 v19 (zB.wk (a' := 0) (b' := 24) b19x (by decide) (by decide)) g13_ hI13_ hF13_ (zB.wk c7x (by decide) (by decide)) (by exact hR13_0) (by exact hR13_1) (by
                                                                                          have hn : (v19).toInt.toNat = a13_5.toInt.toNat + 1 := by omega
                                                                                          have hi : a13_5 = nI a13_5.toInt.toNat := (nI_ofI (by omega)).1
                                                                                          have hl : a2 = nI a2.toInt.toNat := (nI_ofI (by omega)).1
                                                                                          have b24 : (f 25 0 0).toInt ≤ 24 := (hI 25 0 0).2
                                                                                          have hb := zcw_bit (C := (fun k j => f 26 0 (6 * k + j))) (m := a1) (l := a2) (i := a13_5.toInt.toNat) (by omega) (f 25 0 0).toInt.toNat (by omega)
                                                                                          have z := z01b (x := zcw (fun k j => f 26 0 (6 * k + j)) a1 a2 (f 25 0 0).toInt.toNat) (a := a13_5.toInt.toNat) (by omega)
                                                                                          rw [← hi, ← hR13_1, ← q8, ← q9] at z
                                                                                          rw [← hR13_1] at hb
                                                                                          rw [hn, zly, ← hR13_2]
                                                                                          have hbt : bt a13_3 a13_5.toInt.toNat = true := by
                                                                                            cases q : bt a13_3 a13_5.toInt.toNat
                                                                                            · rw [q] at z
                                                                                              exact absurd (show v9 = 1 by assumption) (by rw [z]; decide)
                                                                                            · rfl
                                                                                          obtain ⟨_, c1, c2⟩ := hb.mp hbt
                                                                                          have h4 : (v15).toNatClampNeg = 6 * a13_5.toInt.toNat + 4 := by omega
                                                                                          have q4 := q16
                                                                                          rw [h4, hR13_0] at q4
                                                                                          rw [if_pos ⟨c2, c1.trans hl⟩]
                                                                                          show a13_4 = imax a13_4 (f 26 0 (6 * a13_5.toInt.toNat + 4))
                                                                                          rw [← q4, z32eq, imax_e]
                                                                                          omega) (by omega) (by omega) (by omega)
          · skip
            have rr20 : v16.toInt > a13_4.toInt := by simp only [z32lt, z32le, z32eq] at h46_16; omega
            have b21x : zB v16 1 40 := by have q1 := b16x; have q2 := b13_4; simp only [z32lt, z32le, z32eq, Int32.reduceToInt, Int32.toInt_zero] at h46_16; constructor <;> omega
            have b22x : zB a13_4 0 39 := by have q1 := b16x; have q2 := b13_4; simp only [z32lt, z32le, z32eq, Int32.reduceToInt, Int32.toInt_zero] at h46_16; constructor <;> omega
            refine z_aload_n (pc := 49) C dX10_yearsFor_49 rfl ?_
            refine z_getR (pc := 50) C zf_X10_7 rfl rfl (by decide) dX10_yearsFor_50 ?_
            refine z_bipush (pc := 53) (v := 6) C dX10_yearsFor_53 (by decide) ?_
            refine z_iload (pc := 55) C dX10_yearsFor_55 rfl ?_
            refine z_imul (pc := 57) C dX10_yearsFor_57 ?_
            refine w_gp (fun v => v = (6 : Int32) * a13_5) rfl (fun v23 q23 => ?_)
            have e23 : v23.toInt = 6 * a13_5.toInt := by rw [q23]; exact (zmul_kb 6 (by decide) (by decide) b5x (by decide) (by decide))
            have b23x : zB v23 0 138 := zmul_bb e23 (by decide) b5x
            refine z_iconst (pc := 58) (v := 4) C dX10_yearsFor_58 (by decide) ?_
            refine z_iadd (pc := 59) C dX10_yearsFor_59 ?_
            refine w_gp (fun v => v = v23 + (4 : Int32)) rfl (fun v24 q24 => ?_)
            have e24 : v24.toInt = v23.toInt + 4 := by rw [q24]; exact (zadd_eb b23x (zB.of (x := 4) 4 (by decide)) (by decide) (by decide))
            have b24x : zB v24 4 142 := by have q1 := b23x; have q2 := (zB.of (x := 4) 4 (by decide)); constructor <;> omega
            refine z_iald (pc := 60) C rfl (by decide) (zIx b24x (by decide) (by decide)) dX10_yearsFor_60 ?_
            have kq60_24 : v24.toNatClampNeg = v24.toInt.toNat := rfl
            refine w_gp (fun v => v = g13_ 26 0 v24.toNatClampNeg) rfl (fun v25 q25 => ?_)
            have b25x : zB v25 0 40 := by rw [q25]; exact (by have hq9 := hI13_ 26 0 v24.toNatClampNeg; rw [zrg26 (r := 4) (by have hq : v24.toNatClampNeg = v24.toInt.toNat := rfl; have hq2 := b24x; omega)] at hq9; exact hq9)
            refine z_goto (pc := 61) 66 C dX10_yearsFor_61 (by decide) ?_
            refine z_istore (pc := 66) C dX10_yearsFor_66 (by rw [hn]; decide) rfl ?_
            refine z_iinc (pc := 68) (v := 1) C dX10_yearsFor_68 rfl (by decide) (by rw [hn]; decide) rfl ?_
            obtain ⟨v26, hv26, e26⟩ : ∃ v : Int32, v = a13_5 + 1 ∧ v.toInt = a13_5.toInt + 1 := ⟨_, rfl, zadd_eb b5x (zB.of (x := 1) 1 (by decide)) (by decide) (by decide)⟩
            rw [← hv26]
            have b26x : zB v26 1 24 := by have q9 := b5x; constructor <;> omega
            refine z_goto (pc := 71) 13 C dX10_yearsFor_71 (by decide) ?_
            exact ih0 a13_3 b13_3 v25 b25x v26 (zB.wk (a' := 0) (b' := 24) b26x (by decide) (by decide)) g13_ hI13_ hF13_ (zB.wk c7x (by decide) (by decide)) (by exact hR13_0) (by exact hR13_1) (by
                                                                                          have hn : (v26).toInt.toNat = a13_5.toInt.toNat + 1 := by omega
                                                                                          have hi : a13_5 = nI a13_5.toInt.toNat := (nI_ofI (by omega)).1
                                                                                          have hl : a2 = nI a2.toInt.toNat := (nI_ofI (by omega)).1
                                                                                          have b24 : (f 25 0 0).toInt ≤ 24 := (hI 25 0 0).2
                                                                                          have hb := zcw_bit (C := (fun k j => f 26 0 (6 * k + j))) (m := a1) (l := a2) (i := a13_5.toInt.toNat) (by omega) (f 25 0 0).toInt.toNat (by omega)
                                                                                          have z := z01b (x := zcw (fun k j => f 26 0 (6 * k + j)) a1 a2 (f 25 0 0).toInt.toNat) (a := a13_5.toInt.toNat) (by omega)
                                                                                          rw [← hi, ← hR13_1, ← q8, ← q9] at z
                                                                                          rw [← hR13_1] at hb
                                                                                          rw [hn, zly, ← hR13_2]
                                                                                          have hbt : bt a13_3 a13_5.toInt.toNat = true := by
                                                                                            cases q : bt a13_3 a13_5.toInt.toNat
                                                                                            · rw [q] at z
                                                                                              exact absurd (show v9 = 1 by assumption) (by rw [z]; decide)
                                                                                            · rfl
                                                                                          obtain ⟨_, c1, c2⟩ := hb.mp hbt
                                                                                          have h4 : (v15).toNatClampNeg = 6 * a13_5.toInt.toNat + 4 := by omega
                                                                                          have q4 := q16
                                                                                          rw [h4, hR13_0] at q4
                                                                                          rw [if_pos ⟨c2, c1.trans hl⟩]
                                                                                          have h6 : (v24).toNatClampNeg = 6 * a13_5.toInt.toNat + 4 := by omega
                                                                                          have q6 := q25
                                                                                          rw [h6, hR13_0, ← q4] at q6
                                                                                          show v25 = imax a13_4 (f 26 0 (6 * a13_5.toInt.toNat + 4))
                                                                                          rw [← q4, q6, z32eq, imax_e]
                                                                                          omega) (by omega) (by omega) (by omega)
  have J0 := J 87
  show Z X 0 [some (zr 25 0), some (zi a1), some (zi a2), none, none, none] [] f
  refine z_aload_n (pc := 0) C dX10_yearsFor_0 rfl ?_
  refine z_iload_n (pc := 1) C dX10_yearsFor_1 rfl ?_
  refine z_iload_n (pc := 2) C dX10_yearsFor_2 rfl ?_
  refine z_callV (pc := 3) C zk_X10_116 (x_X10_crimesOf _ _ a1 b1 a2 b2 hI) rfl rfl (by decide) rfl rfl (Nat.le_of_ble_eq_true rfl) dX10_yearsFor_3 (fun r27 g27 q27 => ?_)
  obtain ⟨⟨v27, rfl, b27x⟩, hI27, hF27q, hp27_0⟩ := q27
  have hp27_0 := hp27_0 _ rfl
  obtain rfl := zFr_nil hF27q
  simp only [Option.toList, List.cons_append, List.nil_append]
  refine z_istore_n (pc := 6) C dX10_yearsFor_6 (by rw [hn]; decide) rfl ?_
  refine z_iconst (pc := 7) (v := 0) C dX10_yearsFor_7 (by decide) ?_
  refine z_istore (pc := 8) C dX10_yearsFor_8 (by rw [hn]; decide) rfl ?_
  refine z_iconst (pc := 10) (v := 0) C dX10_yearsFor_10 (by decide) ?_
  refine z_istore (pc := 11) C dX10_yearsFor_11 (by rw [hn]; decide) rfl ?_
  exact J0 v27 b27x 0 (zB.wk (a' := 0) (b' := 40) (zB.of (x := 0) 0 (by decide)) (by decide) (by decide)) 0 (zB.wk (a' := 0) (b' := 24) (zB.of (x := 0) 0 (by decide)) (by decide) (by decide)) f hI hF ct25_0_0 (by rfl) (by exact hp27_0) (by rfl) (by have qc0 : (0 : Int32).toInt = 0 := (by decide); omega) (by have qc0 : (0 : Int32).toInt = 0 := (by decide); omega) (by have qc0 : (0 : Int32).toInt = 0 := (by decide); omega)

set_option maxRecDepth 100000 in
set_option maxHeartbeats 4000000 in
theorem x_X10_matches (d : Nat) (f : zM) (a1 : Int32) (b1 : zB a1 (-2147483648) 2147483647) (a2 : Int32) (b2 : zB a2 (-2147483648) 2147483647) (a3 : Int32) (b3 : zB a3 (-2147483648) 2147483647) (hI : zInv f) : ZM (d + 2) yX10_matches cX10_matches 4 (some .int) [zr 25 0, zi a1, zi a2, zi a3] f (fun r g => (∃ v, r = some (zi v) ∧ zB v (-1) 16777215) ∧ zInv g ∧ zFr [] f g ∧ (∀ v : Int32, r = some (zi v) → (¬ ((0 ≤ a1.toInt ∧ a1.toInt < (f 25 0 2).toInt) ∧ (0 ≤ a2.toInt ∧ a2.toInt ≤ 5) ∧ (0 ≤ a3.toInt ∧ a3.toInt ≤ 1)) ∧ v = -1) ∨ (((0 ≤ a1.toInt ∧ a1.toInt < (f 25 0 2).toInt) ∧ (0 ≤ a2.toInt ∧ a2.toInt ≤ 5) ∧ (0 ≤ a3.toInt ∧ a3.toInt ≤ 1)) ∧ v = zcw (fun k j => f 26 0 (6 * k + j)) (f 27 0 (5 * a1.toInt.toNat + a3.toInt.toNat)) a2 (f 25 0 0).toInt.toNat))) := by
  refine ZM.intro (by decide +kernel) (Nat.le_of_ble_eq_true rfl) ?_
  intro X C hr hn
  have hF : zFr [] f f := zFr.rf _ _
  show Z X 0 [some (zr 25 0), some (zi a1), some (zi a2), some (zi a3)] [] f
  refine z_aload_n (pc := 0) C dX10_matches_0 rfl ?_
  refine z_iload_n (pc := 1) C dX10_matches_1 rfl ?_
  refine z_callVb (pc := 2) C zk_X10_120 (m_X10_isDeed _ _ _ hI) rfl rfl (by decide) rfl rfl (Nat.le_of_ble_eq_true rfl) dX10_matches_2 (fun h2_0 => ?_) (fun h2_0 => ?_)
  · skip
    have b2x : zB a1 0 7 := (zltc h2_0 (hI 25 0 2).2)
    refine z_if_eq (pc := 5) 43 C dX10_matches_5 (by decide) (fun h => absurd h (by decide)) (fun _ => ?_)
    refine z_iload_n (pc := 8) C dX10_matches_8 rfl ?_
    refine z_callSb (pc := 9) C zk_X10_83 (m_X10_isLand _ _ _) rfl rfl (Nat.le_of_ble_eq_true rfl) dX10_matches_9 (fun h9_2 => ?_) (fun h9_2 => ?_)
    · skip
      have b4x : zB a2 0 5 := h9_2
      refine z_if_eq (pc := 12) 43 C dX10_matches_12 (by decide) (fun h => absurd h (by decide)) (fun _ => ?_)
      refine z_iload_n (pc := 15) C dX10_matches_15 rfl ?_
      refine z_i2l (pc := 16) C dX10_matches_16 ?_
      refine z_lconst (pc := 17) (v := 0) C dX10_matches_17 (by decide) ?_
      refine z_lconst (pc := 18) (v := 1) C dX10_matches_18 (by decide) ?_
      refine z_callSb (pc := 19) C zk_X10_69 (m_X10_in _ _ _ _ _) rfl rfl (Nat.le_of_ble_eq_true rfl) dX10_matches_19 (fun h19_4 => ?_) (fun h19_4 => ?_)
      · skip
        have hc19_1 : (0 ≤ a3.toInt ∧ a3.toInt ≤ 1) := by have q9 := h19_4; simp only [z64] at q9; exact q9
        have b6x : zB a3 0 1 := zin64 h19_4 rfl rfl
        refine z_if_eq (pc := 22) 43 C dX10_matches_22 (by decide) (fun h => absurd h (by decide)) (fun _ => ?_)
        refine z_aload_n (pc := 25) C dX10_matches_25 rfl ?_
        refine z_aload_n (pc := 26) C dX10_matches_26 rfl ?_
        refine z_getR (pc := 27) C zf_X10_13 rfl rfl (by decide) dX10_matches_27 ?_
        refine z_iconst (pc := 30) (v := 5) C dX10_matches_30 (by decide) ?_
        refine z_iload_n (pc := 31) C dX10_matches_31 rfl ?_
        refine z_imul (pc := 32) C dX10_matches_32 ?_
        refine w_gp (fun v => v = (5 : Int32) * a1) rfl (fun v7 q7 => ?_)
        have e7 : v7.toInt = 5 * a1.toInt := by rw [q7]; exact (zmul_kb 5 (by decide) (by decide) b2x (by decide) (by decide))
        have b7x : zB v7 0 35 := zmul_bb e7 (by decide) b2x
        refine z_iload_n (pc := 33) C dX10_matches_33 rfl ?_
        refine z_iadd (pc := 34) C dX10_matches_34 ?_
        refine w_gp (fun v => v = v7 + a3) rfl (fun v8 q8 => ?_)
        have e8 : v8.toInt = v7.toInt + a3.toInt := by rw [q8]; exact (zadd_eb b7x b6x (by decide) (by decide))
        have b8x : zB v8 0 36 := by have q1 := b7x; have q2 := b6x; constructor <;> omega
        refine z_iald (pc := 35) C rfl (by decide) (zIx b8x (by decide) (by decide)) dX10_matches_35 ?_
        have kq35 : v8.toNatClampNeg = v8.toInt.toNat := rfl
        refine w_gp (fun v => v = f 27 0 v8.toNatClampNeg) rfl (fun v9 q9 => ?_)
        have b9x : zB v9 0 63 := by rw [q9]; exact (zI27_01 hI (by omega))
        refine z_iload_n (pc := 36) C dX10_matches_36 rfl ?_
        refine z_callV (pc := 37) C zk_X10_116 (x_X10_crimesOf _ _ v9 b9x a2 b4x hI) rfl rfl (by decide) rfl rfl (Nat.le_of_ble_eq_true rfl) dX10_matches_37 (fun r10 g10 q10 => ?_)
        obtain ⟨⟨v10, rfl, b10x⟩, hI10, hF10q, hp10_0⟩ := q10
        have hp10_0 := hp10_0 _ rfl
        obtain rfl := zFr_nil hF10q
        simp only [Option.toList, List.cons_append, List.nil_append]
        refine z_goto (pc := 40) 44 C dX10_matches_40 (by decide) ?_
        exact z_iret (pc := 44) C hr dX10_matches_44 ⟨⟨_, rfl, (zB.wk (a' := (-1)) (b' := 16777215) b10x (by decide) (by decide))⟩, hI, hF, (by
                                                                                          intro v hv; cases hv
                                                                                          have hx : (v8).toNatClampNeg = 5 * a1.toInt.toNat + a3.toInt.toNat := by omega
                                                                                          have hq := q9
                                                                                          rw [hx] at hq
                                                                                          refine Or.inr ⟨by omega, ?_⟩
                                                                                          have h := hp10_0
                                                                                          rw [hq] at h
                                                                                          exact h)⟩
      · skip
        have hc19_0 : ¬ (0 ≤ a3.toInt ∧ a3.toInt ≤ 1) := by have q9 := h19_4; simp only [z64] at q9; exact q9
        refine z_if_eq (pc := 22) 43 C dX10_matches_22 (by decide) (fun _ => ?_) (fun h => absurd (by decide) h)
        refine z_iconst (pc := 43) (v := -1) C dX10_matches_43 (by decide) ?_
        exact z_iret (pc := 44) C hr dX10_matches_44 ⟨⟨_, rfl, (zB.wk (a' := (-1)) (b' := 16777215) (zB.of (x := (-1)) (-1) (by decide)) (by decide) (by decide))⟩, hI, hF, (by intro v hv; cases hv; exact Or.inl ⟨by omega, rfl⟩)⟩
    · skip
      refine z_if_eq (pc := 12) 43 C dX10_matches_12 (by decide) (fun _ => ?_) (fun h => absurd (by decide) h)
      refine z_iconst (pc := 43) (v := -1) C dX10_matches_43 (by decide) ?_
      exact z_iret (pc := 44) C hr dX10_matches_44 ⟨⟨_, rfl, (zB.wk (a' := (-1)) (b' := 16777215) (zB.of (x := (-1)) (-1) (by decide)) (by decide) (by decide))⟩, hI, hF, (by intro v hv; cases hv; exact Or.inl ⟨by omega, rfl⟩)⟩
  · skip
    refine z_if_eq (pc := 5) 43 C dX10_matches_5 (by decide) (fun _ => ?_) (fun h => absurd (by decide) h)
    refine z_iconst (pc := 43) (v := -1) C dX10_matches_43 (by decide) ?_
    exact z_iret (pc := 44) C hr dX10_matches_44 ⟨⟨_, rfl, (zB.wk (a' := (-1)) (b' := 16777215) (zB.of (x := (-1)) (-1) (by decide)) (by decide) (by decide))⟩, hI, hF, (by intro v hv; cases hv; exact Or.inl ⟨by omega, rfl⟩)⟩

set_option maxRecDepth 100000 in
set_option maxHeartbeats 4000000 in
theorem x_X10_yearsOf (d : Nat) (f : zM) (a1 : Int32) (b1 : zB a1 (-2147483648) 2147483647) (a2 : Int32) (b2 : zB a2 (-2147483648) 2147483647) (a3 : Int32) (b3 : zB a3 (-2147483648) 2147483647) (hI : zInv f) : ZM (d + 3) yX10_yearsOf cX10_yearsOf 4 (some .int) [zr 25 0, zi a1, zi a2, zi a3] f (fun r g => (∃ v, r = some (zi v) ∧ zB v (-1) 40) ∧ zInv g ∧ zFr [] f g ∧ (∀ v : Int32, r = some (zi v) → (¬ ((0 ≤ a1.toInt ∧ a1.toInt < (f 25 0 2).toInt) ∧ (0 ≤ a2.toInt ∧ a2.toInt ≤ 5) ∧ (0 ≤ a3.toInt ∧ a3.toInt ≤ 1)) ∧ v = -1) ∨ (((0 ≤ a1.toInt ∧ a1.toInt < (f 25 0 2).toInt) ∧ (0 ≤ a2.toInt ∧ a2.toInt ≤ 5) ∧ (0 ≤ a3.toInt ∧ a3.toInt ≤ 1)) ∧ v = zly (fun k j => f 26 0 (6 * k + j)) (f 27 0 (5 * a1.toInt.toNat + a3.toInt.toNat)) a2.toInt.toNat (f 25 0 0).toInt.toNat))) := by
  refine ZM.intro (by decide +kernel) (Nat.le_of_ble_eq_true rfl) ?_
  intro X C hr hn
  have hF : zFr [] f f := zFr.rf _ _
  show Z X 0 [some (zr 25 0), some (zi a1), some (zi a2), some (zi a3)] [] f
  refine z_aload_n (pc := 0) C dX10_yearsOf_0 rfl ?_
  refine z_iload_n (pc := 1) C dX10_yearsOf_1 rfl ?_
  refine z_callVb (pc := 2) C zk_X10_120 (m_X10_isDeed _ _ _ hI) rfl rfl (by decide) rfl rfl (Nat.le_of_ble_eq_true rfl) dX10_yearsOf_2 (fun h2_0 => ?_) (fun h2_0 => ?_)
  · skip
    have b2x : zB a1 0 7 := (zltc h2_0 (hI 25 0 2).2)
    refine z_if_eq (pc := 5) 43 C dX10_yearsOf_5 (by decide) (fun h => absurd h (by decide)) (fun _ => ?_)
    refine z_iload_n (pc := 8) C dX10_yearsOf_8 rfl ?_
    refine z_callSb (pc := 9) C zk_X10_83 (m_X10_isLand _ _ _) rfl rfl (Nat.le_of_ble_eq_true rfl) dX10_yearsOf_9 (fun h9_2 => ?_) (fun h9_2 => ?_)
    · skip
      have b4x : zB a2 0 5 := h9_2
      refine z_if_eq (pc := 12) 43 C dX10_yearsOf_12 (by decide) (fun h => absurd h (by decide)) (fun _ => ?_)
      refine z_iload_n (pc := 15) C dX10_yearsOf_15 rfl ?_
      refine z_i2l (pc := 16) C dX10_yearsOf_16 ?_
      refine z_lconst (pc := 17) (v := 0) C dX10_yearsOf_17 (by decide) ?_
      refine z_lconst (pc := 18) (v := 1) C dX10_yearsOf_18 (by decide) ?_
      refine z_callSb (pc := 19) C zk_X10_69 (m_X10_in _ _ _ _ _) rfl rfl (Nat.le_of_ble_eq_true rfl) dX10_yearsOf_19 (fun h19_4 => ?_) (fun h19_4 => ?_)
      · skip
        have hc19_1 : (0 ≤ a3.toInt ∧ a3.toInt ≤ 1) := by have q9 := h19_4; simp only [z64] at q9; exact q9
        have b6x : zB a3 0 1 := zin64 h19_4 rfl rfl
        refine z_if_eq (pc := 22) 43 C dX10_yearsOf_22 (by decide) (fun h => absurd h (by decide)) (fun _ => ?_)
        refine z_aload_n (pc := 25) C dX10_yearsOf_25 rfl ?_
        refine z_aload_n (pc := 26) C dX10_yearsOf_26 rfl ?_
        refine z_getR (pc := 27) C zf_X10_13 rfl rfl (by decide) dX10_yearsOf_27 ?_
        refine z_iconst (pc := 30) (v := 5) C dX10_yearsOf_30 (by decide) ?_
        refine z_iload_n (pc := 31) C dX10_yearsOf_31 rfl ?_
        refine z_imul (pc := 32) C dX10_yearsOf_32 ?_
        refine w_gp (fun v => v = (5 : Int32) * a1) rfl (fun v7 q7 => ?_)
        have e7 : v7.toInt = 5 * a1.toInt := by rw [q7]; exact (zmul_kb 5 (by decide) (by decide) b2x (by decide) (by decide))
        have b7x : zB v7 0 35 := zmul_bb e7 (by decide) b2x
        refine z_iload_n (pc := 33) C dX10_yearsOf_33 rfl ?_
        refine z_iadd (pc := 34) C dX10_yearsOf_34 ?_
        refine w_gp (fun v => v = v7 + a3) rfl (fun v8 q8 => ?_)
        have e8 : v8.toInt = v7.toInt + a3.toInt := by rw [q8]; exact (zadd_eb b7x b6x (by decide) (by decide))
        have b8x : zB v8 0 36 := by have q1 := b7x; have q2 := b6x; constructor <;> omega
        refine z_iald (pc := 35) C rfl (by decide) (zIx b8x (by decide) (by decide)) dX10_yearsOf_35 ?_
        have kq35 : v8.toNatClampNeg = v8.toInt.toNat := rfl
        refine w_gp (fun v => v = f 27 0 v8.toNatClampNeg) rfl (fun v9 q9 => ?_)
        have b9x : zB v9 0 63 := by rw [q9]; exact (zI27_01 hI (by omega))
        refine z_iload_n (pc := 36) C dX10_yearsOf_36 rfl ?_
        refine z_callV (pc := 37) C zk_X10_123 (x_X10_yearsFor _ _ v9 b9x a2 b4x hI) rfl rfl (by decide) rfl rfl (Nat.le_of_ble_eq_true rfl) dX10_yearsOf_37 (fun r10 g10 q10 => ?_)
        obtain ⟨⟨v10, rfl, b10x⟩, hI10, hF10q, hp10_0⟩ := q10
        have hp10_0 := hp10_0 _ rfl
        obtain rfl := zFr_nil hF10q
        simp only [Option.toList, List.cons_append, List.nil_append]
        refine z_goto (pc := 40) 44 C dX10_yearsOf_40 (by decide) ?_
        exact z_iret (pc := 44) C hr dX10_yearsOf_44 ⟨⟨_, rfl, (zB.wk (a' := (-1)) (b' := 40) b10x (by decide) (by decide))⟩, hI, hF, (by
                                                                                          intro v hv; cases hv
                                                                                          have hx : (v8).toNatClampNeg = 5 * a1.toInt.toNat + a3.toInt.toNat := by omega
                                                                                          have hq := q9
                                                                                          rw [hx] at hq
                                                                                          refine Or.inr ⟨by omega, ?_⟩
                                                                                          have h := hp10_0
                                                                                          rw [hq] at h
                                                                                          exact h)⟩
      · skip
        have hc19_0 : ¬ (0 ≤ a3.toInt ∧ a3.toInt ≤ 1) := by have q9 := h19_4; simp only [z64] at q9; exact q9
        refine z_if_eq (pc := 22) 43 C dX10_yearsOf_22 (by decide) (fun _ => ?_) (fun h => absurd (by decide) h)
        refine z_iconst (pc := 43) (v := -1) C dX10_yearsOf_43 (by decide) ?_
        exact z_iret (pc := 44) C hr dX10_yearsOf_44 ⟨⟨_, rfl, (zB.wk (a' := (-1)) (b' := 40) (zB.of (x := (-1)) (-1) (by decide)) (by decide) (by decide))⟩, hI, hF, (by intro v hv; cases hv; exact Or.inl ⟨by omega, rfl⟩)⟩
    · skip
      refine z_if_eq (pc := 12) 43 C dX10_yearsOf_12 (by decide) (fun _ => ?_) (fun h => absurd (by decide) h)
      refine z_iconst (pc := 43) (v := -1) C dX10_yearsOf_43 (by decide) ?_
      exact z_iret (pc := 44) C hr dX10_yearsOf_44 ⟨⟨_, rfl, (zB.wk (a' := (-1)) (b' := 40) (zB.of (x := (-1)) (-1) (by decide)) (by decide) (by decide))⟩, hI, hF, (by intro v hv; cases hv; exact Or.inl ⟨by omega, rfl⟩)⟩
  · skip
    refine z_if_eq (pc := 5) 43 C dX10_yearsOf_5 (by decide) (fun _ => ?_) (fun h => absurd (by decide) h)
    refine z_iconst (pc := 43) (v := -1) C dX10_yearsOf_43 (by decide) ?_
    exact z_iret (pc := 44) C hr dX10_yearsOf_44 ⟨⟨_, rfl, (zB.wk (a' := (-1)) (b' := 40) (zB.of (x := (-1)) (-1) (by decide)) (by decide) (by decide))⟩, hI, hF, (by intro v hv; cases hv; exact Or.inl ⟨by omega, rfl⟩)⟩

theorem qd_matches {f g g2 : zM} {v v2 : Int32} {a1 a2 a3 : Int32} (hI : zInv f) (hg : zInv g) (Rc : zRc f) (Rd : zRd f) (Rq : zRq f) (Rp : zRp f) (Rl : zRl f) (hF : zFr [] f g) (hG : zFr [] g g2) (hP : (¬ ((0 ≤ a1.toInt ∧ a1.toInt < (f 1 0 6).toInt) ∧ (0 ≤ a2.toInt ∧ a2.toInt ≤ 5) ∧ (0 ≤ a3.toInt ∧ a3.toInt ≤ 1)) ∧ v = -1) ∨ (((0 ≤ a1.toInt ∧ a1.toInt < (f 1 0 6).toInt) ∧ (0 ≤ a2.toInt ∧ a2.toInt ≤ 5) ∧ (0 ≤ a3.toInt ∧ a3.toInt ≤ 1)) ∧ v = zcf (fun i => f 7 i 0) a2 (f 1 0 5).toInt.toNat &&& (if a3 = 0 then f 8 a1.toInt.toNat 5 else f 8 a1.toInt.toNat 6))) (hQ : (¬ ((0 ≤ a1.toInt ∧ a1.toInt < (g 25 0 2).toInt) ∧ (0 ≤ a2.toInt ∧ a2.toInt ≤ 5) ∧ (0 ≤ a3.toInt ∧ a3.toInt ≤ 1)) ∧ v2 = -1) ∨ (((0 ≤ a1.toInt ∧ a1.toInt < (g 25 0 2).toInt) ∧ (0 ≤ a2.toInt ∧ a2.toInt ≤ 5) ∧ (0 ≤ a3.toInt ∧ a3.toInt ≤ 1)) ∧ v2 = zcw (fun k j => g 26 0 (6 * k + j)) (g 27 0 (5 * a1.toInt.toNat + a3.toInt.toNat)) a2 (g 25 0 0).toInt.toNat)) : v2 = v := by
  obtain rfl := zFr_nil hF
  obtain rfl := zFr_nil hG
  rw [← Rc.1] at hQ
  have b0 : 0 ≤ (f 1 0 5).toInt ∧ (f 1 0 5).toInt ≤ 24 := hI 1 0 5
  have b8 : (f 1 0 6).toInt ≤ 8 := (hI 1 0 6).2
  rcases hP with ⟨p1, rfl⟩ | ⟨p1, rfl⟩ <;> rcases hQ with ⟨q1, rfl⟩ | ⟨q1, rfl⟩
  · rfl
  · exact absurd q1 p1
  · exact absurd p1 q1
  · obtain ⟨l1, l2, l3, l4, l5⟩ := Rl a1.toInt.toNat (by omega)
    have c0 : (0 : Int32).toInt = 0 := by decide
    rw [← Rq.1]
    rw [zcw_congr (C := fun k j => f 26 0 (6 * k + j)) (D := fun k j => f 7 k j) _ (fun i j hi hj => (Rq.2.2.1 i j (by omega) hj).symm)]
    by_cases q : a3 = 0
    · have e : a3.toInt.toNat = 0 := by rw [q]; rfl
      rw [if_pos q, e, ← Rd.1 _ 0 (by omega) (by decide)]
      rw [l1]; exact (zcf_lc (C := fun k j => f 7 k j) (by omega)).symm
    · have e : a3.toInt.toNat = 1 := by rw [z32eq] at q; omega
      rw [if_neg q, e, ← Rd.1 _ 1 (by omega) (by decide)]
      rw [l2]; exact (zcf_lc (C := fun k j => f 7 k j) (by omega)).symm
theorem qd_yearsOf {f g g2 : zM} {v v2 : Int32} {a1 a2 a3 : Int32} (hI : zInv f) (hg : zInv g) (Rc : zRc f) (Rd : zRd f) (Rq : zRq f) (Rp : zRp f) (Rl : zRl f) (hF : zFr [] f g) (hG : zFr [] g g2) (hP : (¬ ((0 ≤ a1.toInt ∧ a1.toInt < (f 1 0 6).toInt) ∧ (0 ≤ a2.toInt ∧ a2.toInt ≤ 5) ∧ (0 ≤ a3.toInt ∧ a3.toInt ≤ 1)) ∧ v = -1) ∨ (((0 ≤ a1.toInt ∧ a1.toInt < (f 1 0 6).toInt) ∧ (0 ≤ a2.toInt ∧ a2.toInt ≤ 5) ∧ (0 ≤ a3.toInt ∧ a3.toInt ≤ 1)) ∧ v = (if a3 = 0 then f 9 a1.toInt.toNat a2.toInt.toNat else f 10 a1.toInt.toNat a2.toInt.toNat))) (hQ : (¬ ((0 ≤ a1.toInt ∧ a1.toInt < (g 25 0 2).toInt) ∧ (0 ≤ a2.toInt ∧ a2.toInt ≤ 5) ∧ (0 ≤ a3.toInt ∧ a3.toInt ≤ 1)) ∧ v2 = -1) ∨ (((0 ≤ a1.toInt ∧ a1.toInt < (g 25 0 2).toInt) ∧ (0 ≤ a2.toInt ∧ a2.toInt ≤ 5) ∧ (0 ≤ a3.toInt ∧ a3.toInt ≤ 1)) ∧ v2 = zly (fun k j => g 26 0 (6 * k + j)) (g 27 0 (5 * a1.toInt.toNat + a3.toInt.toNat)) a2.toInt.toNat (g 25 0 0).toInt.toNat)) : v2 = v := by
  obtain rfl := zFr_nil hF
  obtain rfl := zFr_nil hG
  rw [← Rc.1] at hQ
  have b0 : 0 ≤ (f 1 0 5).toInt ∧ (f 1 0 5).toInt ≤ 24 := hI 1 0 5
  have b8 : (f 1 0 6).toInt ≤ 8 := (hI 1 0 6).2
  rcases hP with ⟨p1, rfl⟩ | ⟨p1, rfl⟩ <;> rcases hQ with ⟨q1, rfl⟩ | ⟨q1, rfl⟩
  · rfl
  · exact absurd q1 p1
  · exact absurd p1 q1
  · obtain ⟨l1, l2, l3, l4, l5⟩ := Rl a1.toInt.toNat (by omega)
    have c0 : (0 : Int32).toInt = 0 := by decide
    rw [← Rq.1]
    rw [zly_congr (C := fun k j => f 26 0 (6 * k + j)) (D := fun k j => f 7 k j) _ (fun i j hi hj => (Rq.2.2.1 i j (by omega) hj).symm)]
    by_cases q : a3 = 0
    · have e : a3.toInt.toNat = 0 := by rw [q]; rfl
      rw [if_pos q, e, ← Rd.1 _ 0 (by omega) (by decide)]
      exact (l4 _ (by omega)).symm
    · have e : a3.toInt.toNat = 1 := by rw [z32eq] at q; omega
      rw [if_neg q, e, ← Rd.1 _ 1 (by omega) (by decide)]
      exact (l5 _ (by omega)).symm
