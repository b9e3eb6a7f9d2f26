theorem nI_tt {k : Nat} (h : k < 2 ^ 31) : (nI k).toInt.toNat = k := by rw [nI_toInt h]; rfl
theorem imin_e (x y : Int32) : (imin x y).toInt = min x.toInt y.toInt := by
  unfold imin
  split
  · rename_i h; rw [z32lt] at h; omega
  · rename_i h; rw [z32lt] at h; omega
theorem imax_e (x y : Int32) : (imax x y).toInt = max x.toInt y.toInt := by
  unfold imax
  split
  · rename_i h; rw [z32lt] at h; omega
  · rename_i h; rw [z32lt] at h; omega

set_option maxRecDepth 100000 in
set_option maxHeartbeats 4000000 in
theorem x_X7_fail (d : Nat) (f : zM) (a1 : Int32) (b1 : zB a1 0 120) (hI : zInv f) : ZM d yX7_fail cX7_fail 2 none [zr 18 0, zi a1] f (fun r g => r = none ∧ zInv g ∧ zFr [(18, some 7)] f g ∧ (0 ≤ (g 18 0 7).toInt) ∧ ((0 ≤ (f 18 0 7).toInt → (g 18 0 7).toInt = (f 18 0 7).toInt)) ∧ (((f 18 0 7).toInt = -1 → g 18 0 7 = a1))) := by
  refine ZM.intro (by decide +kernel) (Nat.le_of_ble_eq_true rfl) ?_
  intro X C hr hn
  have hF : zFr [(18, some 7)] f f := zFr.rf _ _
  have ct18_0_7 : zB (f 18 0 7) (-1) 120 := hI 18 0 7
  show Z X 0 [some (zr 18 0), some (zi a1)] [] f
  refine z_aload_n (pc := 0) C dX7_fail_0 rfl ?_
  refine z_getI (pc := 1) C zf_X7_36 rfl rfl (by decide) dX7_fail_1 ?_
  refine w_gp (fun v => v = f 18 0 7) rfl (fun v1 q1 => ?_)
  have e1 : v1.toInt = (f 18 0 7).toInt := by rw [q1]
  have b1x : zB v1 (-1) 120 := by first | exact zB.eqv e1 ct18_0_7 | (have q9 := ct18_0_7; constructor <;> omega)
  refine z_iconst (pc := 4) (v := -1) C dX7_fail_4 (by decide) ?_
  refine z_icmp_ne (pc := 5) 13 C dX7_fail_5 (by decide) (fun h5_1 => ?_) (fun h5_1 => ?_)
  · skip
    have b3x : zB v1 0 120 := by have q1 := b1x; have q2 := (zB.of (x := (-1)) (-1) (by decide)); simp only [z32lt, z32le, z32eq, Int32.reduceToInt, Int32.toInt_zero] at h5_1; constructor <;> omega
    have c4x : zB (f 18 0 7) 0 120 := by first | assumption | (constructor <;> omega)
    exact z_vret (pc := 13) C hr dX7_fail_13 ⟨rfl, hI, hF, (by omega), (by omega), (by intro h; exfalso; simp only [z32eq] at *; omega)⟩
  · skip
    have b5x : zB v1 (-1) (-1) := by have q1 := b1x; have q2 := (zB.of (x := (-1)) (-1) (by decide)); simp only [z32lt, z32le, z32eq, Int32.reduceToInt, Int32.toInt_zero] at h5_1; constructor <;> omega
    have c6x : zB (f 18 0 7) (-1) (-1) := by first | assumption | (constructor <;> omega)
    refine z_aload_n (pc := 8) C dX7_fail_8 rfl ?_
    refine z_iload_n (pc := 9) C dX7_fail_9 rfl ?_
    refine z_putI (pc := 10) C zf_X7_36 zp_7_7 rfl rfl (by decide) dX7_fail_10 ?_
    refine w_memx hI hF (zB.wk (a' := (-1)) (b' := 120) b1 (by decide) (by decide)) rfl (fun g7 qm7 hI7 hF7 hq7 hx7 => ?_)
    have ec7 : (g7 18 0 7).toInt = a1.toInt := by rw [hx7]
    have c7x : zB (g7 18 0 7) 0 120 := by first | exact zB.eqv ec7 b1 | (have q9 := b1; constructor <;> omega)
    exact z_vret (pc := 13) C hr dX7_fail_13 ⟨rfl, hI7, hF7, (by omega), (by omega), (by intro h; subst qm7; exact zup_same _ _ _ _ _)⟩

set_option maxRecDepth 100000 in
set_option maxHeartbeats 4000000 in
theorem e_X7_need (d : Nat) (f : zM) (a1 : Int32) (b1 : zB a1 1 126) (T : Nat → Int32) (n p : Nat) (hN : n ≤ 120) (h18 : f 18 0 3 = nI n) (hTp : ∀ i, i < n → f 19 0 i = T i) (hp : f 18 0 6 = nI p) (hb : p ≤ n) (ft : f 18 0 7 = -1) (hI : zInv f) : ZM (d + 2) yX7_need cX7_need 2 none [zr 18 0, zi a1] f (fun r g => r = none ∧ zInv g ∧ zFr [(18, some 6), (18, some 7)] f g ∧ ((∃ e, znd T n a1 p = .inl e ∧ e ≤ n ∧ g 18 0 7 = nI e) ∨ (∃ q, znd T n a1 p = .inr ((), q) ∧ g 18 0 6 = nI q ∧ q ≤ n ∧ g 18 0 7 = -1))) := by
  refine ZM.intro (by decide +kernel) (Nat.le_of_ble_eq_true rfl) ?_
  intro X C hr hn
  have hF : zFr [(18, some 6), (18, some 7)] f f := zFr.rf _ _
  have ct18_0_6 : zB (f 18 0 6) 0 120 := hI 18 0 6
  have ct18_0_7 : zB (f 18 0 7) (-1) 120 := hI 18 0 7
  show Z X 0 [some (zr 18 0), some (zi a1)] [] f
  refine z_aload_n (pc := 0) C dX7_need_0 rfl ?_
  refine z_iload_n (pc := 1) C dX7_need_1 rfl ?_
  refine z_callV (pc := 2) C zk_X7_48 (e_X7_takes _ _ a1 b1 T n (p) hN h18 hTp hp hb hI) rfl rfl (by decide) rfl rfl (Nat.le_of_ble_eq_true rfl) dX7_need_2 (fun r1 g1 q1 => ?_)
  obtain ⟨⟨v1, rfl, b1x⟩, hI1, hF1q, hp1⟩ := q1
  have hp1 := hp1 _ rfl
  have hF1 := zFr.tr hF hF1q (by decide)
  simp only [Option.toList, List.cons_append, List.nil_append]
  have cr1_18_0_6 : zB (g1 18 0 6) 0 120 := hI1 18 0 6
  have ek1_18_0_7 : (g1 18 0 7).toInt = (f 18 0 7).toInt := by rw [hF1q 18 0 7 rfl]
  have c1_18_0_7x : zB (g1 18 0 7) (-1) 120 := by first | exact zB.eqv ek1_18_0_7 ct18_0_7 | (have q9 := ct18_0_7; constructor <;> omega)
  have h181 : g1 18 0 3 = nI n := (hF1q 18 0 3 rfl).trans h18
  have hTp1 : ∀ i, i < n → g1 19 0 i = T i := fun i hi => (hF1q 19 0 i rfl).trans (hTp i hi)
  have ft1 : g1 18 0 7 = -1 := (hF1q 18 0 7 rfl).trans ft
  rcases hp1 with ⟨hc1, rfl, hq1, hb1⟩ | ⟨hc1, rfl, hq1⟩
  · skip
    refine z_if_ne (pc := 5) 16 C dX7_need_5 (by decide) (fun _ => ?_) (fun h => absurd h (by decide))
    exact z_vret (pc := 16) C hr dX7_need_16 ⟨rfl, hI1, hF1, (by
                                                                                          refine Or.inr ⟨_, ?_, hq1, hb1, ft1⟩
                                                                                          unfold znd; simp only [if_pos hc1])⟩
  · skip
    have hb1 : zsp T n (p) ≤ n := zsp_len hb
    refine z_if_ne (pc := 5) 16 C dX7_need_5 (by decide) (fun h => absurd (by decide) h) (fun _ => ?_)
    refine z_aload_n (pc := 8) C dX7_need_8 rfl ?_
    refine z_aload_n (pc := 9) C dX7_need_9 rfl ?_
    refine z_getI (pc := 10) C zf_X7_33 rfl rfl (by decide) dX7_need_10 ?_
    refine w_gp (fun v => v = g1 18 0 6) rfl (fun v2 q2 => ?_)
    have e2 : v2.toInt = (g1 18 0 6).toInt := by rw [q2]
    have b2x : zB v2 0 120 := by first | exact zB.eqv e2 cr1_18_0_6 | (have q9 := cr1_18_0_6; constructor <;> omega)
    refine z_callV (pc := 13) C zk_X7_56 (x_X7_fail _ _ v2 b2x hI1) rfl rfl (by decide) rfl rfl (Nat.le_of_ble_eq_true rfl) dX7_need_13 (fun r3 g3 q3 => ?_)
    obtain ⟨rfl, hI3, hF3q, hp3_0, hp3_1, hp3_2⟩ := q3
    have hF3 := zFr.tr hF1 hF3q (by decide)
    simp only [Option.toList, List.cons_append, List.nil_append]
    have ek3_18_0_6 : (g3 18 0 6).toInt = (g1 18 0 6).toInt := by rw [hF3q 18 0 6 rfl]
    have c3_18_0_6x : zB (g3 18 0 6) 0 120 := by first | exact zB.eqv ek3_18_0_6 cr1_18_0_6 | (have q9 := cr1_18_0_6; constructor <;> omega)
    have cr3_18_0_7 : zB (g3 18 0 7) (-1) 120 := hI3 18 0 7
    exact z_vret (pc := 16) C hr dX7_need_16 ⟨rfl, hI3, hF3, (by
                                                                                          refine Or.inl ⟨zsp T n p, ?_, hb1, ?_⟩
                                                                                          · unfold znd; simp only [if_neg hc1]
                                                                                          · rw [hp3_2 (by rw [ft1]; decide), q2]; exact hq1)⟩

set_option maxRecDepth 100000 in
set_option maxHeartbeats 4000000 in
theorem e_X7_readLand (d : Nat) (f : zM) (a1 : Int32) (b1 : zB a1 (-4) 5) (T : Nat → Int32) (n p : Nat) (hN : n ≤ 120) (h18 : f 18 0 3 = nI n) (hTp : ∀ i, i < n → f 19 0 i = T i) (hp : f 18 0 6 = nI p) (hb : p ≤ n) (ft : f 18 0 7 = -1) (hI : zInv f) : ZM (d + 1) yX7_readLand cX7_readLand 3 (some .int) [zr 18 0, zi a1] f (fun r g => (∃ v, r = some (zi v) ∧ zB v 0 5) ∧ zInv g ∧ zFr [(18, some 6), (18, some 7)] f g ∧ (∀ v : Int32, r = some (zi v) → (∃ e, zld T n a1 p = .inl e ∧ e ≤ n ∧ g 18 0 7 = nI e) ∨ (∃ q, zld T n a1 p = .inr (v, q) ∧ g 18 0 6 = nI q ∧ q ≤ n ∧ g 18 0 7 = -1))) := by
  refine ZM.intro (by decide +kernel) (Nat.le_of_ble_eq_true rfl) ?_
  intro X C hr hn
  have hF : zFr [(18, some 6), (18, some 7)] f f := zFr.rf _ _
  have ct18_0_6 : zB (f 18 0 6) 0 120 := hI 18 0 6
  have ct18_0_7 : zB (f 18 0 7) (-1) 120 := hI 18 0 7
  show Z X 0 [some (zr 18 0), some (zi a1), none] [] f
  refine z_aload_n (pc := 0) C dX7_readLand_0 rfl ?_
  refine z_callV (pc := 1) C zk_X7_52 (e_X7_next _ _ T n (p) hN h18 hTp hp hb hI) rfl rfl (by decide) rfl rfl (Nat.le_of_ble_eq_true rfl) dX7_readLand_1 (fun r1 g1 q1 => ?_)
  obtain ⟨⟨v1, rfl, b1x⟩, hI1, hF1q, hp1⟩ := q1
  have hp1 := hp1 _ rfl
  have hF1 := zFr.tr hF hF1q (by decide)
  simp only [Option.toList, List.cons_append, List.nil_append]
  have cr1_18_0_6 : zB (g1 18 0 6) 0 120 := hI1 18 0 6
  have ek1_18_0_7 : (g1 18 0 7).toInt = (f 18 0 7).toInt := by rw [hF1q 18 0 7 rfl]
  have c1_18_0_7x : zB (g1 18 0 7) (-1) 120 := by first | exact zB.eqv ek1_18_0_7 ct18_0_7 | (have q9 := ct18_0_7; constructor <;> omega)
  obtain ⟨hv1, hq1, hj1⟩ := hp1
  have h181 : g1 18 0 3 = nI n := (hF1q 18 0 3 rfl).trans h18
  have hTp1 : ∀ i, i < n → g1 19 0 i = T i := fun i hi => (hF1q 19 0 i rfl).trans (hTp i hi)
  have ft1 : g1 18 0 7 = -1 := (hF1q 18 0 7 rfl).trans ft
  have hb1 : zsp T n (p) ≤ n := zsp_len hb
  refine z_bipush (pc := 4) (v := 65) C dX7_readLand_4 (by decide) ?_
  refine z_isub (pc := 6) C dX7_readLand_6 ?_
  refine w_gp (fun v => v = v1 - (65 : Int32)) rfl (fun v2 q2 => ?_)
  have e2 : v2.toInt = v1.toInt - 65 := by rw [q2]; exact (zsub_eb b1x (zB.of (x := 65) 65 (by decide)) (by decide) (by decide))
  have b2x : zB v2 (-66) 190 := by have q1 := b1x; have q2 := (zB.of (x := 65) 65 (by decide)); constructor <;> omega
  refine z_istore_n (pc := 7) C dX7_readLand_7 (by rw [hn]; decide) rfl ?_
  refine z_iload_n (pc := 8) C dX7_readLand_8 rfl ?_
  refine z_callNb (pc := 9) C zk_nest (m_X9_isLand _ _ _) rfl rfl (Nat.le_of_ble_eq_true rfl) dX7_readLand_9 (fun h9_2 => ?_) (fun h9_2 => ?_)
  · skip
    have b4x : zB v2 0 5 := h9_2
    have b5x : zB v1 65 70 := by first | assumption | (constructor <;> omega)
    have c6x : zB (g1 18 0 6) 0 119 := by first | assumption | (constructor <;> omega)
    refine z_if_eq (pc := 12) 20 C dX7_readLand_12 (by decide) (fun h => absurd h (by decide)) (fun _ => ?_)
    refine z_iload_n (pc := 15) C dX7_readLand_15 rfl ?_
    refine z_iload_n (pc := 16) C dX7_readLand_16 rfl ?_
    refine z_icmp_ne (pc := 17) 30 C dX7_readLand_17 (by decide) (fun h17_6 => ?_) (fun h17_6 => ?_)
    · skip
      refine z_aload_n (pc := 30) C dX7_readLand_30 rfl ?_
      refine z_dupr (pc := 31) C dX7_readLand_31 ?_
      refine z_getI (pc := 32) C zf_X7_33 rfl rfl (by decide) dX7_readLand_32 ?_
      refine w_gp (fun v => v = g1 18 0 6) rfl (fun v8 q8 => ?_)
      have e8 : v8.toInt = (g1 18 0 6).toInt := by rw [q8]
      have b8x : zB v8 0 119 := by first | exact zB.eqv e8 c6x | (have q9 := c6x; constructor <;> omega)
      refine z_iconst (pc := 35) (v := 1) C dX7_readLand_35 (by decide) ?_
      refine z_iadd (pc := 36) C dX7_readLand_36 ?_
      refine w_gp (fun v => v = v8 + (1 : Int32)) rfl (fun v9 q9 => ?_)
      have e9 : v9.toInt = v8.toInt + 1 := by rw [q9]; exact (zadd_eb b8x (zB.of (x := 1) 1 (by decide)) (by decide) (by decide))
      have b9x : zB v9 1 120 := by have q1 := b8x; have q2 := (zB.of (x := 1) 1 (by decide)); constructor <;> omega
      refine z_putI (pc := 37) C zf_X7_33 zp_7_6 rfl rfl (by decide) dX7_readLand_37 ?_
      refine w_memx hI1 hF1 (zB.wk (a' := 0) (b' := 120) b9x (by decide) (by decide)) rfl (fun g10 qm10 hI10 hF10 hq10 hx10 => ?_)
      have ec10 : (g10 18 0 6).toInt = v9.toInt := by rw [hx10]
      have c10x : zB (g10 18 0 6) 1 120 := by first | exact zB.eqv ec10 b9x | (have q9 := b9x; constructor <;> omega)
      have ek10_18_0_7 : (g10 18 0 7).toInt = (g1 18 0 7).toInt := by rw [hq10 18 0 7 (by omega)]
      have c10_18_0_7x : zB (g10 18 0 7) (-1) 120 := by first | exact zB.eqv ek10_18_0_7 c1_18_0_7x | (have q9 := c1_18_0_7x; constructor <;> omega)
      refine z_iload_n (pc := 40) C dX7_readLand_40 rfl ?_
      exact z_iret (pc := 41) C hr dX7_readLand_41 ⟨⟨_, rfl, b4x⟩, hI10, hF10, (by
                                                                                          intro v hv; cases hv
                                                                                          have hl : v2 = zch T n (zsp T n p) - 65 := by rw [q2, hv1]
                                                                                          have hlt : zsp T n p < n := zch_lt (fun h => by
                                                                                            rw [← hv1, z32eq] at h
                                                                                            have c1 : (-1 : Int32).toInt = -1 := by decide
                                                                                            omega)
                                                                                          refine Or.inr ⟨zsp T n p + 1, ?_, ?_, hlt, ?_⟩
                                                                                          · unfold zld
                                                                                            rw [← hl, if_pos ⟨by assumption, by assumption⟩]
                                                                                          · rw [qm10, zup_same, q9, q8, hq1, nI_succ]
                                                                                          · rw [qm10]; exact (zup_ne _ _ (by omega)).trans ft1)⟩
    · skip
      have b11x : zB a1 0 5 := by have q1 := b4x; have q2 := b1; simp only [z32lt, z32le, z32eq, Int32.reduceToInt, Int32.toInt_zero] at h17_6; constructor <;> omega
      refine z_aload_n (pc := 20) C dX7_readLand_20 rfl ?_
      refine z_aload_n (pc := 21) C dX7_readLand_21 rfl ?_
      refine z_getI (pc := 22) C zf_X7_33 rfl rfl (by decide) dX7_readLand_22 ?_
      refine w_gp (fun v => v = g1 18 0 6) rfl (fun v12 q12 => ?_)
      have e12 : v12.toInt = (g1 18 0 6).toInt := by rw [q12]
      have b12x : zB v12 0 119 := by first | exact zB.eqv e12 c6x | (have q9 := c6x; constructor <;> omega)
      refine z_callV (pc := 25) C zk_X7_56 (x_X7_fail _ _ v12 (zB.wk (a' := 0) (b' := 120) b12x (by decide) (by decide)) hI1) rfl rfl (by decide) rfl rfl (Nat.le_of_ble_eq_true rfl) dX7_readLand_25 (fun r13 g13 q13 => ?_)
      obtain ⟨rfl, hI13, hF13q, hp13_0, hp13_1, hp13_2⟩ := q13
      have hF13 := zFr.tr hF1 hF13q (by decide)
      simp only [Option.toList, List.cons_append, List.nil_append]
      have ek13_18_0_6 : (g13 18 0 6).toInt = (g1 18 0 6).toInt := by rw [hF13q 18 0 6 rfl]
      have c13_18_0_6x : zB (g13 18 0 6) 0 119 := by first | exact zB.eqv ek13_18_0_6 c6x | (have q9 := c6x; constructor <;> omega)
      have cr13_18_0_7 : zB (g13 18 0 7) (-1) 120 := hI13 18 0 7
      refine z_iconst (pc := 28) (v := 0) C dX7_readLand_28 (by decide) ?_
      exact z_iret (pc := 29) C hr dX7_readLand_29 ⟨⟨_, rfl, (zB.wk (a' := 0) (b' := 5) (zB.of (x := 0) 0 (by decide)) (by decide) (by decide))⟩, hI13, hF13, (by
                                                                                          intro v hv; cases hv
                                                                                          have hl : v2 = zch T n (zsp T n p) - 65 := by rw [q2, hv1]
                                                                                          refine Or.inl ⟨zsp T n p, ?_, hb1, ?_⟩
                                                                                          · unfold zld
                                                                                            rw [← hl]
                                                                                            first
                                                                                              | (rw [if_neg (fun hh => absurd hh.1 (by assumption))]; done)
                                                                                              | (rw [if_neg (fun hh => hh.2 (by assumption))]; done)
                                                                                          · rw [hp13_2 (by rw [ft1]; decide), q12]; exact hq1)⟩
  · skip
    refine z_if_eq (pc := 12) 20 C dX7_readLand_12 (by decide) (fun _ => ?_) (fun h => absurd (by decide) h)
    refine z_aload_n (pc := 20) C dX7_readLand_20 rfl ?_
    refine z_aload_n (pc := 21) C dX7_readLand_21 rfl ?_
    refine z_getI (pc := 22) C zf_X7_33 rfl rfl (by decide) dX7_readLand_22 ?_
    refine w_gp (fun v => v = g1 18 0 6) rfl (fun v14 q14 => ?_)
    have e14 : v14.toInt = (g1 18 0 6).toInt := by rw [q14]
    have b14x : zB v14 0 120 := by first | exact zB.eqv e14 cr1_18_0_6 | (have q9 := cr1_18_0_6; constructor <;> omega)
    refine z_callV (pc := 25) C zk_X7_56 (x_X7_fail _ _ v14 b14x hI1) rfl rfl (by decide) rfl rfl (Nat.le_of_ble_eq_true rfl) dX7_readLand_25 (fun r15 g15 q15 => ?_)
    obtain ⟨rfl, hI15, hF15q, hp15_0, hp15_1, hp15_2⟩ := q15
    have hF15 := zFr.tr hF1 hF15q (by decide)
    simp only [Option.toList, List.cons_append, List.nil_append]
    have ek15_18_0_6 : (g15 18 0 6).toInt = (g1 18 0 6).toInt := by rw [hF15q 18 0 6 rfl]
    have c15_18_0_6x : zB (g15 18 0 6) 0 120 := by first | exact zB.eqv ek15_18_0_6 cr1_18_0_6 | (have q9 := cr1_18_0_6; constructor <;> omega)
    have cr15_18_0_7 : zB (g15 18 0 7) (-1) 120 := hI15 18 0 7
    refine z_iconst (pc := 28) (v := 0) C dX7_readLand_28 (by decide) ?_
    exact z_iret (pc := 29) C hr dX7_readLand_29 ⟨⟨_, rfl, (zB.wk (a' := 0) (b' := 5) (zB.of (x := 0) 0 (by decide)) (by decide) (by decide))⟩, hI15, hF15, (by
                                                                                          intro v hv; cases hv
                                                                                          have hl : v2 = zch T n (zsp T n p) - 65 := by rw [q2, hv1]
                                                                                          refine Or.inl ⟨zsp T n p, ?_, hb1, ?_⟩
                                                                                          · unfold zld
                                                                                            rw [← hl]
                                                                                            first
                                                                                              | (rw [if_neg (fun hh => absurd hh.1 (by assumption))]; done)
                                                                                              | (rw [if_neg (fun hh => hh.2 (by assumption))]; done)
                                                                                          · rw [hp15_2 (by rw [ft1]; decide), q14]; exact hq1)⟩

set_option maxRecDepth 100000 in
set_option maxHeartbeats 4000000 in
theorem e_X7_readNumber (d : Nat) (f : zM) (a1 : Int32) (b1 : zB a1 0 40) (a2 : Int32) (b2 : zB a2 0 99) (T : Nat → Int32) (n p : Nat) (hN : n ≤ 120) (h18 : f 18 0 3 = nI n) (hTp : ∀ i, i < n → f 19 0 i = T i) (hp : f 18 0 6 = nI p) (hb : p ≤ n) (ft : f 18 0 7 = -1) (hI : zInv f) : ZM (d + 1) yX7_readNumber cX7_readNumber 5 (some .int) [zr 18 0, zi a1, zi a2] f (fun r g => (∃ v, r = some (zi v) ∧ zB v 0 1000) ∧ zInv g ∧ zFr [(18, some 6), (18, some 7)] f g ∧ (∀ v : Int32, r = some (zi v) → (∃ e, znu T n a1.toInt a2.toInt p = .inl e ∧ e ≤ n ∧ g 18 0 7 = nI e) ∨ (∃ q, znu T n a1.toInt a2.toInt p = .inr (v, q) ∧ g 18 0 6 = nI q ∧ q ≤ n ∧ g 18 0 7 = -1 ∧ a1.toInt ≤ v.toInt ∧ v.toInt ≤ a2.toInt))) := by
  refine ZM.intro (by decide +kernel) (Nat.le_of_ble_eq_true rfl) ?_
  intro X C hr hn
  have hF : zFr [(18, some 6), (18, some 7)] f f := zFr.rf _ _
  have ct18_0_6 : zB (f 18 0 6) 0 120 := hI 18 0 6
  have ct18_0_3 : zB (f 18 0 3) 0 120 := hI 18 0 3
  have ct18_0_7 : zB (f 18 0 7) (-1) 120 := hI 18 0 7
  have J : ∀ t : Nat, (∀ a13_3 : Int32, zB a13_3 0 120 → ∀ a13_4 : Int32, zB a13_4 0 1000 → ∀ g : zM, zInv g → zFr [(18, some 6), (18, some 7)] f g → zB (g 18 0 3) 0 120 → zB (g 18 0 6) 0 120 → zB (g 18 0 7) (-1) 120 → (g 18 0 3 = nI n) → (∀ i, i < n → g 19 0 i = T i) → (g 18 0 7 = -1) → (zsp T n p ≤ (g 18 0 6).toInt.toNat ∧ (g 18 0 6).toInt.toNat ≤ n) → (zdk T n (n - zsp T n p) (zsp T n p) = zdk T n (n - (g 18 0 6).toInt.toNat) ((g 18 0 6).toInt.toNat)) → (zdv T n (n - zsp T n p) (zsp T n p) 0 = zdv T n (n - (g 18 0 6).toInt.toNat) ((g 18 0 6).toInt.toNat) a13_4.toInt) → (a13_3 = nI (zsp T n p)) → (1 + 4 * (120 - (g 18 0 6).toInt) : Int) < t → Z X 13 [some (zr 18 0), some (zi a1), some (zi a2), some (zi a13_3), some (zi a13_4)] [] g) ∧ (∀ a91_3 : Int32, zB a91_3 0 120 → ∀ a91_4 : Int32, zB a91_4 0 1000 → ∀ g : zM, zInv g → zFr [(18, some 6), (18, some 7)] f g → zB (g 18 0 3) 0 120 → zB (g 18 0 6) 0 120 → zB (g 18 0 7) (-1) 120 → (g 18 0 7 = -1) → (zsp T n p ≤ (g 18 0 6).toInt.toNat ∧ (g 18 0 6).toInt.toNat ≤ n) → (zdk T n (n - zsp T n p) (zsp T n p) = (g 18 0 6).toInt.toNat) → (zdv T n (n - zsp T n p) (zsp T n p) 0 = a91_4.toInt) → (a91_3 = nI (zsp T n p)) → (0 : Int) < t → Z X 91 [some (zr 18 0), some (zi a1), some (zi a2), some (zi a91_3), some (zi a91_4)] [] g) := by
    intro t
    induction t with
    | zero =>
      refine ⟨?_, ?_⟩ <;> (intros; exfalso; omega)
    | succ t ih =>
      obtain ⟨ih0, ih1⟩ := ih
      refine ⟨?_, ?_⟩
      · skip
        intro a13_3 b13_3 a13_4 b13_4 g13_ hI13_ hF13_ f13_18_0_3 f13_18_0_6 f13_18_0_7 hR13_0 hR13_1 hR13_2 hR13_3 hR13_4 hR13_5 hR13_6 hM13_
        refine z_aload_n (pc := 13) C dX7_readNumber_13 rfl ?_
        refine z_getI (pc := 14) C zf_X7_33 rfl rfl (by decide) dX7_readNumber_14 ?_
        refine w_gp (fun v => v = g13_ 18 0 6) rfl (fun v1 q1 => ?_)
        have e1 : v1.toInt = (g13_ 18 0 6).toInt := by rw [q1]
        have b1x : zB v1 0 120 := by first | exact zB.eqv e1 f13_18_0_6 | (have q9 := f13_18_0_6; constructor <;> omega)
        refine z_aload_n (pc := 17) C dX7_readNumber_17 rfl ?_
        refine z_getI (pc := 18) C zf_X7_29 rfl rfl (by decide) dX7_readNumber_18 ?_
        refine w_gp (fun v => v = g13_ 18 0 3) rfl (fun v2 q2 => ?_)
        have e2 : v2.toInt = (g13_ 18 0 3).toInt := by rw [q2]
        have b2x : zB v2 0 120 := by first | exact zB.eqv e2 f13_18_0_3 | (have q9 := f13_18_0_3; constructor <;> omega)
        refine z_icmp_ge (pc := 21) 91 C dX7_readNumber_21 (by decide) (fun h21_2 => ?_) (fun h21_2 => ?_)
        · skip
          have rr4 : v1.toInt ≥ v2.toInt := by simp only [z32lt, z32le, z32eq] at h21_2; omega
          exact ih1 a13_3 b13_3 a13_4 b13_4 g13_ hI13_ hF13_ f13_18_0_3 f13_18_0_6 f13_18_0_7 (by exact hR13_2) (by exact hR13_3) (by
                                                                                          have eL : (g13_ 18 0 3).toInt = (n : Int) := by rw [hR13_0]; exact nI_toInt (by omega)
                                                                                          have hnd : ¬ ((g13_ 18 0 6).toInt.toNat < n ∧ 48 ≤ (T ((g13_ 18 0 6).toInt.toNat)).toInt ∧ (T ((g13_ 18 0 6).toInt.toNat)).toInt ≤ 57) := by
                                                                                            omega
                                                                                          rw [hR13_4, zdk_stop hnd]) (by
                                                                                          have eL : (g13_ 18 0 3).toInt = (n : Int) := by rw [hR13_0]; exact nI_toInt (by omega)
                                                                                          have hnd : ¬ ((g13_ 18 0 6).toInt.toNat < n ∧ 48 ≤ (T ((g13_ 18 0 6).toInt.toNat)).toInt ∧ (T ((g13_ 18 0 6).toInt.toNat)).toInt ≤ 57) := by
                                                                                            omega
                                                                                          rw [hR13_5, zdv_stop hnd]) (by exact hR13_6) (by omega)
        · skip
          have rr5 : v1.toInt < v2.toInt := by simp only [z32lt, z32le, z32eq] at h21_2; omega
          have b6x : zB v1 0 119 := by have q1 := b1x; have q2 := b2x; simp only [z32lt, z32le, z32eq, Int32.reduceToInt, Int32.toInt_zero] at h21_2; constructor <;> omega
          have c7x : zB (g13_ 18 0 6) 0 119 := by first | assumption | (constructor <;> omega)
          have b8x : zB v2 1 120 := by have q1 := b1x; have q2 := b2x; simp only [z32lt, z32le, z32eq, Int32.reduceToInt, Int32.toInt_zero] at h21_2; constructor <;> omega
          have c9x : zB (g13_ 18 0 3) 1 120 := by first | assumption | (constructor <;> omega)
          refine z_aload_n (pc := 24) C dX7_readNumber_24 rfl ?_
          refine z_getR (pc := 25) C zf_X7_9 rfl rfl (by decide) dX7_readNumber_25 ?_
          refine z_aload_n (pc := 28) C dX7_readNumber_28 rfl ?_
          refine z_getI (pc := 29) C zf_X7_33 rfl rfl (by decide) dX7_readNumber_29 ?_
          refine w_gp (fun v => v = g13_ 18 0 6) rfl (fun v10 q10 => ?_)
          have e10 : v10.toInt = (g13_ 18 0 6).toInt := by rw [q10]
          have b10x : zB v10 0 119 := by first | exact zB.eqv e10 c7x | (have q9 := c7x; constructor <;> omega)
          refine z_cald (pc := 32) C rfl (by decide) (zIx b10x (by decide) (by decide)) dX7_readNumber_32 ?_
          have kq32_10 : v10.toNatClampNeg = v10.toInt.toNat := rfl
          refine w_gp (fun v => v = g13_ 19 0 v10.toNatClampNeg) rfl (fun v11 q11 => ?_)
          have b11x : zB v11 0 255 := by rw [q11]; exact (hI13_ 19 0 v10.toNatClampNeg)
          refine z_bipush (pc := 33) (v := 48) C dX7_readNumber_33 (by decide) ?_
          refine z_icmp_lt (pc := 35) 91 C dX7_readNumber_35 (by decide) (fun h35_11 => ?_) (fun h35_11 => ?_)
          · skip
            have b13x : zB v11 0 47 := by have q1 := b11x; have q2 := (zB.of (x := 48) 48 (by decide)); simp only [z32lt, z32le, z32eq, Int32.reduceToInt, Int32.toInt_zero] at h35_11; constructor <;> omega
            exact ih1 a13_3 b13_3 a13_4 b13_4 g13_ hI13_ hF13_ (zB.wk c9x (by decide) (by decide)) (zB.wk c7x (by decide) (by decide)) f13_18_0_7 (by exact hR13_2) (by exact hR13_3) (by
                                                                                          have eL : (g13_ 18 0 3).toInt = (n : Int) := by rw [hR13_0]; exact nI_toInt (by omega)
                                                                                          have hnd : ¬ ((g13_ 18 0 6).toInt.toNat < n ∧ 48 ≤ (T ((g13_ 18 0 6).toInt.toNat)).toInt ∧ (T ((g13_ 18 0 6).toInt.toNat)).toInt ≤ 57) := by
                                                                                            intro hh
                                                                                            have t1 : v11 = T ((g13_ 18 0 6).toInt.toNat) := by rw [q11, show (v10).toNatClampNeg = (g13_ 18 0 6).toInt.toNat from by omega]; exact hR13_1 _ hh.1
                                                                                            rw [← t1] at hh
                                                                                            omega
                                                                                          rw [hR13_4, zdk_stop hnd]) (by
                                                                                          have eL : (g13_ 18 0 3).toInt = (n : Int) := by rw [hR13_0]; exact nI_toInt (by omega)
                                                                                          have hnd : ¬ ((g13_ 18 0 6).toInt.toNat < n ∧ 48 ≤ (T ((g13_ 18 0 6).toInt.toNat)).toInt ∧ (T ((g13_ 18 0 6).toInt.toNat)).toInt ≤ 57) := by
                                                                                            intro hh
                                                                                            have t1 : v11 = T ((g13_ 18 0 6).toInt.toNat) := by rw [q11, show (v10).toNatClampNeg = (g13_ 18 0 6).toInt.toNat from by omega]; exact hR13_1 _ hh.1
                                                                                            rw [← t1] at hh
                                                                                            omega
                                                                                          rw [hR13_5, zdv_stop hnd]) (by exact hR13_6) (by omega)
          · skip
            have b14x : zB v11 48 255 := by have q1 := b11x; have q2 := (zB.of (x := 48) 48 (by decide)); simp only [z32lt, z32le, z32eq, Int32.reduceToInt, Int32.toInt_zero] at h35_11; constructor <;> omega
            refine z_aload_n (pc := 38) C dX7_readNumber_38 rfl ?_
            refine z_getR (pc := 39) C zf_X7_9 rfl rfl (by decide) dX7_readNumber_39 ?_
            refine z_aload_n (pc := 42) C dX7_readNumber_42 rfl ?_
            refine z_getI (pc := 43) C zf_X7_33 rfl rfl (by decide) dX7_readNumber_43 ?_
            refine w_gp (fun v => v = g13_ 18 0 6) rfl (fun v15 q15 => ?_)
            have e15 : v15.toInt = (g13_ 18 0 6).toInt := by rw [q15]
            have b15x : zB v15 0 119 := by first | exact zB.eqv e15 c7x | (have q9 := c7x; constructor <;> omega)
            refine z_cald (pc := 46) C rfl (by decide) (zIx b15x (by decide) (by decide)) dX7_readNumber_46 ?_
            have kq46_15 : v15.toNatClampNeg = v15.toInt.toNat := rfl
            refine w_gp (fun v => v = g13_ 19 0 v15.toNatClampNeg) rfl (fun v16 q16 => ?_)
            have b16x : zB v16 0 255 := by rw [q16]; exact (hI13_ 19 0 v15.toNatClampNeg)
            refine z_bipush (pc := 47) (v := 57) C dX7_readNumber_47 (by decide) ?_
            refine z_icmp_gt (pc := 49) 91 C dX7_readNumber_49 (by decide) (fun h49_16 => ?_) (fun h49_16 => ?_)
            · skip
              have b18x : zB v16 58 255 := by have q1 := b16x; have q2 := (zB.of (x := 57) 57 (by decide)); simp only [z32lt, z32le, z32eq, Int32.reduceToInt, Int32.toInt_zero] at h49_16; constructor <;> omega
              exact ih1 a13_3 b13_3 a13_4 b13_4 g13_ hI13_ hF13_ (zB.wk c9x (by decide) (by decide)) (zB.wk c7x (by decide) (by decide)) f13_18_0_7 (by exact hR13_2) (by exact hR13_3) (by
                                                                                          have eL : (g13_ 18 0 3).toInt = (n : Int) := by rw [hR13_0]; exact nI_toInt (by omega)
                                                                                          have hnd : ¬ ((g13_ 18 0 6).toInt.toNat < n ∧ 48 ≤ (T ((g13_ 18 0 6).toInt.toNat)).toInt ∧ (T ((g13_ 18 0 6).toInt.toNat)).toInt ≤ 57) := by
                                                                                            intro hh
                                                                                            have t1 : v16 = T ((g13_ 18 0 6).toInt.toNat) := by rw [q16, show (v15).toNatClampNeg = (g13_ 18 0 6).toInt.toNat from by omega]; exact hR13_1 _ hh.1
                                                                                            rw [← t1] at hh
                                                                                            omega
                                                                                          rw [hR13_4, zdk_stop hnd]) (by
                                                                                          have eL : (g13_ 18 0 3).toInt = (n : Int) := by rw [hR13_0]; exact nI_toInt (by omega)
                                                                                          have hnd : ¬ ((g13_ 18 0 6).toInt.toNat < n ∧ 48 ≤ (T ((g13_ 18 0 6).toInt.toNat)).toInt ∧ (T ((g13_ 18 0 6).toInt.toNat)).toInt ≤ 57) := by
                                                                                            intro hh
                                                                                            have t1 : v16 = T ((g13_ 18 0 6).toInt.toNat) := by rw [q16, show (v15).toNatClampNeg = (g13_ 18 0 6).toInt.toNat from by omega]; exact hR13_1 _ hh.1
                                                                                            rw [← t1] at hh
                                                                                            omega
                                                                                          rw [hR13_5, zdv_stop hnd]) (by exact hR13_6) (by omega)
            · skip
              have b19x : zB v16 0 57 := by have q1 := b16x; have q2 := (zB.of (x := 57) 57 (by decide)); simp only [z32lt, z32le, z32eq, Int32.reduceToInt, Int32.toInt_zero] at h49_16; constructor <;> omega
              refine z_iload (pc := 52) C dX7_readNumber_52 rfl ?_
              refine z_bipush (pc := 54) (v := 10) C dX7_readNumber_54 (by decide) ?_
              refine z_imul (pc := 56) C dX7_readNumber_56 ?_
              refine w_gp (fun v => v = a13_4 * (10 : Int32)) rfl (fun v20 q20 => ?_)
              have e20 : v20.toInt = 10 * a13_4.toInt := by rw [q20]; exact (by rw [Int32.mul_comm]; exact zmul_kb 10 (by decide) (by decide) b13_4 (by decide) (by decide))
              have b20x : zB v20 0 10000 := zmul_bb e20 (by decide) b13_4
              refine z_aload_n (pc := 57) C dX7_readNumber_57 rfl ?_
              refine z_getR (pc := 58) C zf_X7_9 rfl rfl (by decide) dX7_readNumber_58 ?_
              refine z_aload_n (pc := 61) C dX7_readNumber_61 rfl ?_
              refine z_getI (pc := 62) C zf_X7_33 rfl rfl (by decide) dX7_readNumber_62 ?_
              refine w_gp (fun v => v = g13_ 18 0 6) rfl (fun v21 q21 => ?_)
              have e21 : v21.toInt = (g13_ 18 0 6).toInt := by rw [q21]
              have b21x : zB v21 0 119 := by first | exact zB.eqv e21 c7x | (have q9 := c7x; constructor <;> omega)
              refine z_cald (pc := 65) C rfl (by decide) (zIx b21x (by decide) (by decide)) dX7_readNumber_65 ?_
              have kq65_21 : v21.toNatClampNeg = v21.toInt.toNat := rfl
              refine w_gp (fun v => v = g13_ 19 0 v21.toNatClampNeg) rfl (fun v22 q22 => ?_)
              have b22x : zB v22 0 255 := by rw [q22]; exact (hI13_ 19 0 v21.toNatClampNeg)
              have i65 : v22 = v11 := by rw [q22, q11, show (v21).toNatClampNeg = (v10).toNatClampNeg from by omega]
              have i46 : v16 = v11 := by rw [q16, q11, show (v15).toNatClampNeg = (v10).toNatClampNeg from by omega]
              have i65e : v22.toInt = v11.toInt := by rw [i65]
              have i46e : v16.toInt = v11.toInt := by rw [i46]
              have b65y : zB v22 48 57 := by first | assumption | (constructor <;> omega)
              refine z_iadd (pc := 66) C dX7_readNumber_66 ?_
              refine w_gp (fun v => v = v20 + v22) rfl (fun v23 q23 => ?_)
              have e23 : v23.toInt = v20.toInt + v22.toInt := by rw [q23]; exact (zadd_eb b20x b65y (by decide) (by decide))
              have b23x : zB v23 48 10057 := by have q1 := b20x; have q2 := b65y; constructor <;> omega
              refine z_bipush (pc := 67) (v := 48) C dX7_readNumber_67 (by decide) ?_
              refine z_isub (pc := 69) C dX7_readNumber_69 ?_
              refine w_gp (fun v => v = v23 - (48 : Int32)) rfl (fun v24 q24 => ?_)
              have e24 : v24.toInt = v23.toInt - 48 := by rw [q24]; exact (zsub_eb b23x (zB.of (x := 48) 48 (by decide)) (by decide) (by decide))
              have b24x : zB v24 0 10009 := by have q1 := b23x; have q2 := (zB.of (x := 48) 48 (by decide)); constructor <;> omega
              refine z_sipush (pc := 70) (v := 1000) C dX7_readNumber_70 (by decide) ?_
              refine z_mmin (pc := 73) C zk_X7_112 (Nat.le_of_ble_eq_true rfl) dX7_readNumber_73 ?_
              refine w_gp (fun v => v = imin v24 (1000 : Int32)) rfl (fun v25 q25 => ?_)
              have b25x : zB v25 0 1000 := by rw [q25]; exact (by have q9 := zmin_b b24x (zB.of (x := 1000) 1000 (by decide)); constructor <;> omega)
              refine z_istore (pc := 76) C dX7_readNumber_76 (by rw [hn]; decide) rfl ?_
              refine z_aload_n (pc := 78) C dX7_readNumber_78 rfl ?_
              refine z_dupr (pc := 79) C dX7_readNumber_79 ?_
              refine z_getI (pc := 80) C zf_X7_33 rfl rfl (by decide) dX7_readNumber_80 ?_
              refine w_gp (fun v => v = g13_ 18 0 6) rfl (fun v26 q26 => ?_)
              have e26 : v26.toInt = (g13_ 18 0 6).toInt := by rw [q26]
              have b26x : zB v26 0 119 := by first | exact zB.eqv e26 c7x | (have q9 := c7x; constructor <;> omega)
              refine z_iconst (pc := 83) (v := 1) C dX7_readNumber_83 (by decide) ?_
              refine z_iadd (pc := 84) C dX7_readNumber_84 ?_
              refine w_gp (fun v => v = v26 + (1 : Int32)) rfl (fun v27 q27 => ?_)
              have e27 : v27.toInt = v26.toInt + 1 := by rw [q27]; exact (zadd_eb b26x (zB.of (x := 1) 1 (by decide)) (by decide) (by decide))
              have b27x : zB v27 1 120 := by have q1 := b26x; have q2 := (zB.of (x := 1) 1 (by decide)); constructor <;> omega
              refine z_putI (pc := 85) C zf_X7_33 zp_7_6 rfl rfl (by decide) dX7_readNumber_85 ?_
              refine w_memx hI13_ hF13_ (zB.wk (a' := 0) (b' := 120) b27x (by decide) (by decide)) rfl (fun g28 qm28 hI28 hF28 hq28 hx28 => ?_)
              have ec28 : (g28 18 0 6).toInt = v27.toInt := by rw [hx28]
              have c28x : zB (g28 18 0 6) 1 120 := by first | exact zB.eqv ec28 b27x | (have q9 := b27x; constructor <;> omega)
              have ek28_18_0_3 : (g28 18 0 3).toInt = (g13_ 18 0 3).toInt := by rw [hq28 18 0 3 (by omega)]
              have c28_18_0_3x : zB (g28 18 0 3) 1 120 := by first | exact zB.eqv ek28_18_0_3 c9x | (have q9 := c9x; constructor <;> omega)
              have ek28_18_0_7 : (g28 18 0 7).toInt = (g13_ 18 0 7).toInt := by rw [hq28 18 0 7 (by omega)]
              have c28_18_0_7x : zB (g28 18 0 7) (-1) 120 := by first | exact zB.eqv ek28_18_0_7 f13_18_0_7 | (have q9 := f13_18_0_7; constructor <;> omega)
              refine z_goto (pc := 88) 13 C dX7_readNumber_88 (by decide) ?_
              exact ih0 a13_3 b13_3 v25 b25x g28 hI28 hF28 (zB.wk c28_18_0_3x (by decide) (by decide)) (zB.wk c28x (by decide) (by decide)) c28_18_0_7x (by subst qm28; exact (zup_ne _ _ (by omega)).trans hR13_0) (by intro i hi; subst qm28; exact (zup_ne _ _ (by omega)).trans (hR13_1 i hi)) (by subst qm28; exact (zup_ne _ _ (by omega)).trans hR13_2) (by
                                                                                          have eL : (g13_ 18 0 3).toInt = (n : Int) := by rw [hR13_0]; exact nI_toInt (by omega)
                                                                                          have hlt : (g13_ 18 0 6).toInt.toNat < n := by omega
                                                                                          have t1 : v11 = T ((g13_ 18 0 6).toInt.toNat) := by rw [q11, show (v10).toNatClampNeg = (g13_ 18 0 6).toInt.toNat from by omega]; exact hR13_1 _ hlt
                                                                                          have t2 : v16 = T ((g13_ 18 0 6).toInt.toNat) := by rw [q16, show (v15).toNatClampNeg = (g13_ 18 0 6).toInt.toNat from by omega]; exact hR13_1 _ hlt
                                                                                          have t3 : v22 = T ((g13_ 18 0 6).toInt.toNat) := by rw [q22, show (v21).toNatClampNeg = (g13_ 18 0 6).toInt.toNat from by omega]; exact hR13_1 _ hlt
                                                                                          have eP : (g28 18 0 6).toInt.toNat = (g13_ 18 0 6).toInt.toNat + 1 := by omega
                                                                                          have hd : (g13_ 18 0 6).toInt.toNat < n ∧ 48 ≤ (T ((g13_ 18 0 6).toInt.toNat)).toInt ∧ (T ((g13_ 18 0 6).toInt.toNat)).toInt ≤ 57 := ⟨hlt, by rw [← t1]; omega, by rw [← t2]; omega⟩
                                                                                          have h3 := hR13_3
                                                                                          omega) (by
                                                                                          have eL : (g13_ 18 0 3).toInt = (n : Int) := by rw [hR13_0]; exact nI_toInt (by omega)
                                                                                          have hlt : (g13_ 18 0 6).toInt.toNat < n := by omega
                                                                                          have t1 : v11 = T ((g13_ 18 0 6).toInt.toNat) := by rw [q11, show (v10).toNatClampNeg = (g13_ 18 0 6).toInt.toNat from by omega]; exact hR13_1 _ hlt
                                                                                          have t2 : v16 = T ((g13_ 18 0 6).toInt.toNat) := by rw [q16, show (v15).toNatClampNeg = (g13_ 18 0 6).toInt.toNat from by omega]; exact hR13_1 _ hlt
                                                                                          have t3 : v22 = T ((g13_ 18 0 6).toInt.toNat) := by rw [q22, show (v21).toNatClampNeg = (g13_ 18 0 6).toInt.toNat from by omega]; exact hR13_1 _ hlt
                                                                                          have eP : (g28 18 0 6).toInt.toNat = (g13_ 18 0 6).toInt.toNat + 1 := by omega
                                                                                          have hd : (g13_ 18 0 6).toInt.toNat < n ∧ 48 ≤ (T ((g13_ 18 0 6).toInt.toNat)).toInt ∧ (T ((g13_ 18 0 6).toInt.toNat)).toInt ≤ 57 := ⟨hlt, by rw [← t1]; omega, by rw [← t2]; omega⟩
                                                                                          rw [hR13_4, zdk_step hd, eP]) (by
                                                                                          have eL : (g13_ 18 0 3).toInt = (n : Int) := by rw [hR13_0]; exact nI_toInt (by omega)
                                                                                          have hlt : (g13_ 18 0 6).toInt.toNat < n := by omega
                                                                                          have t1 : v11 = T ((g13_ 18 0 6).toInt.toNat) := by rw [q11, show (v10).toNatClampNeg = (g13_ 18 0 6).toInt.toNat from by omega]; exact hR13_1 _ hlt
                                                                                          have t2 : v16 = T ((g13_ 18 0 6).toInt.toNat) := by rw [q16, show (v15).toNatClampNeg = (g13_ 18 0 6).toInt.toNat from by omega]; exact hR13_1 _ hlt
                                                                                          have t3 : v22 = T ((g13_ 18 0 6).toInt.toNat) := by rw [q22, show (v21).toNatClampNeg = (g13_ 18 0 6).toInt.toNat from by omega]; exact hR13_1 _ hlt
                                                                                          have eP : (g28 18 0 6).toInt.toNat = (g13_ 18 0 6).toInt.toNat + 1 := by omega
                                                                                          have hd : (g13_ 18 0 6).toInt.toNat < n ∧ 48 ≤ (T ((g13_ 18 0 6).toInt.toNat)).toInt ∧ (T ((g13_ 18 0 6).toInt.toNat)).toInt ≤ 57 := ⟨hlt, by rw [← t1]; omega, by rw [← t2]; omega⟩
                                                                                          have em : (v25).toInt = min (10 * a13_4.toInt + ((T ((g13_ 18 0 6).toInt.toNat)).toInt - 48)) 1000 := by
                                                                                            rw [q25, imin_e, ← t3]
                                                                                            have c1 : (1000 : Int32).toInt = 1000 := by decide
                                                                                            omega
                                                                                          rw [hR13_5, zdv_step hd, eP, em]) (by exact hR13_6) (by omega)
      · skip
        intro a91_3 b91_3 a91_4 b91_4 g91_ hI91_ hF91_ f91_18_0_3 f91_18_0_6 f91_18_0_7 hR91_0 hR91_1 hR91_2 hR91_3 hR91_4 hM91_
        refine z_aload_n (pc := 91) C dX7_readNumber_91 rfl ?_
        refine z_getI (pc := 92) C zf_X7_33 rfl rfl (by decide) dX7_readNumber_92 ?_
        refine w_gp (fun v => v = g91_ 18 0 6) rfl (fun v29 q29 => ?_)
        have e29 : v29.toInt = (g91_ 18 0 6).toInt := by rw [q29]
        have b29x : zB v29 0 120 := by first | exact zB.eqv e29 f91_18_0_6 | (have q9 := f91_18_0_6; constructor <;> omega)
        refine z_iload_n (pc := 95) C dX7_readNumber_95 rfl ?_
        refine z_icmp_eq (pc := 96) 111 C dX7_readNumber_96 (by decide) (fun h96_29 => ?_) (fun h96_29 => ?_)
        · skip
          have rr31 : v29.toInt = a91_3.toInt := by simp only [z32lt, z32le, z32eq] at h96_29; omega
          refine z_aload_n (pc := 111) C dX7_readNumber_111 rfl ?_
          refine z_iload_n (pc := 112) C dX7_readNumber_112 rfl ?_
          refine z_callV (pc := 113) C zk_X7_56 (x_X7_fail _ _ a91_3 b91_3 hI91_) rfl rfl (by decide) rfl rfl (Nat.le_of_ble_eq_true rfl) dX7_readNumber_113 (fun r32 g32 q32 => ?_)
          obtain ⟨rfl, hI32, hF32q, hp32_0, hp32_1, hp32_2⟩ := q32
          have hF32 := zFr.tr hF91_ hF32q (by decide)
          simp only [Option.toList, List.cons_append, List.nil_append]
          have ek32_18_0_6 : (g32 18 0 6).toInt = (g91_ 18 0 6).toInt := by rw [hF32q 18 0 6 rfl]
          have c32_18_0_6x : zB (g32 18 0 6) 0 120 := by first | exact zB.eqv ek32_18_0_6 f91_18_0_6 | (have q9 := f91_18_0_6; constructor <;> omega)
          have ek32_18_0_3 : (g32 18 0 3).toInt = (g91_ 18 0 3).toInt := by rw [hF32q 18 0 3 rfl]
          have c32_18_0_3x : zB (g32 18 0 3) 0 120 := by first | exact zB.eqv ek32_18_0_3 f91_18_0_3 | (have q9 := f91_18_0_3; constructor <;> omega)
          have cr32_18_0_7 : zB (g32 18 0 7) (-1) 120 := hI32 18 0 7
          refine z_iload (pc := 116) C dX7_readNumber_116 rfl ?_
          exact z_iret (pc := 118) C hr dX7_readNumber_118 ⟨⟨_, rfl, b91_4⟩, hI32, hF32, (by
                                                                                          intro v hv; cases hv
                                                                                          have hz : Int32.ofInt a91_4.toInt = a91_4 := Int32.ofInt_toInt a91_4
                                                                                          have l3 : a91_3.toInt = ((zsp T n p : Nat) : Int) := by rw [hR91_4]; exact nI_toInt (by omega)
                                                                                          have h1 := hR91_1
                                                                                          refine Or.inl ⟨zsp T n p, ?_, by omega, ?_⟩
                                                                                          · unfold znu
                                                                                            rw [hR91_2, hR91_3]
                                                                                            rw [if_pos]
                                                                                            first
                                                                                              | (refine Or.inl ?_; simp only [z32eq] at *; omega)
                                                                                              | (refine Or.inr (Or.inl ?_); omega)
                                                                                              | (refine Or.inr (Or.inr ?_); omega)
                                                                                          · rw [hp32_2 (by rw [hR91_0]; decide)]; exact hR91_4)⟩
        · skip
          refine z_iload (pc := 99) C dX7_readNumber_99 rfl ?_
          refine z_iload_n (pc := 101) C dX7_readNumber_101 rfl ?_
          refine z_icmp_lt (pc := 102) 111 C dX7_readNumber_102 (by decide) (fun h102_32 => ?_) (fun h102_32 => ?_)
          · skip
            have rr34 : a91_4.toInt < a1.toInt := by simp only [z32lt, z32le, z32eq] at h102_32; omega
            have b35x : zB a91_4 0 39 := by have q1 := b91_4; have q2 := b1; simp only [z32lt, z32le, z32eq, Int32.reduceToInt, Int32.toInt_zero] at h102_32; constructor <;> omega
            have b36x : zB a1 1 40 := by have q1 := b91_4; have q2 := b1; simp only [z32lt, z32le, z32eq, Int32.reduceToInt, Int32.toInt_zero] at h102_32; constructor <;> omega
            refine z_aload_n (pc := 111) C dX7_readNumber_111 rfl ?_
            refine z_iload_n (pc := 112) C dX7_readNumber_112 rfl ?_
            refine z_callV (pc := 113) C zk_X7_56 (x_X7_fail _ _ a91_3 b91_3 hI91_) rfl rfl (by decide) rfl rfl (Nat.le_of_ble_eq_true rfl) dX7_readNumber_113 (fun r37 g37 q37 => ?_)
            obtain ⟨rfl, hI37, hF37q, hp37_0, hp37_1, hp37_2⟩ := q37
            have hF37 := zFr.tr hF91_ hF37q (by decide)
            simp only [Option.toList, List.cons_append, List.nil_append]
            have ek37_18_0_6 : (g37 18 0 6).toInt = (g91_ 18 0 6).toInt := by rw [hF37q 18 0 6 rfl]
            have c37_18_0_6x : zB (g37 18 0 6) 0 120 := by first | exact zB.eqv ek37_18_0_6 f91_18_0_6 | (have q9 := f91_18_0_6; constructor <;> omega)
            have ek37_18_0_3 : (g37 18 0 3).toInt = (g91_ 18 0 3).toInt := by rw [hF37q 18 0 3 rfl]
            have c37_18_0_3x : zB (g37 18 0 3) 0 120 := by first | exact zB.eqv ek37_18_0_3 f91_18_0_3 | (have q9 := f91_18_0_3; constructor <;> omega)
            have cr37_18_0_7 : zB (g37 18 0 7) (-1) 120 := hI37 18 0 7
            refine z_iload (pc := 116) C dX7_readNumber_116 rfl ?_
            exact z_iret (pc := 118) C hr dX7_readNumber_118 ⟨⟨_, rfl, (zB.wk (a' := 0) (b' := 1000) b35x (by decide) (by decide))⟩, hI37, hF37, (by
                                                                                          intro v hv; cases hv
                                                                                          have hz : Int32.ofInt a91_4.toInt = a91_4 := Int32.ofInt_toInt a91_4
                                                                                          have l3 : a91_3.toInt = ((zsp T n p : Nat) : Int) := by rw [hR91_4]; exact nI_toInt (by omega)
                                                                                          have h1 := hR91_1
                                                                                          refine Or.inl ⟨zsp T n p, ?_, by omega, ?_⟩
                                                                                          · unfold znu
                                                                                            rw [hR91_2, hR91_3]
                                                                                            rw [if_pos]
                                                                                            first
                                                                                              | (refine Or.inl ?_; simp only [z32eq] at *; omega)
                                                                                              | (refine Or.inr (Or.inl ?_); omega)
                                                                                              | (refine Or.inr (Or.inr ?_); omega)
                                                                                          · rw [hp37_2 (by rw [hR91_0]; decide)]; exact hR91_4)⟩
          · skip
            have rr38 : a91_4.toInt ≥ a1.toInt := by simp only [z32lt, z32le, z32eq] at h102_32; omega
            refine z_iload (pc := 105) C dX7_readNumber_105 rfl ?_
            refine z_iload_n (pc := 107) C dX7_readNumber_107 rfl ?_
            refine z_icmp_le (pc := 108) 116 C dX7_readNumber_108 (by decide) (fun h108_38 => ?_) (fun h108_38 => ?_)
            · skip
              have rr40 : a91_4.toInt ≤ a2.toInt := by simp only [z32lt, z32le, z32eq] at h108_38; omega
              have b41x : zB a91_4 0 99 := by have q1 := b91_4; have q2 := b2; simp only [z32lt, z32le, z32eq, Int32.reduceToInt, Int32.toInt_zero] at h108_38; constructor <;> omega
              refine z_iload (pc := 116) C dX7_readNumber_116 rfl ?_
              exact z_iret (pc := 118) C hr dX7_readNumber_118 ⟨⟨_, rfl, (zB.wk (a' := 0) (b' := 1000) b41x (by decide) (by decide))⟩, hI91_, hF91_, (by
                                                                                          intro v hv; cases hv
                                                                                          have hz : Int32.ofInt a91_4.toInt = a91_4 := Int32.ofInt_toInt a91_4
                                                                                          have l3 : a91_3.toInt = ((zsp T n p : Nat) : Int) := by rw [hR91_4]; exact nI_toInt (by omega)
                                                                                          have h1 := hR91_1
                                                                                          have hne : ¬ ((g91_ 18 0 6).toInt.toNat = zsp T n p ∨ a91_4.toInt < a1.toInt ∨ a2.toInt < a91_4.toInt) := by
                                                                                            have hx : ¬ (v29).toInt = a91_3.toInt := by rw [← z32eq]; assumption
                                                                                            omega
                                                                                          have hpl : g91_ 18 0 6 = nI ((g91_ 18 0 6).toInt.toNat) := (nI_ofI (by omega)).1
                                                                                          refine Or.inr ⟨(g91_ 18 0 6).toInt.toNat, ?_, hpl, h1.2, hR91_0, by omega, by omega⟩
                                                                                          unfold znu
                                                                                          rw [hR91_2, hR91_3, hz, if_neg hne])⟩
            · skip
              have rr42 : a91_4.toInt > a2.toInt := by simp only [z32lt, z32le, z32eq] at h108_38; omega
              have b43x : zB a91_4 1 1000 := by have q1 := b91_4; have q2 := b2; simp only [z32lt, z32le, z32eq, Int32.reduceToInt, Int32.toInt_zero] at h108_38; constructor <;> omega
              refine z_aload_n (pc := 111) C dX7_readNumber_111 rfl ?_
              refine z_iload_n (pc := 112) C dX7_readNumber_112 rfl ?_
              refine z_callV (pc := 113) C zk_X7_56 (x_X7_fail _ _ a91_3 b91_3 hI91_) rfl rfl (by decide) rfl rfl (Nat.le_of_ble_eq_true rfl) dX7_readNumber_113 (fun r44 g44 q44 => ?_)
              obtain ⟨rfl, hI44, hF44q, hp44_0, hp44_1, hp44_2⟩ := q44
              have hF44 := zFr.tr hF91_ hF44q (by decide)
              simp only [Option.toList, List.cons_append, List.nil_append]
              have ek44_18_0_6 : (g44 18 0 6).toInt = (g91_ 18 0 6).toInt := by rw [hF44q 18 0 6 rfl]
              have c44_18_0_6x : zB (g44 18 0 6) 0 120 := by first | exact zB.eqv ek44_18_0_6 f91_18_0_6 | (have q9 := f91_18_0_6; constructor <;> omega)
              have ek44_18_0_3 : (g44 18 0 3).toInt = (g91_ 18 0 3).toInt := by rw [hF44q 18 0 3 rfl]
              have c44_18_0_3x : zB (g44 18 0 3) 0 120 := by first | exact zB.eqv ek44_18_0_3 f91_18_0_3 | (have q9 := f91_18_0_3; constructor <;> omega)
              have cr44_18_0_7 : zB (g44 18 0 7) (-1) 120 := hI44 18 0 7
              refine z_iload (pc := 116) C dX7_readNumber_116 rfl ?_
              exact z_iret (pc := 118) C hr dX7_readNumber_118 ⟨⟨_, rfl, (zB.wk (a' := 0) (b' := 1000) b43x (by decide) (by decide))⟩, hI44, hF44, (by
                                                                                          intro v hv; cases hv
                                                                                          have hz : Int32.ofInt a91_4.toInt = a91_4 := Int32.ofInt_toInt a91_4
                                                                                          have l3 : a91_3.toInt = ((zsp T n p : Nat) : Int) := by rw [hR91_4]; exact nI_toInt (by omega)
                                                                                          have h1 := hR91_1
                                                                                          refine Or.inl ⟨zsp T n p, ?_, by omega, ?_⟩
                                                                                          · unfold znu
                                                                                            rw [hR91_2, hR91_3]
                                                                                            rw [if_pos]
                                                                                            first
                                                                                              | (refine Or.inl ?_; simp only [z32eq] at *; omega)
                                                                                              | (refine Or.inr (Or.inl ?_); omega)
                                                                                              | (refine Or.inr (Or.inr ?_); omega)
                                                                                          · rw [hp44_2 (by rw [hR91_0]; decide)]; exact hR91_4)⟩
  obtain ⟨J0, J1⟩ := J 497
  show Z X 0 [some (zr 18 0), some (zi a1), some (zi a2), none, none] [] f
  refine z_aload_n (pc := 0) C dX7_readNumber_0 rfl ?_
  refine z_callV (pc := 1) C zk_X7_52 (e_X7_next _ _ T n (p) hN h18 hTp hp hb hI) rfl rfl (by decide) rfl rfl (Nat.le_of_ble_eq_true rfl) dX7_readNumber_1 (fun r45 g45 q45 => ?_)
  obtain ⟨⟨v45, rfl, b45x⟩, hI45, hF45q, hp45⟩ := q45
  have hp45 := hp45 _ rfl
  have hF45 := zFr.tr hF hF45q (by decide)
  simp only [Option.toList, List.cons_append, List.nil_append]
  have cr45_18_0_6 : zB (g45 18 0 6) 0 120 := hI45 18 0 6
  have ek45_18_0_3 : (g45 18 0 3).toInt = (f 18 0 3).toInt := by rw [hF45q 18 0 3 rfl]
  have c45_18_0_3x : zB (g45 18 0 3) 0 120 := by first | exact zB.eqv ek45_18_0_3 ct18_0_3 | (have q9 := ct18_0_3; constructor <;> omega)
  have ek45_18_0_7 : (g45 18 0 7).toInt = (f 18 0 7).toInt := by rw [hF45q 18 0 7 rfl]
  have c45_18_0_7x : zB (g45 18 0 7) (-1) 120 := by first | exact zB.eqv ek45_18_0_7 ct18_0_7 | (have q9 := ct18_0_7; constructor <;> omega)
  obtain ⟨hv45, hq45, hj45⟩ := hp45
  have h1845 : g45 18 0 3 = nI n := (hF45q 18 0 3 rfl).trans h18
  have hTp45 : ∀ i, i < n → g45 19 0 i = T i := fun i hi => (hF45q 19 0 i rfl).trans (hTp i hi)
  have ft45 : g45 18 0 7 = -1 := (hF45q 18 0 7 rfl).trans ft
  have hb45 : zsp T n (p) ≤ n := zsp_len hb
  refine z_pop (pc := 4) C dX7_readNumber_4 ?_
  refine z_aload_n (pc := 5) C dX7_readNumber_5 rfl ?_
  refine z_getI (pc := 6) C zf_X7_33 rfl rfl (by decide) dX7_readNumber_6 ?_
  refine w_gp (fun v => v = g45 18 0 6) rfl (fun v46 q46 => ?_)
  have e46 : v46.toInt = (g45 18 0 6).toInt := by rw [q46]
  have b46x : zB v46 0 120 := by first | exact zB.eqv e46 cr45_18_0_6 | (have q9 := cr45_18_0_6; constructor <;> omega)
  refine z_istore_n (pc := 9) C dX7_readNumber_9 (by rw [hn]; decide) rfl ?_
  refine z_iconst (pc := 10) (v := 0) C dX7_readNumber_10 (by decide) ?_
  refine z_istore (pc := 11) C dX7_readNumber_11 (by rw [hn]; decide) rfl ?_
  exact J0 v46 b46x 0 (zB.wk (a' := 0) (b' := 1000) (zB.of (x := 0) 0 (by decide)) (by decide) (by decide)) g45 hI45 hF45 c45_18_0_3x cr45_18_0_6 c45_18_0_7x (by exact h1845) (by exact hTp45) (by exact ft45) (by rw [hq45, nI_tt (by omega)]; exact ⟨Nat.le_refl _, hb45⟩) (by rw [hq45, nI_tt (by omega)]) (by rw [hq45, nI_tt (by omega)]; rfl) (by rw [q46]; exact hq45) (by have qc0 : (0 : Int32).toInt = 0 := (by decide); omega)
