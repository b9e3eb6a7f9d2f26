theorem e_X7_next (d : Nat) (f : zM) (T : Nat → Int32) (n p : Nat) (hN : n ≤ 120) (h18 : f 18 0 3 = nI n) (hTp : ∀ i, i < n → f 19 0 i = T i) (hp : f 18 0 6 = nI p) (hb : p ≤ n) (hI : zInv f) : ZM d yX7_next cX7_next 1 (some .int) [zr 18 0] f (fun r g => (∃ v, r = some (zi v) ∧ zB v (-1) 255) ∧ zInv g ∧ zFr [(18, some 6)] f g ∧ (∀ v : Int32, r = some (zi v) → v = zch T n (zsp T n p) ∧ g 18 0 6 = nI (zsp T n p) ∧ (0 ≤ v.toInt → 0 ≤ (g 18 0 6).toInt ∧ (g 18 0 6).toInt ≤ 119))) := by
  refine ZM.mono (m_X7_next d f p n hp h18 (by omega) hN) ?_
  rintro r g ⟨rfl, rfl⟩
  rw [zsp_congr hTp]
  have hq := zsp_len (T := T) hb
  generalize zsp T n p = q at hq ⊢
  have eb : (nI q).toInt = (q : Int) := nI_toInt (by omega)
  have hv : (if q < n then f 19 0 q else (-1 : Int32)) = zch T n q := by
    unfold zch
    split
    · rename_i h; exact hTp q h
    · rfl
  rw [hv]
  have hB : zB (zch T n q) (-1) 255 := by
    rw [← hv]
    split
    · have q9 : zB (f 19 0 q) 0 255 := hI 19 0 q
      exact ⟨by have := q9.1; omega, q9.2⟩
    · decide
  refine ⟨⟨_, rfl, hB⟩, hI.up ⟨by rw [eb]; show (0 : Int) ≤ _; omega, by rw [eb]; show _ ≤ (120 : Int); omega⟩, (zFr.rf _ f).up rfl, ?_⟩
  intro v hr
  cases hr
  refine ⟨rfl, zup_same _ _ _ _ _, fun h0 => ?_⟩
  have hlt : q < n := zch_lt (fun h => by rw [h] at h0; exact absurd h0 (by decide))
  rw [zup_same, eb]
  constructor <;> omega
theorem e_X10_next (d : Nat) (f : zM) (T : Nat → Int32) (n p : Nat) (hN : n ≤ 120) (h18 : f 25 0 16 = nI n) (hTp : ∀ i, i < n → f 36 0 i = T i) (hp : f 25 0 17 = nI p) (hb : p ≤ n) (hI : zInv f) : ZM d yX10_next cX10_next 1 (some .int) [zr 25 0] f (fun r g => (∃ v, r = some (zi v) ∧ zB v (-1) 255) ∧ zInv g ∧ zFr [(25, some 17)] f g ∧ (∀ v : Int32, r = some (zi v) → v = zch T n (zsp T n p) ∧ g 25 0 17 = nI (zsp T n p) ∧ (0 ≤ v.toInt → 0 ≤ (g 25 0 17).toInt ∧ (g 25 0 17).toInt ≤ 119))) := by
  refine ZM.mono (m_X10_next d f p n hp h18 (by omega) hN) ?_
  rintro r g ⟨rfl, rfl⟩
  rw [zsp_congr hTp]
  have hq := zsp_len (T := T) hb
  generalize zsp T n p = q at hq ⊢
  have eb : (nI q).toInt = (q : Int) := nI_toInt (by omega)
  have hv : (if q < n then f 36 0 q else (-1 : Int32)) = zch T n q := by
    unfold zch
    split
    · rename_i h; exact hTp q h
    · rfl
  rw [hv]
  have hB : zB (zch T n q) (-1) 255 := by
    rw [← hv]
    split
    · have q9 : zB (f 36 0 q) 0 255 := hI 36 0 q
      exact ⟨by have := q9.1; omega, q9.2⟩
    · decide
  refine ⟨⟨_, rfl, hB⟩, hI.up ⟨by rw [eb]; show (0 : Int) ≤ _; omega, by rw [eb]; show _ ≤ (120 : Int); omega⟩, (zFr.rf _ f).up rfl, ?_⟩
  intro v hr
  cases hr
  refine ⟨rfl, zup_same _ _ _ _ _, fun h0 => ?_⟩
  have hlt : q < n := zch_lt (fun h => by rw [h] at h0; exact absurd h0 (by decide))
  rw [zup_same, eb]
  constructor <;> omega
set_option maxRecDepth 100000 in
set_option maxHeartbeats 4000000 in
theorem e_X7_takes (d : Nat) (f : zM) (a1 : Int32) (b1 : zB a1 1 126) (T : Nat → Int32) (n p : Nat) (hN : n ≤ 120) (h18 : f 18 0 3 = nI n) (hTp : ∀ i, i < n → f 19 0 i = T i) (hp : f 18 0 6 = nI p) (hb : p ≤ n) (hI : zInv f) : ZM (d + 1) yX7_takes cX7_takes 3 (some .boolean) [zr 18 0, zi a1] f (fun r g => (∃ v, r = some (zi v) ∧ zB v 0 1) ∧ zInv g ∧ zFr [(18, some 6)] f g ∧ (∀ v : Int32, r = some (zi v) → (zch T n (zsp T n p) = a1 ∧ v = 1 ∧ g 18 0 6 = nI (zsp T n p + 1) ∧ zsp T n p + 1 ≤ n) ∨ (¬ zch T n (zsp T n p) = a1 ∧ v = 0 ∧ g 18 0 6 = nI (zsp T n p)))) := by
  refine ZM.intro (by decide +kernel) (Nat.le_of_ble_eq_true rfl) ?_
  intro X C hr hn
  have hF : zFr [(18, some 6)] f f := zFr.rf _ _
  have ct18_0_6 : zB (f 18 0 6) 0 120 := hI 18 0 6
  show Z X 0 [some (zr 18 0), some (zi a1), none] [] f
  refine z_aload_n (pc := 0) C dX7_takes_0 rfl ?_
  refine z_callV (pc := 1) C zk_X7_52 (e_X7_next _ _ T n (p) hN h18 hTp hp hb hI) rfl rfl (by decide) rfl rfl (Nat.le_of_ble_eq_true rfl) dX7_takes_1 (fun r1 g1 q1 => ?_)
  obtain ⟨⟨v1, rfl, b1x⟩, hI1, hF1q, hp1⟩ := q1
  have hp1 := hp1 _ rfl
  have hF1 := zFr.tr hF hF1q (by decide)
  simp only [Option.toList, List.cons_append, List.nil_append]
  have cr1_18_0_6 : zB (g1 18 0 6) 0 120 := hI1 18 0 6
  obtain ⟨hv1, hq1, hj1⟩ := hp1
  have h181 : g1 18 0 3 = nI n := (hF1q 18 0 3 rfl).trans h18
  have hTp1 : ∀ i, i < n → g1 19 0 i = T i := fun i hi => (hF1q 19 0 i rfl).trans (hTp i hi)
  have hb1 : zsp T n (p) ≤ n := zsp_len hb
  refine z_iload_n (pc := 4) C dX7_takes_4 rfl ?_
  refine z_icmp_ne (pc := 5) 12 C dX7_takes_5 (by decide) (fun h5_1 => ?_) (fun h5_1 => ?_)
  · skip
    refine z_iconst (pc := 12) (v := 0) C dX7_takes_12 (by decide) ?_
    refine z_istore_n (pc := 13) C dX7_takes_13 (by rw [hn]; decide) rfl ?_
    refine z_iload_n (pc := 14) C dX7_takes_14 rfl ?_
    refine z_if_eq (pc := 15) 28 C dX7_takes_15 (by decide) (fun h15_2 => ?_) (fun h15_2 => absurd h15_2 (by decide))
    refine z_iload_n (pc := 28) C dX7_takes_28 rfl ?_
    exact z_zret (pc := 29) C hr (z01 (zB.wk (a' := 0) (b' := 1) (zB.of (x := 0) 0 (by decide)) (by decide) (by decide))) dX7_takes_29 ⟨⟨_, rfl, (zB.wk (a' := 0) (b' := 1) (zB.of (x := 0) 0 (by decide)) (by decide) (by decide))⟩, hI1, hF1, (by
                                                                                          intro v hv; cases hv
                                                                                          exact Or.inr ⟨by rw [← hv1]; assumption, rfl, hq1⟩)⟩
  · skip
    have b4x : zB v1 1 126 := by have q1 := b1x; have q2 := b1; simp only [z32lt, z32le, z32eq, Int32.reduceToInt, Int32.toInt_zero] at h5_1; constructor <;> omega
    have c5x : zB (g1 18 0 6) 0 119 := by first | assumption | (constructor <;> omega)
    refine z_iconst (pc := 8) (v := 1) C dX7_takes_8 (by decide) ?_
    refine z_goto (pc := 9) 13 C dX7_takes_9 (by decide) ?_
    refine z_istore_n (pc := 13) C dX7_takes_13 (by rw [hn]; decide) rfl ?_
    refine z_iload_n (pc := 14) C dX7_takes_14 rfl ?_
    refine z_if_eq (pc := 15) 28 C dX7_takes_15 (by decide) (fun h15_5 => absurd h15_5 (by decide)) (fun h15_5 => ?_)
    refine z_aload_n (pc := 18) C dX7_takes_18 rfl ?_
    refine z_dupr (pc := 19) C dX7_takes_19 ?_
    refine z_getI (pc := 20) C zf_X7_33 rfl rfl (by decide) dX7_takes_20 ?_
    refine w_gp (fun v => v = g1 18 0 6) rfl (fun v7 q7 => ?_)
    have e7 : v7.toInt = (g1 18 0 6).toInt := by rw [q7]
    have b7x : zB v7 0 119 := by first | exact zB.eqv e7 c5x | (have q9 := c5x; constructor <;> omega)
    refine z_iconst (pc := 23) (v := 1) C dX7_takes_23 (by decide) ?_
    refine z_iadd (pc := 24) C dX7_takes_24 ?_
    refine w_gp (fun v => v = v7 + (1 : Int32)) rfl (fun v8 q8 => ?_)
    have e8 : v8.toInt = v7.toInt + 1 := by rw [q8]; exact (zadd_eb b7x (zB.of (x := 1) 1 (by decide)) (by decide) (by decide))
    have b8x : zB v8 1 120 := by have q1 := b7x; have q2 := (zB.of (x := 1) 1 (by decide)); constructor <;> omega
    refine z_putI (pc := 25) C zf_X7_33 zp_7_6 rfl rfl (by decide) dX7_takes_25 ?_
    refine w_memx hI1 hF1 (zB.wk (a' := 0) (b' := 120) b8x (by decide) (by decide)) rfl (fun g9 qm9 hI9 hF9 hq9 hx9 => ?_)
    have ec9 : (g9 18 0 6).toInt = v8.toInt := by rw [hx9]
    have c9x : zB (g9 18 0 6) 1 120 := by first | exact zB.eqv ec9 b8x | (have q9 := b8x; constructor <;> omega)
    refine z_iload_n (pc := 28) C dX7_takes_28 rfl ?_
    exact z_zret (pc := 29) C hr (z01 (zB.wk (a' := 0) (b' := 1) (zB.of (x := 1) 1 (by decide)) (by decide) (by decide))) dX7_takes_29 ⟨⟨_, rfl, (zB.wk (a' := 0) (b' := 1) (zB.of (x := 1) 1 (by decide)) (by decide) (by decide))⟩, hI9, hF9, (by
                                                                                          intro v hv; cases hv
                                                                                          have hc : zch T n (zsp T n p) = a1 := by rw [← hv1]; assumption
                                                                                          have hlt : zsp T n p < n := zch_lt (fun h => by rw [h] at hc; rw [← hc] at b1; exact absurd b1.1 (by decide))
                                                                                          refine Or.inl ⟨hc, rfl, ?_, hlt⟩
                                                                                          rw [qm9, zup_same, q8, q7, hq1, nI_succ])⟩

set_option maxRecDepth 100000 in
set_option maxHeartbeats 4000000 in
theorem e_X10_takes (d : Nat) (f : zM) (a1 : Int32) (b1 : zB a1 1 126) (T : Nat → Int32) (n p : Nat) (hN : n ≤ 120) (h18 : f 25 0 16 = nI n) (hTp : ∀ i, i < n → f 36 0 i = T i) (hp : f 25 0 17 = nI p) (hb : p ≤ n) (hI : zInv f) : ZM (d + 1) yX10_takes cX10_takes 3 (some .boolean) [zr 25 0, zi a1] f (fun r g => (∃ v, r = some (zi v) ∧ zB v 0 1) ∧ zInv g ∧ zFr [(25, some 17)] f g ∧ (∀ v : Int32, r = some (zi v) → (zch T n (zsp T n p) = a1 ∧ v = 1 ∧ g 25 0 17 = nI (zsp T n p + 1) ∧ zsp T n p + 1 ≤ n) ∨ (¬ zch T n (zsp T n p) = a1 ∧ v = 0 ∧ g 25 0 17 = nI (zsp T n p)))) := by
  refine ZM.intro (by decide +kernel) (Nat.le_of_ble_eq_true rfl) ?_
  intro X C hr hn
  have hF : zFr [(25, some 17)] f f := zFr.rf _ _
  have ct25_0_17 : zB (f 25 0 17) 0 120 := hI 25 0 17
  show Z X 0 [some (zr 25 0), some (zi a1), none] [] f
  refine z_aload_n (pc := 0) C dX10_takes_0 rfl ?_
  refine z_callV (pc := 1) C zk_X10_214 (e_X10_next _ _ T n (p) hN h18 hTp hp hb hI) rfl rfl (by decide) rfl rfl (Nat.le_of_ble_eq_true rfl) dX10_takes_1 (fun r1 g1 q1 => ?_)
  obtain ⟨⟨v1, rfl, b1x⟩, hI1, hF1q, hp1⟩ := q1
  have hp1 := hp1 _ rfl
  have hF1 := zFr.tr hF hF1q (by decide)
  simp only [Option.toList, List.cons_append, List.nil_append]
  have cr1_25_0_17 : zB (g1 25 0 17) 0 120 := hI1 25 0 17
  obtain ⟨hv1, hq1, hj1⟩ := hp1
  have h181 : g1 25 0 16 = nI n := (hF1q 25 0 16 rfl).trans h18
  have hTp1 : ∀ i, i < n → g1 36 0 i = T i := fun i hi => (hF1q 36 0 i rfl).trans (hTp i hi)
  have hb1 : zsp T n (p) ≤ n := zsp_len hb
  refine z_iload_n (pc := 4) C dX10_takes_4 rfl ?_
  refine z_icmp_ne (pc := 5) 12 C dX10_takes_5 (by decide) (fun h5_1 => ?_) (fun h5_1 => ?_)
  · skip
    refine z_iconst (pc := 12) (v := 0) C dX10_takes_12 (by decide) ?_
    refine z_istore_n (pc := 13) C dX10_takes_13 (by rw [hn]; decide) rfl ?_
    refine z_aload_n (pc := 14) C dX10_takes_14 rfl ?_
    refine z_dupr (pc := 15) C dX10_takes_15 ?_
    refine z_getI (pc := 16) C zf_X10_211 rfl rfl (by decide) dX10_takes_16 ?_
    refine w_gp (fun v => v = g1 25 0 17) rfl (fun v3 q3 => ?_)
    have e3 : v3.toInt = (g1 25 0 17).toInt := by rw [q3]
    have b3x : zB v3 0 120 := by first | exact zB.eqv e3 cr1_25_0_17 | (have q9 := cr1_25_0_17; constructor <;> omega)
    refine z_iload_n (pc := 19) C dX10_takes_19 rfl ?_
    refine z_if_eq (pc := 20) 27 C dX10_takes_20 (by decide) (fun h20_3 => ?_) (fun h20_3 => absurd h20_3 (by decide))
    refine z_iconst (pc := 27) (v := 0) C dX10_takes_27 (by decide) ?_
    refine z_iadd (pc := 28) C dX10_takes_28 ?_
    refine w_gp (fun v => v = v3 + (0 : Int32)) rfl (fun v5 q5 => ?_)
    have e5 : v5.toInt = v3.toInt + 0 := by rw [q5]; exact (zadd_eb b3x (zB.of (x := 0) 0 (by decide)) (by decide) (by decide))
    have b5x : zB v5 0 120 := by have q1 := b3x; have q2 := (zB.of (x := 0) 0 (by decide)); constructor <;> omega
    refine z_putI (pc := 29) C zf_X10_211 zp_10_17 rfl rfl (by decide) dX10_takes_29 ?_
    refine w_memx hI1 hF1 b5x rfl (fun g6 qm6 hI6 hF6 hq6 hx6 => ?_)
    have ec6 : (g6 25 0 17).toInt = v5.toInt := by rw [hx6]
    have c6x : zB (g6 25 0 17) 0 120 := by first | exact zB.eqv ec6 b5x | (have q9 := b5x; constructor <;> omega)
    refine z_iload_n (pc := 32) C dX10_takes_32 rfl ?_
    exact z_zret (pc := 33) C hr (z01 (zB.wk (a' := 0) (b' := 1) (zB.of (x := 0) 0 (by decide)) (by decide) (by decide))) dX10_takes_33 ⟨⟨_, rfl, (zB.wk (a' := 0) (b' := 1) (zB.of (x := 0) 0 (by decide)) (by decide) (by decide))⟩, hI6, hF6, (by
                                                                                          intro v hv; cases hv
                                                                                          first
                                                                                            | (have hc : zch T n (zsp T n p) = a1 := by rw [← hv1]; assumption
                                                                                               have hlt : zsp T n p < n := zch_lt (fun h => by rw [h] at hc; rw [← hc] at b1; exact absurd b1.1 (by decide))
                                                                                               refine Or.inl ⟨hc, rfl, ?_, hlt⟩
                                                                                               rw [qm6, zup_same, q5, q3, hq1, nI_succ])
                                                                                            | (refine Or.inr ⟨by rw [← hv1]; assumption, rfl, ?_⟩
                                                                                               rw [qm6, zup_same, q5, q3, hq1]
                                                                                               exact Int32.add_zero _))⟩
  · skip
    have b7x : zB v1 1 126 := by have q1 := b1x; have q2 := b1; simp only [z32lt, z32le, z32eq, Int32.reduceToInt, Int32.toInt_zero] at h5_1; constructor <;> omega
    have c8x : zB (g1 25 0 17) 0 119 := by first | assumption | (constructor <;> omega)
    refine z_iconst (pc := 8) (v := 1) C dX10_takes_8 (by decide) ?_
    refine z_goto (pc := 9) 13 C dX10_takes_9 (by decide) ?_
    refine z_istore_n (pc := 13) C dX10_takes_13 (by rw [hn]; decide) rfl ?_
    refine z_aload_n (pc := 14) C dX10_takes_14 rfl ?_
    refine z_dupr (pc := 15) C dX10_takes_15 ?_
    refine z_getI (pc := 16) C zf_X10_211 rfl rfl (by decide) dX10_takes_16 ?_
    refine w_gp (fun v => v = g1 25 0 17) rfl (fun v9 q9 => ?_)
    have e9 : v9.toInt = (g1 25 0 17).toInt := by rw [q9]
    have b9x : zB v9 0 119 := by first | exact zB.eqv e9 c8x | (have q9 := c8x; constructor <;> omega)
    refine z_iload_n (pc := 19) C dX10_takes_19 rfl ?_
    refine z_if_eq (pc := 20) 27 C dX10_takes_20 (by decide) (fun h20_9 => absurd h20_9 (by decide)) (fun h20_9 => ?_)
    refine z_iconst (pc := 23) (v := 1) C dX10_takes_23 (by decide) ?_
    refine z_goto (pc := 24) 28 C dX10_takes_24 (by decide) ?_
    refine z_iadd (pc := 28) C dX10_takes_28 ?_
    refine w_gp (fun v => v = v9 + (1 : Int32)) rfl (fun v11 q11 => ?_)
    have e11 : v11.toInt = v9.toInt + 1 := by rw [q11]; exact (zadd_eb b9x (zB.of (x := 1) 1 (by decide)) (by decide) (by decide))
    have b11x : zB v11 1 120 := by have q1 := b9x; have q2 := (zB.of (x := 1) 1 (by decide)); constructor <;> omega
    refine z_putI (pc := 29) C zf_X10_211 zp_10_17 rfl rfl (by decide) dX10_takes_29 ?_
    refine w_memx hI1 hF1 (zB.wk (a' := 0) (b' := 120) b11x (by decide) (by decide)) rfl (fun g12 qm12 hI12 hF12 hq12 hx12 => ?_)
    have ec12 : (g12 25 0 17).toInt = v11.toInt := by rw [hx12]
    have c12x : zB (g12 25 0 17) 1 120 := by first | exact zB.eqv ec12 b11x | (have q9 := b11x; constructor <;> omega)
    refine z_iload_n (pc := 32) C dX10_takes_32 rfl ?_
    exact z_zret (pc := 33) C hr (z01 (zB.wk (a' := 0) (b' := 1) (zB.of (x := 1) 1 (by decide)) (by decide) (by decide))) dX10_takes_33 ⟨⟨_, rfl, (zB.wk (a' := 0) (b' := 1) (zB.of (x := 1) 1 (by decide)) (by decide) (by decide))⟩, hI12, hF12, (by
                                                                                          intro v hv; cases hv
                                                                                          first
                                                                                            | (have hc : zch T n (zsp T n p) = a1 := by rw [← hv1]; assumption
                                                                                               have hlt : zsp T n p < n := zch_lt (fun h => by rw [h] at hc; rw [← hc] at b1; exact absurd b1.1 (by decide))
                                                                                               refine Or.inl ⟨hc, rfl, ?_, hlt⟩
                                                                                               rw [qm12, zup_same, q11, q9, hq1, nI_succ])
                                                                                            | (refine Or.inr ⟨by rw [← hv1]; assumption, rfl, ?_⟩
                                                                                               rw [qm12, zup_same, q11, q9, hq1]
                                                                                               exact Int32.add_zero _))⟩

set_option maxRecDepth 100000 in
set_option maxHeartbeats 4000000 in
theorem k_X7_fail (d : Nat) (f : zM) (a1 : Int32) (b1 : zB a1 0 120) (hI : zInv f) : ZM d yX7_fail cX7_fail 2 none [zr 18 0, zi a1] f (fun r g => r = none ∧ zInv g ∧ zFr [(18, some 7)] f g ∧ (0 ≤ (g 18 0 7).toInt) ∧ ((0 ≤ (f 18 0 7).toInt → (g 18 0 7).toInt = (f 18 0 7).toInt))) := by
  refine ZM.intro (by decide +kernel) (Nat.le_of_ble_eq_true rfl) ?_
  intro X C hr hn
  have hF : zFr [(18, some 7)] f f := zFr.rf _ _
  have ct18_0_7 : zB (f 18 0 7) (-1) 120 := hI 18 0 7
  have J : ∀ t : Nat, (∀ g : zM, zInv g → zFr [(18, some 7)] f g → zB (g 18 0 7) 0 120 → ((0 ≤ (f 18 0 7).toInt → (g 18 0 7).toInt = (f 18 0 7).toInt)) → (0 : Int) < t → Z X 13 [some (zr 18 0), some (zi a1)] [] g) := by
    intro t
    induction t with
    | zero =>
      intros; exfalso; omega
    | succ t ih =>
      have ih0 := ih
      intro g13_ hI13_ hF13_ f13_18_0_7 hR13_0 hM13_
      exact z_vret (pc := 13) C hr dX7_fail_13 ⟨rfl, hI13_, hF13_, (by omega), (by omega)⟩
  have J0 := J 12
  show Z X 0 [some (zr 18 0), some (zi a1)] [] f
  refine z_aload_n (pc := 0) C dX7_fail_0 rfl ?_
  refine z_getI (pc := 1) C zf_X7_36 rfl rfl (by decide) dX7_fail_1 ?_
  refine w_gp (fun v => v.toInt = (f 18 0 7).toInt) rfl (fun v1 e1 => ?_)
  have b1x : zB v1 (-1) 120 := by have q9 : zB (f 18 0 7) (-1) 120 := ct18_0_7; constructor <;> omega
  refine z_iconst (pc := 4) (v := -1) C dX7_fail_4 (by decide) ?_
  refine z_icmp_ne (pc := 5) 13 C dX7_fail_5 (by decide) (fun h5_1 => ?_) (fun h5_1 => ?_)
  · skip
    have b3x : zB v1 0 120 := by have q1 := b1x; have q2 := (zB.of (x := (-1)) (-1) (by decide)); simp only [z32lt, z32le, z32eq, Int32.reduceToInt, Int32.toInt_zero] at h5_1; constructor <;> omega
    have c4x : zB (f 18 0 7) 0 120 := by first | assumption | (constructor <;> omega)
    exact J0  f hI hF c4x (by omega) (by omega)
  · skip
    have b5x : zB v1 (-1) (-1) := by have q1 := b1x; have q2 := (zB.of (x := (-1)) (-1) (by decide)); simp only [z32lt, z32le, z32eq, Int32.reduceToInt, Int32.toInt_zero] at h5_1; constructor <;> omega
    have c6x : zB (f 18 0 7) (-1) (-1) := by first | assumption | (constructor <;> omega)
    refine z_aload_n (pc := 8) C dX7_fail_8 rfl ?_
    refine z_iload_n (pc := 9) C dX7_fail_9 rfl ?_
    refine z_putI (pc := 10) C zf_X7_36 zp_7_7 rfl rfl (by decide) dX7_fail_10 ?_
    refine w_mem2 hI hF (zB.wk (a' := (-1)) (b' := 120) b1 (by decide) (by decide)) rfl (fun g7 hI7 hF7 hq7 hx7 => ?_)
    have ec7 : (g7 18 0 7).toInt = a1.toInt := by rw [hx7]
    have c7x : zB (g7 18 0 7) 0 120 := by first | exact zB.eqv ec7 b1 | (have q9 := b1; constructor <;> omega)
    exact J0  g7 hI7 hF7 c7x (by omega) (by omega)

set_option maxRecDepth 100000 in
set_option maxHeartbeats 4000000 in
theorem k_X7_need (d : Nat) (f : zM) (a1 : Int32) (b1 : zB a1 1 126) (hI : zInv f) : ZM (d + 2) yX7_need cX7_need 2 none [zr 18 0, zi a1] f (fun r g => r = none ∧ zInv g ∧ zFr [(18, some 6), (18, some 7)] f g ∧ (((g 18 0 7).toInt = -1 → (f 18 0 7).toInt = -1)) ∧ ((0 ≤ (f 18 0 7).toInt → (g 18 0 7).toInt = (f 18 0 7).toInt))) := by
  refine ZM.intro (by decide +kernel) (Nat.le_of_ble_eq_true rfl) ?_
  intro X C hr hn
  have hF : zFr [(18, some 6), (18, some 7)] f f := zFr.rf _ _
  have ct18_0_7 : zB (f 18 0 7) (-1) 120 := hI 18 0 7
  have J : ∀ t : Nat, (∀ g : zM, zInv g → zFr [(18, some 6), (18, some 7)] f g → zB (g 18 0 7) (-1) 120 → (((g 18 0 7).toInt = -1 → (f 18 0 7).toInt = -1)) → ((0 ≤ (f 18 0 7).toInt → (g 18 0 7).toInt = (f 18 0 7).toInt)) → (0 : Int) < t → Z X 16 [some (zr 18 0), some (zi a1)] [] g) := by
    intro t
    induction t with
    | zero =>
      intros; exfalso; omega
    | succ t ih =>
      have ih0 := ih
      intro g16_ hI16_ hF16_ f16_18_0_7 hR16_0 hR16_1 hM16_
      exact z_vret (pc := 16) C hr dX7_need_16 ⟨rfl, hI16_, hF16_, (by omega), (by omega)⟩
  have J0 := J 12
  show Z X 0 [some (zr 18 0), some (zi a1)] [] f
  refine z_aload_n (pc := 0) C dX7_need_0 rfl ?_
  refine z_iload_n (pc := 1) C dX7_need_1 rfl ?_
  refine z_callV (pc := 2) C zk_X7_48 (w_X7_takes _ _ a1 b1 hI) rfl rfl (by decide) rfl rfl (Nat.le_of_ble_eq_true rfl) dX7_need_2 (fun r1 g1 q1 => ?_)
  obtain ⟨⟨v1, rfl, b1x⟩, hI1, hF1q⟩ := q1
  have hF1 := zFr.tr hF hF1q (by decide)
  simp only [Option.toList, List.cons_append, List.nil_append]
  have ek1_18_0_7 : (g1 18 0 7).toInt = (f 18 0 7).toInt := by rw [hF1q 18 0 7 rfl]
  have c1_18_0_7x : zB (g1 18 0 7) (-1) 120 := by first | exact zB.eqv ek1_18_0_7 ct18_0_7 | (have q9 := ct18_0_7; constructor <;> omega)
  refine z_if_ne (pc := 5) 16 C dX7_need_5 (by decide) (fun h5_1 => ?_) (fun h5_1 => ?_)
  · skip
    have b3x : zB v1 1 1 := by have q1 := b1x; have q2 := (zB.of (x := 0) 0 (by decide)); simp only [z32lt, z32le, z32eq, Int32.reduceToInt, Int32.toInt_zero] at h5_1; constructor <;> omega
    exact J0  g1 hI1 hF1 c1_18_0_7x (by omega) (by omega) (by omega)
  · skip
    have b4x : zB v1 0 0 := by have q1 := b1x; have q2 := (zB.of (x := 0) 0 (by decide)); simp only [z32lt, z32le, z32eq, Int32.reduceToInt, Int32.toInt_zero] at h5_1; constructor <;> omega
    refine z_aload_n (pc := 8) C dX7_need_8 rfl ?_
    refine z_aload_n (pc := 9) C dX7_need_9 rfl ?_
    refine z_getI (pc := 10) C zf_X7_33 rfl rfl (by decide) dX7_need_10 ?_
    refine w_gb 0 120 (hI1 18 _ 6) (fun v5 b5x => ?_)
    refine z_callV (pc := 13) C zk_X7_56 (k_X7_fail _ _ v5 b5x hI1) rfl rfl (by decide) rfl rfl (Nat.le_of_ble_eq_true rfl) dX7_need_13 (fun r6 g6 q6 => ?_)
    obtain ⟨rfl, hI6, hF6q, hp6_0, hp6_1⟩ := q6
    have hF6 := zFr.tr hF1 hF6q (by decide)
    simp only [Option.toList, List.cons_append, List.nil_append]
    have cr6_18_0_7 : zB (g6 18 0 7) (-1) 120 := hI6 18 0 7
    exact J0  g6 hI6 hF6 cr6_18_0_7 (by omega) (by omega) (by omega)

set_option maxRecDepth 100000 in
set_option maxHeartbeats 4000000 in
theorem k_X7_readLand (d : Nat) (f : zM) (a1 : Int32) (b1 : zB a1 (-4) 5) (hI : zInv f) : ZM (d + 1) yX7_readLand cX7_readLand 3 (some .int) [zr 18 0, zi a1] f (fun r g => (∃ v, r = some (zi v) ∧ zB v 0 5) ∧ zInv g ∧ zFr [(18, some 6), (18, some 7)] f g ∧ (∀ v : Int32, r = some (zi v) → ((g 18 0 7).toInt = -1 → (f 18 0 7).toInt = -1)) ∧ (∀ v : Int32, r = some (zi v) → (0 ≤ (f 18 0 7).toInt → (g 18 0 7).toInt = (f 18 0 7).toInt))) := by
  refine ZM.intro (by decide +kernel) (Nat.le_of_ble_eq_true rfl) ?_
  intro X C hr hn
  have hF : zFr [(18, some 6), (18, some 7)] f f := zFr.rf _ _
  have ct18_0_6 : zB (f 18 0 6) 0 120 := hI 18 0 6
  have ct18_0_7 : zB (f 18 0 7) (-1) 120 := hI 18 0 7
  have J : ∀ t : Nat, (∀ a20_2 : Int32, zB a20_2 (-66) 190 → ∀ g : zM, zInv g → zFr [(18, some 6), (18, some 7)] f g → zB (g 18 0 6) 0 120 → zB (g 18 0 7) (-1) 120 → (((g 18 0 7).toInt = -1 → (f 18 0 7).toInt = -1)) → ((0 ≤ (f 18 0 7).toInt → (g 18 0 7).toInt = (f 18 0 7).toInt)) → (0 : Int) < t → Z X 20 [some (zr 18 0), some (zi a1), some (zi a20_2)] [] g) := by
    intro t
    induction t with
    | zero =>
      intros; exfalso; omega
    | succ t ih =>
      have ih0 := ih
      intro a20_2 b20_2 g20_ hI20_ hF20_ f20_18_0_6 f20_18_0_7 hR20_0 hR20_1 hM20_
      refine z_aload_n (pc := 20) C dX7_readLand_20 rfl ?_
      refine z_aload_n (pc := 21) C dX7_readLand_21 rfl ?_
      refine z_getI (pc := 22) C zf_X7_33 rfl rfl (by decide) dX7_readLand_22 ?_
      refine w_gp (fun v => v.toInt = (g20_ 18 0 6).toInt) rfl (fun v1 e1 => ?_)
      have b1x : zB v1 0 120 := by have q9 : zB (g20_ 18 0 6) 0 120 := f20_18_0_6; constructor <;> omega
      refine z_callV (pc := 25) C zk_X7_56 (k_X7_fail _ _ v1 b1x hI20_) rfl rfl (by decide) rfl rfl (Nat.le_of_ble_eq_true rfl) dX7_readLand_25 (fun r2 g2 q2 => ?_)
      obtain ⟨rfl, hI2, hF2q, hp2_0, hp2_1⟩ := q2
      have hF2 := zFr.tr hF20_ hF2q (by decide)
      simp only [Option.toList, List.cons_append, List.nil_append]
      have ek2_18_0_6 : (g2 18 0 6).toInt = (g20_ 18 0 6).toInt := by rw [hF2q 18 0 6 rfl]
      have c2_18_0_6x : zB (g2 18 0 6) 0 120 := by first | exact zB.eqv ek2_18_0_6 f20_18_0_6 | (have q9 := f20_18_0_6; constructor <;> omega)
      have cr2_18_0_7 : zB (g2 18 0 7) (-1) 120 := hI2 18 0 7
      refine z_iconst (pc := 28) (v := 0) C dX7_readLand_28 (by decide) ?_
      exact z_iret (pc := 29) C hr dX7_readLand_29 ⟨⟨_, rfl, (zB.wk (a' := 0) (b' := 5) (zB.of (x := 0) 0 (by decide)) (by decide) (by decide))⟩, hI2, hF2, (by intro v hv; cases hv; have qc0 : (0 : Int32).toInt = 0 := (by decide); omega), (by intro v hv; cases hv; have qc0 : (0 : Int32).toInt = 0 := (by decide); omega)⟩
  have J0 := J 12
  show Z X 0 [some (zr 18 0), some (zi a1), none] [] f
  refine z_aload_n (pc := 0) C dX7_readLand_0 rfl ?_
  refine z_callV (pc := 1) C zk_X7_52 (w_X7_next _ _  hI) rfl rfl (by decide) rfl rfl (Nat.le_of_ble_eq_true rfl) dX7_readLand_1 (fun r3 g3 q3 => ?_)
  obtain ⟨⟨v3, rfl, b3x⟩, hI3, hF3q, hp3_0, hp3_1, hp3_2, hp3_3⟩ := q3
  have hp3_0 := hp3_0 _ rfl
  have hp3_1 := hp3_1 _ rfl
  have hp3_2 := hp3_2 _ rfl
  have hp3_3 := hp3_3 _ rfl
  have hF3 := zFr.tr hF hF3q (by decide)
  simp only [Option.toList, List.cons_append, List.nil_append]
  have cr3_18_0_6 : zB (g3 18 0 6) 0 120 := hI3 18 0 6
  have ek3_18_0_7 : (g3 18 0 7).toInt = (f 18 0 7).toInt := by rw [hF3q 18 0 7 rfl]
  have c3_18_0_7x : zB (g3 18 0 7) (-1) 120 := by first | exact zB.eqv ek3_18_0_7 ct18_0_7 | (have q9 := ct18_0_7; constructor <;> omega)
  refine z_bipush (pc := 4) (v := 65) C dX7_readLand_4 (by decide) ?_
  refine z_isub (pc := 6) C dX7_readLand_6 ?_
  refine w_gp (fun v => v.toInt = v3.toInt - 65) (zsub_eb b3x (zB.of (x := 65) 65 (by decide)) (by decide) (by decide)) (fun v4 e4 => ?_)
  have b4x : zB v4 (-66) 190 := by have q1 := b3x; have q2 := (zB.of (x := 65) 65 (by decide)); constructor <;> omega
  refine z_istore_n (pc := 7) C dX7_readLand_7 (by rw [hn]; decide) rfl ?_
  refine z_iload_n (pc := 8) C dX7_readLand_8 rfl ?_
  refine z_callNb (pc := 9) C zk_nest (m_X9_isLand _ _ _) rfl rfl (Nat.le_of_ble_eq_true rfl) dX7_readLand_9 (fun h9_4 => ?_) (fun h9_4 => ?_)
  · skip
    have b6x : zB v4 0 5 := h9_4
    have b7x : zB v3 65 70 := by first | assumption | (constructor <;> omega)
    have c8x : zB (g3 18 0 6) 0 119 := by first | assumption | (constructor <;> omega)
    refine z_if_eq (pc := 12) 20 C dX7_readLand_12 (by decide) (fun h => absurd h (by decide)) (fun _ => ?_)
    refine z_iload_n (pc := 15) C dX7_readLand_15 rfl ?_
    refine z_iload_n (pc := 16) C dX7_readLand_16 rfl ?_
    refine z_icmp_ne (pc := 17) 30 C dX7_readLand_17 (by decide) (fun h17_8 => ?_) (fun h17_8 => ?_)
    · skip
      refine z_aload_n (pc := 30) C dX7_readLand_30 rfl ?_
      refine z_dupr (pc := 31) C dX7_readLand_31 ?_
      refine z_getI (pc := 32) C zf_X7_33 rfl rfl (by decide) dX7_readLand_32 ?_
      refine w_gp (fun v => v.toInt = (g3 18 0 6).toInt) rfl (fun v10 e10 => ?_)
      have b10x : zB v10 0 119 := by have q9 : zB (g3 18 0 6) 0 119 := c8x; constructor <;> omega
      refine z_iconst (pc := 35) (v := 1) C dX7_readLand_35 (by decide) ?_
      refine z_iadd (pc := 36) C dX7_readLand_36 ?_
      refine w_gp (fun v => v.toInt = v10.toInt + 1) (zadd_eb b10x (zB.of (x := 1) 1 (by decide)) (by decide) (by decide)) (fun v11 e11 => ?_)
      have b11x : zB v11 1 120 := by have q1 := b10x; have q2 := (zB.of (x := 1) 1 (by decide)); constructor <;> omega
      refine z_putI (pc := 37) C zf_X7_33 zp_7_6 rfl rfl (by decide) dX7_readLand_37 ?_
      refine w_mem2 hI3 hF3 (zB.wk (a' := 0) (b' := 120) b11x (by decide) (by decide)) rfl (fun g12 hI12 hF12 hq12 hx12 => ?_)
      have ec12 : (g12 18 0 6).toInt = v11.toInt := by rw [hx12]
      have c12x : zB (g12 18 0 6) 1 120 := by first | exact zB.eqv ec12 b11x | (have q9 := b11x; constructor <;> omega)
      have ek12_18_0_7 : (g12 18 0 7).toInt = (g3 18 0 7).toInt := by rw [hq12 18 0 7 (by omega)]
      have c12_18_0_7x : zB (g12 18 0 7) (-1) 120 := by first | exact zB.eqv ek12_18_0_7 c3_18_0_7x | (have q9 := c3_18_0_7x; constructor <;> omega)
      refine z_iload_n (pc := 40) C dX7_readLand_40 rfl ?_
      exact z_iret (pc := 41) C hr dX7_readLand_41 ⟨⟨_, rfl, b6x⟩, hI12, hF12, (by intro v hv; cases hv; omega), (by intro v hv; cases hv; omega)⟩
    · skip
      have b13x : zB a1 0 5 := by have q1 := b6x; have q2 := b1; simp only [z32lt, z32le, z32eq, Int32.reduceToInt, Int32.toInt_zero] at h17_8; constructor <;> omega
      exact J0 v4 (zB.wk (a' := (-66)) (b' := 190) b6x (by decide) (by decide)) g3 hI3 hF3 (zB.wk c8x (by decide) (by decide)) c3_18_0_7x (by omega) (by omega) (by omega)
  · skip
    refine z_if_eq (pc := 12) 20 C dX7_readLand_12 (by decide) (fun _ => ?_) (fun h => absurd (by decide) h)
    exact J0 v4 b4x g3 hI3 hF3 cr3_18_0_6 c3_18_0_7x (by omega) (by omega) (by omega)

set_option maxRecDepth 100000 in
set_option maxHeartbeats 4000000 in
theorem k_X7_readMarks (d : Nat) (f : zM) (a1 : Int32) (b1 : zB a1 0 63) (hI : zInv f) : ZM (d + 1) yX7_readMarks cX7_readMarks 6 (some .int) [zr 18 0, zi a1] f (fun r g => (∃ v, r = some (zi v) ∧ zB v 0 63) ∧ zInv g ∧ zFr [(18, some 6), (18, some 7)] f g ∧ (∀ v : Int32, r = some (zi v) → ((g 18 0 7).toInt = -1 → (f 18 0 7).toInt = -1)) ∧ (∀ v : Int32, r = some (zi v) → (0 ≤ (f 18 0 7).toInt → (g 18 0 7).toInt = (f 18 0 7).toInt))) := by
  refine ZM.intro (by decide +kernel) (Nat.le_of_ble_eq_true rfl) ?_
  intro X C hr hn
  have hF : zFr [(18, some 6), (18, some 7)] f f := zFr.rf _ _
  have ct18_0_6 : zB (f 18 0 6) 0 120 := hI 18 0 6
  have ct18_0_7 : zB (f 18 0 7) (-1) 120 := hI 18 0 7
  have J : ∀ t : Nat, (∀ a4_2 : Int32, zB a4_2 0 63 → ∀ a4_3 : Int32, zB a4_3 0 6 → ∀ g : zM, zInv g → zFr [(18, some 6), (18, some 7)] f g → zB (g 18 0 6) 0 120 → zB (g 18 0 7) (-1) 120 → (((g 18 0 7).toInt = -1 → (f 18 0 7).toInt = -1)) → ((0 ≤ (f 18 0 7).toInt → (g 18 0 7).toInt = (f 18 0 7).toInt)) → (3 + 6 * (6 - a4_3.toInt) : Int) < t → Z X 4 [some (zr 18 0), some (zi a1), some (zi a4_2), some (zi a4_3), none, none] [] g) ∧ (∀ a53_2 : Int32, zB a53_2 0 63 → ∀ a53_3 : Int32, zB a53_3 0 5 → ∀ a53_4 : Int32, zB a53_4 0 5 → ∀ a53_5 : Int32, zB a53_5 0 32 → ∀ g : zM, zInv g → zFr [(18, some 6), (18, some 7)] f g → zB (g 18 0 6) 0 119 → zB (g 18 0 7) (-1) 120 → (((g 18 0 7).toInt = -1 → (f 18 0 7).toInt = -1)) → ((0 ≤ (f 18 0 7).toInt → (g 18 0 7).toInt = (f 18 0 7).toInt)) → (2 + 6 * (6 - a53_3.toInt) : Int) < t → Z X 53 [some (zr 18 0), some (zi a1), some (zi a53_2), some (zi a53_3), some (zi a53_4), some (zi a53_5)] [] g) ∧ (∀ a85_2 : Int32, zB a85_2 0 63 → ∀ a85_3 : Int32, zB a85_3 0 6 → ∀ g : zM, zInv g → zFr [(18, some 6), (18, some 7)] f g → zB (g 18 0 6) 0 120 → zB (g 18 0 7) (-1) 120 → (((g 18 0 7).toInt = -1 → (f 18 0 7).toInt = -1)) → ((0 ≤ (f 18 0 7).toInt → (g 18 0 7).toInt = (f 18 0 7).toInt)) → (1 : Int) < t → Z X 85 [some (zr 18 0), some (zi a1), some (zi a85_2), some (zi a85_3), none, none] [] g) ∧ (∀ a97_2 : Int32, zB a97_2 0 63 → ∀ a97_3 : Int32, zB a97_3 0 6 → ∀ g : zM, zInv g → zFr [(18, some 6), (18, some 7)] f g → zB (g 18 0 6) 0 120 → zB (g 18 0 7) (-1) 120 → (((g 18 0 7).toInt = -1 → (f 18 0 7).toInt = -1)) → ((0 ≤ (f 18 0 7).toInt → (g 18 0 7).toInt = (f 18 0 7).toInt)) → (0 : Int) < t → Z X 97 [some (zr 18 0), some (zi a1), some (zi a97_2), some (zi a97_3), none, none] [] g) := by
    intro t
    induction t with
    | zero =>
      refine ⟨?_, ?_, ?_, ?_⟩ <;> (intros; exfalso; omega)
    | succ t ih =>
      obtain ⟨ih0, ih1, ih2, ih3⟩ := ih
      refine ⟨?_, ?_, ?_, ?_⟩
      · skip
        intro a4_2 b4_2 a4_3 b4_3 g4_ hI4_ hF4_ f4_18_0_6 f4_18_0_7 hR4_0 hR4_1 hM4_
        refine z_iload_n (pc := 4) C dX7_readMarks_4 rfl ?_
        refine z_bipush (pc := 5) (v := 6) C dX7_readMarks_5 (by decide) ?_
        refine z_icmp_ge (pc := 7) 85 C dX7_readMarks_7 (by decide) (fun h7_0 => ?_) (fun h7_0 => ?_)
        · skip
          have b2x : zB a4_3 6 6 := by have q1 := b4_3; have q2 := (zB.of (x := 6) 6 (by decide)); simp only [z32lt, z32le, z32eq, Int32.reduceToInt, Int32.toInt_zero] at h7_0; constructor <;> omega
          exact ih2 a4_2 b4_2 a4_3 (zB.wk (a' := 0) (b' := 6) b2x (by decide) (by decide)) g4_ hI4_ hF4_ f4_18_0_6 f4_18_0_7 (by omega) (by omega) (by omega)
        · skip
          have b3x : zB a4_3 0 5 := by have q1 := b4_3; have q2 := (zB.of (x := 6) 6 (by decide)); simp only [z32lt, z32le, z32eq, Int32.reduceToInt, Int32.toInt_zero] at h7_0; constructor <;> omega
          refine z_aload_n (pc := 10) C dX7_readMarks_10 rfl ?_
          refine z_callV (pc := 11) C zk_X7_52 (w_X7_next _ _  hI4_) rfl rfl (by decide) rfl rfl (Nat.le_of_ble_eq_true rfl) dX7_readMarks_11 (fun r4 g4 q4 => ?_)
          obtain ⟨⟨v4, rfl, b4x⟩, hI4, hF4q, hp4_0, hp4_1, hp4_2, hp4_3⟩ := q4
          have hp4_0 := hp4_0 _ rfl
          have hp4_1 := hp4_1 _ rfl
          have hp4_2 := hp4_2 _ rfl
          have hp4_3 := hp4_3 _ rfl
          have hF4 := zFr.tr hF4_ hF4q (by decide)
          simp only [Option.toList, List.cons_append, List.nil_append]
          have cr4_18_0_6 : zB (g4 18 0 6) 0 120 := hI4 18 0 6
          have ek4_18_0_7 : (g4 18 0 7).toInt = (g4_ 18 0 7).toInt := by rw [hF4q 18 0 7 rfl]
          have c4_18_0_7x : zB (g4 18 0 7) (-1) 120 := by first | exact zB.eqv ek4_18_0_7 f4_18_0_7 | (have q9 := f4_18_0_7; constructor <;> omega)
          refine z_bipush (pc := 14) (v := 97) C dX7_readMarks_14 (by decide) ?_
          refine z_isub (pc := 16) C dX7_readMarks_16 ?_
          refine w_gp (fun v => v.toInt = v4.toInt - 97) (zsub_eb b4x (zB.of (x := 97) 97 (by decide)) (by decide) (by decide)) (fun v5 e5 => ?_)
          have b5x : zB v5 (-98) 158 := by have q1 := b4x; have q2 := (zB.of (x := 97) 97 (by decide)); constructor <;> omega
          refine z_istore (pc := 17) C dX7_readMarks_17 (by rw [hn]; decide) rfl ?_
          refine z_iload (pc := 19) C dX7_readMarks_19 rfl ?_
          refine z_if_lt (pc := 21) 85 C dX7_readMarks_21 (by decide) (fun h21_5 => ?_) (fun h21_5 => ?_)
          · skip
            have b7x : zB v5 (-98) (-1) := by have q1 := b5x; have q2 := (zB.of (x := 0) 0 (by decide)); simp only [z32lt, z32le, z32eq, Int32.reduceToInt, Int32.toInt_zero] at h21_5; constructor <;> omega
            have b8x : zB v4 (-1) 96 := by first | assumption | (constructor <;> omega)
            refine w_mask [4] ?_
            exact ih2 a4_2 b4_2 a4_3 (zB.wk (a' := 0) (b' := 6) b3x (by decide) (by decide)) g4 hI4 hF4 cr4_18_0_6 c4_18_0_7x (by omega) (by omega) (by omega)
          · skip
            have b9x : zB v5 0 158 := by have q1 := b5x; have q2 := (zB.of (x := 0) 0 (by decide)); simp only [z32lt, z32le, z32eq, Int32.reduceToInt, Int32.toInt_zero] at h21_5; constructor <;> omega
            have b10x : zB v4 97 255 := by first | assumption | (constructor <;> omega)
            have c11x : zB (g4 18 0 6) 0 119 := by first | assumption | (constructor <;> omega)
            refine z_iload (pc := 24) C dX7_readMarks_24 rfl ?_
            refine z_bipush (pc := 26) (v := 6) C dX7_readMarks_26 (by decide) ?_
            refine z_icmp_lt (pc := 28) 34 C dX7_readMarks_28 (by decide) (fun h28_11 => ?_) (fun h28_11 => ?_)
            · skip
              have b13x : zB v5 0 5 := by have q1 := b9x; have q2 := (zB.of (x := 6) 6 (by decide)); simp only [z32lt, z32le, z32eq, Int32.reduceToInt, Int32.toInt_zero] at h28_11; constructor <;> omega
              have b14x : zB v4 97 102 := by first | assumption | (constructor <;> omega)
              have c15x : zB (g4 18 0 6) 0 119 := by first | assumption | (constructor <;> omega)
              refine z_iconst (pc := 34) (v := 1) C dX7_readMarks_34 (by decide) ?_
              refine z_iload (pc := 35) C dX7_readMarks_35 rfl ?_
              refine z_ishl (pc := 37) C dX7_readMarks_37 ?_
              refine w_gb 0 32 (zshl_b b13x 5 (by decide) (by decide)) (fun v16 b16x => ?_)
              refine z_istore (pc := 38) C dX7_readMarks_38 (by rw [hn]; decide) rfl ?_
              refine z_iload (pc := 40) C dX7_readMarks_40 rfl ?_
              refine z_iload_n (pc := 42) C dX7_readMarks_42 rfl ?_
              refine z_icmp_le (pc := 43) 53 C dX7_readMarks_43 (by decide) (fun h43_16 => ?_) (fun h43_16 => ?_)
              · skip
                exact ih1 a4_2 b4_2 a4_3 b3x v5 b13x v16 b16x g4 hI4 hF4 c15x c4_18_0_7x (by omega) (by omega) (by omega)
              · skip
                have b18x : zB v16 1 32 := by have q1 := b16x; have q2 := b4_2; simp only [z32lt, z32le, z32eq, Int32.reduceToInt, Int32.toInt_zero] at h43_16; constructor <;> omega
                have b19x : zB a4_2 0 31 := by have q1 := b16x; have q2 := b4_2; simp only [z32lt, z32le, z32eq, Int32.reduceToInt, Int32.toInt_zero] at h43_16; constructor <;> omega
                refine z_iload (pc := 46) C dX7_readMarks_46 rfl ?_
                refine z_iload_n (pc := 48) C dX7_readMarks_48 rfl ?_
                refine z_iand (pc := 49) C dX7_readMarks_49 ?_
                refine w_gb 0 32 (zand_bl b18x b1 (by decide)) (fun v20 b20x => ?_)
                refine z_if_eq (pc := 50) 64 C dX7_readMarks_50 (by decide) (fun h50_20 => ?_) (fun h50_20 => ?_)
                · skip
                  have b22x : zB v20 0 0 := by have q1 := b20x; have q2 := (zB.of (x := 0) 0 (by decide)); simp only [z32lt, z32le, z32eq, Int32.reduceToInt, Int32.toInt_zero] at h50_20; constructor <;> omega
                  refine z_iload_n (pc := 64) C dX7_readMarks_64 rfl ?_
                  refine z_iload (pc := 65) C dX7_readMarks_65 rfl ?_
                  refine z_ior (pc := 67) C dX7_readMarks_67 ?_
                  refine w_gb 0 63 (zor_b 6 b19x b18x (by decide) (by decide) (by decide) (by decide) (by decide)) (fun v23 b23x => ?_)
                  refine z_istore_n (pc := 68) C dX7_readMarks_68 (by rw [hn]; decide) rfl ?_
                  refine z_aload_n (pc := 69) C dX7_readMarks_69 rfl ?_
                  refine z_dupr (pc := 70) C dX7_readMarks_70 ?_
                  refine z_getI (pc := 71) C zf_X7_33 rfl rfl (by decide) dX7_readMarks_71 ?_
                  refine w_gp (fun v => v.toInt = (g4 18 0 6).toInt) rfl (fun v24 e24 => ?_)
                  have b24x : zB v24 0 119 := by have q9 : zB (g4 18 0 6) 0 119 := c15x; constructor <;> omega
                  refine z_iconst (pc := 74) (v := 1) C dX7_readMarks_74 (by decide) ?_
                  refine z_iadd (pc := 75) C dX7_readMarks_75 ?_
                  refine w_gp (fun v => v.toInt = v24.toInt + 1) (zadd_eb b24x (zB.of (x := 1) 1 (by decide)) (by decide) (by decide)) (fun v25 e25 => ?_)
                  have b25x : zB v25 1 120 := by have q1 := b24x; have q2 := (zB.of (x := 1) 1 (by decide)); constructor <;> omega
                  refine z_putI (pc := 76) C zf_X7_33 zp_7_6 rfl rfl (by decide) dX7_readMarks_76 ?_
                  refine w_mem2 hI4 hF4 (zB.wk (a' := 0) (b' := 120) b25x (by decide) (by decide)) rfl (fun g26 hI26 hF26 hq26 hx26 => ?_)
                  have ec26 : (g26 18 0 6).toInt = v25.toInt := by rw [hx26]
                  have c26x : zB (g26 18 0 6) 1 120 := by first | exact zB.eqv ec26 b25x | (have q9 := b25x; constructor <;> omega)
                  have ek26_18_0_7 : (g26 18 0 7).toInt = (g4 18 0 7).toInt := by rw [hq26 18 0 7 (by omega)]
                  have c26_18_0_7x : zB (g26 18 0 7) (-1) 120 := by first | exact zB.eqv ek26_18_0_7 c4_18_0_7x | (have q9 := c4_18_0_7x; constructor <;> omega)
                  refine z_iinc (pc := 79) (v := 1) C dX7_readMarks_79 rfl (by decide) (by rw [hn]; decide) rfl ?_
                  obtain ⟨v27, hv27, e27⟩ : ∃ v : Int32, v = a4_3 + 1 ∧ v.toInt = a4_3.toInt + 1 := ⟨_, rfl, zadd_eb b3x (zB.of (x := 1) 1 (by decide)) (by decide) (by decide)⟩
                  rw [← hv27]
                  have b27x : zB v27 1 6 := by have q9 := b3x; constructor <;> omega
                  refine z_goto (pc := 82) 4 C dX7_readMarks_82 (by decide) ?_
                  refine w_mask [4, 5] ?_
                  exact ih0 v23 b23x v27 (zB.wk (a' := 0) (b' := 6) b27x (by decide) (by decide)) g26 hI26 hF26 (zB.wk c26x (by decide) (by decide)) c26_18_0_7x (by omega) (by omega) (by omega)
                · skip
                  have b28x : zB v20 1 32 := by have q1 := b20x; have q2 := (zB.of (x := 0) 0 (by decide)); simp only [z32lt, z32le, z32eq, Int32.reduceToInt, Int32.toInt_zero] at h50_20; constructor <;> omega
                  exact ih1 a4_2 (zB.wk (a' := 0) (b' := 63) b19x (by decide) (by decide)) a4_3 b3x v5 b13x v16 (zB.wk (a' := 0) (b' := 32) b18x (by decide) (by decide)) g4 hI4 hF4 c15x c4_18_0_7x (by omega) (by omega) (by omega)
            · skip
              have b29x : zB v5 6 158 := by have q1 := b9x; have q2 := (zB.of (x := 6) 6 (by decide)); simp only [z32lt, z32le, z32eq, Int32.reduceToInt, Int32.toInt_zero] at h28_11; constructor <;> omega
              have b30x : zB v4 103 255 := by first | assumption | (constructor <;> omega)
              have c31x : zB (g4 18 0 6) 0 119 := by first | assumption | (constructor <;> omega)
              refine z_goto (pc := 31) 85 C dX7_readMarks_31 (by decide) ?_
              refine w_mask [4] ?_
              exact ih2 a4_2 b4_2 a4_3 (zB.wk (a' := 0) (b' := 6) b3x (by decide) (by decide)) g4 hI4 hF4 (zB.wk c31x (by decide) (by decide)) c4_18_0_7x (by omega) (by omega) (by omega)
      · skip
        intro a53_2 b53_2 a53_3 b53_3 a53_4 b53_4 a53_5 b53_5 g53_ hI53_ hF53_ f53_18_0_6 f53_18_0_7 hR53_0 hR53_1 hM53_
        refine z_aload_n (pc := 53) C dX7_readMarks_53 rfl ?_
        refine z_aload_n (pc := 54) C dX7_readMarks_54 rfl ?_
        refine z_getI (pc := 55) C zf_X7_33 rfl rfl (by decide) dX7_readMarks_55 ?_
        refine w_gp (fun v => v.toInt = (g53_ 18 0 6).toInt) rfl (fun v32 e32 => ?_)
        have b32x : zB v32 0 119 := by have q9 : zB (g53_ 18 0 6) 0 119 := f53_18_0_6; constructor <;> omega
        refine z_callV (pc := 58) C zk_X7_56 (k_X7_fail _ _ v32 (zB.wk (a' := 0) (b' := 120) b32x (by decide) (by decide)) hI53_) rfl rfl (by decide) rfl rfl (Nat.le_of_ble_eq_true rfl) dX7_readMarks_58 (fun r33 g33 q33 => ?_)
        obtain ⟨rfl, hI33, hF33q, hp33_0, hp33_1⟩ := q33
        have hF33 := zFr.tr hF53_ hF33q (by decide)
        simp only [Option.toList, List.cons_append, List.nil_append]
        have ek33_18_0_6 : (g33 18 0 6).toInt = (g53_ 18 0 6).toInt := by rw [hF33q 18 0 6 rfl]
        have c33_18_0_6x : zB (g33 18 0 6) 0 119 := by first | exact zB.eqv ek33_18_0_6 f53_18_0_6 | (have q9 := f53_18_0_6; constructor <;> omega)
        have cr33_18_0_7 : zB (g33 18 0 7) (-1) 120 := hI33 18 0 7
        refine z_goto (pc := 61) 85 C dX7_readMarks_61 (by decide) ?_
        refine w_mask [4, 5] ?_
        exact ih2 a53_2 b53_2 a53_3 (zB.wk (a' := 0) (b' := 6) b53_3 (by decide) (by decide)) g33 hI33 hF33 (zB.wk c33_18_0_6x (by decide) (by decide)) cr33_18_0_7 (by omega) (by omega) (by omega)
      · skip
        intro a85_2 b85_2 a85_3 b85_3 g85_ hI85_ hF85_ f85_18_0_6 f85_18_0_7 hR85_0 hR85_1 hM85_
        refine z_iload_n (pc := 85) C dX7_readMarks_85 rfl ?_
        refine z_if_ne (pc := 86) 97 C dX7_readMarks_86 (by decide) (fun h86_33 => ?_) (fun h86_33 => ?_)
        · skip
          have b35x : zB a85_2 1 63 := by have q1 := b85_2; have q2 := (zB.of (x := 0) 0 (by decide)); simp only [z32lt, z32le, z32eq, Int32.reduceToInt, Int32.toInt_zero] at h86_33; constructor <;> omega
          exact ih3 a85_2 (zB.wk (a' := 0) (b' := 63) b35x (by decide) (by decide)) a85_3 b85_3 g85_ hI85_ hF85_ f85_18_0_6 f85_18_0_7 (by omega) (by omega) (by omega)
        · skip
          have b36x : zB a85_2 0 0 := by have q1 := b85_2; have q2 := (zB.of (x := 0) 0 (by decide)); simp only [z32lt, z32le, z32eq, Int32.reduceToInt, Int32.toInt_zero] at h86_33; constructor <;> omega
          refine z_aload_n (pc := 89) C dX7_readMarks_89 rfl ?_
          refine z_aload_n (pc := 90) C dX7_readMarks_90 rfl ?_
          refine z_getI (pc := 91) C zf_X7_33 rfl rfl (by decide) dX7_readMarks_91 ?_
          refine w_gp (fun v => v.toInt = (g85_ 18 0 6).toInt) rfl (fun v37 e37 => ?_)
          have b37x : zB v37 0 120 := by have q9 : zB (g85_ 18 0 6) 0 120 := f85_18_0_6; constructor <;> omega
          refine z_callV (pc := 94) C zk_X7_56 (k_X7_fail _ _ v37 b37x hI85_) rfl rfl (by decide) rfl rfl (Nat.le_of_ble_eq_true rfl) dX7_readMarks_94 (fun r38 g38 q38 => ?_)
          obtain ⟨rfl, hI38, hF38q, hp38_0, hp38_1⟩ := q38
          have hF38 := zFr.tr hF85_ hF38q (by decide)
          simp only [Option.toList, List.cons_append, List.nil_append]
          have ek38_18_0_6 : (g38 18 0 6).toInt = (g85_ 18 0 6).toInt := by rw [hF38q 18 0 6 rfl]
          have c38_18_0_6x : zB (g38 18 0 6) 0 120 := by first | exact zB.eqv ek38_18_0_6 f85_18_0_6 | (have q9 := f85_18_0_6; constructor <;> omega)
          have cr38_18_0_7 : zB (g38 18 0 7) (-1) 120 := hI38 18 0 7
          exact ih3 a85_2 (zB.wk (a' := 0) (b' := 63) b36x (by decide) (by decide)) a85_3 b85_3 g38 hI38 hF38 c38_18_0_6x cr38_18_0_7 (by omega) (by omega) (by omega)
      · skip
        intro a97_2 b97_2 a97_3 b97_3 g97_ hI97_ hF97_ f97_18_0_6 f97_18_0_7 hR97_0 hR97_1 hM97_
        refine z_iload_n (pc := 97) C dX7_readMarks_97 rfl ?_
        exact z_iret (pc := 98) C hr dX7_readMarks_98 ⟨⟨_, rfl, b97_2⟩, hI97_, hF97_, (by intro v hv; cases hv; omega), (by intro v hv; cases hv; omega)⟩
  obtain ⟨J0, J1, J2, J3⟩ := J 57
  show Z X 0 [some (zr 18 0), some (zi a1), none, none, none, none] [] f
  refine z_iconst (pc := 0) (v := 0) C dX7_readMarks_0 (by decide) ?_
  refine z_istore_n (pc := 1) C dX7_readMarks_1 (by rw [hn]; decide) rfl ?_
  refine z_iconst (pc := 2) (v := 0) C dX7_readMarks_2 (by decide) ?_
  refine z_istore_n (pc := 3) C dX7_readMarks_3 (by rw [hn]; decide) rfl ?_
  exact J0 0 (zB.wk (a' := 0) (b' := 63) (zB.of (x := 0) 0 (by decide)) (by decide) (by decide)) 0 (zB.wk (a' := 0) (b' := 6) (zB.of (x := 0) 0 (by decide)) (by decide) (by decide)) f hI hF ct18_0_6 ct18_0_7 (by have qc0 : (0 : Int32).toInt = 0 := (by decide); omega) (by have qc0 : (0 : Int32).toInt = 0 := (by decide); omega) (by have qc0 : (0 : Int32).toInt = 0 := (by decide); omega)

set_option maxRecDepth 100000 in
set_option maxHeartbeats 4000000 in
theorem k_X7_readNumber (d : Nat) (f : zM) (a1 : Int32) (b1 : zB a1 (-2147483648) 1000) (a2 : Int32) (b2 : zB a2 0 99) (hI : zInv f) : ZM (d + 1) yX7_readNumber cX7_readNumber 5 (some .int) [zr 18 0, zi a1, zi a2] f (fun r g => (∃ v, r = some (zi v) ∧ zB v (-2147483648) 1000) ∧ zInv g ∧ zFr [(18, some 6), (18, some 7)] f g ∧ (∀ v : Int32, r = some (zi v) → ((g 18 0 7).toInt = -1 → (f 18 0 7).toInt = -1)) ∧ (∀ v : Int32, r = some (zi v) → ((g 18 0 7).toInt = -1 → a1.toInt ≤ v.toInt ∧ v.toInt ≤ a2.toInt)) ∧ (∀ v : Int32, r = some (zi v) → (0 ≤ (f 18 0 7).toInt → (g 18 0 7).toInt = (f 18 0 7).toInt))) := by
  refine ZM.intro (by decide +kernel) (Nat.le_of_ble_eq_true rfl) ?_
  intro X C hr hn
  have hF : zFr [(18, some 6), (18, some 7)] f f := zFr.rf _ _
  have ct18_0_6 : zB (f 18 0 6) 0 120 := hI 18 0 6
  have ct18_0_3 : zB (f 18 0 3) 0 120 := hI 18 0 3
  have ct18_0_7 : zB (f 18 0 7) (-1) 120 := hI 18 0 7
  have J : ∀ t : Nat, (∀ a13_3 : Int32, zB a13_3 0 120 → ∀ a13_4 : Int32, zB a13_4 (-2147483648) 1000 → ∀ g : zM, zInv g → zFr [(18, some 6), (18, some 7)] f g → zB (g 18 0 3) 0 120 → zB (g 18 0 6) 0 120 → zB (g 18 0 7) (-1) 120 → (((g 18 0 7).toInt = -1 → (f 18 0 7).toInt = -1)) → ((0 ≤ (f 18 0 7).toInt → (g 18 0 7).toInt = (f 18 0 7).toInt)) → (3 + 6 * (120 - (g 18 0 6).toInt) : Int) < t → Z X 13 [some (zr 18 0), some (zi a1), some (zi a2), some (zi a13_3), some (zi a13_4)] [] g) ∧ (∀ a91_3 : Int32, zB a91_3 0 120 → ∀ a91_4 : Int32, zB a91_4 (-2147483648) 1000 → ∀ g : zM, zInv g → zFr [(18, some 6), (18, some 7)] f g → zB (g 18 0 3) 0 120 → zB (g 18 0 6) 0 120 → zB (g 18 0 7) (-1) 120 → (((g 18 0 7).toInt = -1 → (f 18 0 7).toInt = -1)) → ((0 ≤ (f 18 0 7).toInt → (g 18 0 7).toInt = (f 18 0 7).toInt)) → (2 : Int) < t → Z X 91 [some (zr 18 0), some (zi a1), some (zi a2), some (zi a91_3), some (zi a91_4)] [] g) ∧ (∀ a111_3 : Int32, zB a111_3 0 120 → ∀ a111_4 : Int32, zB a111_4 (-2147483648) 1000 → ∀ g : zM, zInv g → zFr [(18, some 6), (18, some 7)] f g → zB (g 18 0 3) 0 120 → zB (g 18 0 6) 0 120 → zB (g 18 0 7) (-1) 120 → (((g 18 0 7).toInt = -1 → (f 18 0 7).toInt = -1)) → ((0 ≤ (f 18 0 7).toInt → (g 18 0 7).toInt = (f 18 0 7).toInt)) → (1 : Int) < t → Z X 111 [some (zr 18 0), some (zi a1), some (zi a2), some (zi a111_3), some (zi a111_4)] [] g) ∧ (∀ a116_3 : Int32, zB a116_3 0 120 → ∀ a116_4 : Int32, zB a116_4 (-2147483648) 1000 → ∀ g : zM, zInv g → zFr [(18, some 6), (18, some 7)] f g → zB (g 18 0 3) 0 120 → zB (g 18 0 6) 0 120 → zB (g 18 0 7) (-1) 120 → (((g 18 0 7).toInt = -1 → (f 18 0 7).toInt = -1)) → ((0 ≤ (f 18 0 7).toInt → (g 18 0 7).toInt = (f 18 0 7).toInt)) → (((g 18 0 7).toInt = -1 → a1.toInt ≤ a116_4.toInt ∧ a116_4.toInt ≤ a2.toInt)) → (0 : Int) < t → Z X 116 [some (zr 18 0), some (zi a1), some (zi a2), some (zi a116_3), some (zi a116_4)] [] g) := by
    intro t
    induction t with
    | zero =>
      refine ⟨?_, ?_, ?_, ?_⟩ <;> (intros; exfalso; omega)
    | succ t ih =>
      obtain ⟨ih0, ih1, ih2, ih3⟩ := ih
      refine ⟨?_, ?_, ?_, ?_⟩
      · skip
        intro a13_3 b13_3 a13_4 b13_4 g13_ hI13_ hF13_ f13_18_0_3 f13_18_0_6 f13_18_0_7 hR13_0 hR13_1 hM13_
        refine z_aload_n (pc := 13) C dX7_readNumber_13 rfl ?_
        refine z_getI (pc := 14) C zf_X7_33 rfl rfl (by decide) dX7_readNumber_14 ?_
        refine w_gp (fun v => v.toInt = (g13_ 18 0 6).toInt) rfl (fun v1 e1 => ?_)
        have b1x : zB v1 0 120 := by have q9 : zB (g13_ 18 0 6) 0 120 := f13_18_0_6; constructor <;> omega
        refine z_aload_n (pc := 17) C dX7_readNumber_17 rfl ?_
        refine z_getI (pc := 18) C zf_X7_29 rfl rfl (by decide) dX7_readNumber_18 ?_
        refine w_gp (fun v => v.toInt = (g13_ 18 0 3).toInt) rfl (fun v2 e2 => ?_)
        have b2x : zB v2 0 120 := by have q9 : zB (g13_ 18 0 3) 0 120 := f13_18_0_3; constructor <;> omega
        refine z_icmp_ge (pc := 21) 91 C dX7_readNumber_21 (by decide) (fun h21_2 => ?_) (fun h21_2 => ?_)
        · skip
          have rr4 : v1.toInt ≥ v2.toInt := by simp only [z32lt, z32le, z32eq] at h21_2; omega
          exact ih1 a13_3 b13_3 a13_4 b13_4 g13_ hI13_ hF13_ f13_18_0_3 f13_18_0_6 f13_18_0_7 (by omega) (by omega) (by omega)
        · skip
          have rr5 : v1.toInt < v2.toInt := by simp only [z32lt, z32le, z32eq] at h21_2; omega
          have b6x : zB v1 0 119 := by have q1 := b1x; have q2 := b2x; simp only [z32lt, z32le, z32eq, Int32.reduceToInt, Int32.toInt_zero] at h21_2; constructor <;> omega
          have c7x : zB (g13_ 18 0 6) 0 119 := by first | assumption | (constructor <;> omega)
          have b8x : zB v2 1 120 := by have q1 := b1x; have q2 := b2x; simp only [z32lt, z32le, z32eq, Int32.reduceToInt, Int32.toInt_zero] at h21_2; constructor <;> omega
          have c9x : zB (g13_ 18 0 3) 1 120 := by first | assumption | (constructor <;> omega)
          refine z_aload_n (pc := 24) C dX7_readNumber_24 rfl ?_
          refine z_getR (pc := 25) C zf_X7_9 rfl rfl (by decide) dX7_readNumber_25 ?_
          refine z_aload_n (pc := 28) C dX7_readNumber_28 rfl ?_
          refine z_getI (pc := 29) C zf_X7_33 rfl rfl (by decide) dX7_readNumber_29 ?_
          refine w_gp (fun v => v.toInt = (g13_ 18 0 6).toInt) rfl (fun v10 e10 => ?_)
          have b10x : zB v10 0 119 := by have q9 : zB (g13_ 18 0 6) 0 119 := c7x; constructor <;> omega
          refine z_cald (pc := 32) C rfl (by decide) (zIx b10x (by decide) (by decide)) dX7_readNumber_32 ?_
          refine w_gb 0 255 (hI13_ 19 0 v10.toNatClampNeg) (fun v11 b11x => ?_)
          refine z_bipush (pc := 33) (v := 48) C dX7_readNumber_33 (by decide) ?_
          refine z_icmp_lt (pc := 35) 91 C dX7_readNumber_35 (by decide) (fun h35_11 => ?_) (fun h35_11 => ?_)
          · skip
            have b13x : zB v11 0 47 := by have q1 := b11x; have q2 := (zB.of (x := 48) 48 (by decide)); simp only [z32lt, z32le, z32eq, Int32.reduceToInt, Int32.toInt_zero] at h35_11; constructor <;> omega
            exact ih1 a13_3 b13_3 a13_4 b13_4 g13_ hI13_ hF13_ (zB.wk c9x (by decide) (by decide)) (zB.wk c7x (by decide) (by decide)) f13_18_0_7 (by omega) (by omega) (by omega)
          · skip
            have b14x : zB v11 48 255 := by have q1 := b11x; have q2 := (zB.of (x := 48) 48 (by decide)); simp only [z32lt, z32le, z32eq, Int32.reduceToInt, Int32.toInt_zero] at h35_11; constructor <;> omega
            refine z_aload_n (pc := 38) C dX7_readNumber_38 rfl ?_
            refine z_getR (pc := 39) C zf_X7_9 rfl rfl (by decide) dX7_readNumber_39 ?_
            refine z_aload_n (pc := 42) C dX7_readNumber_42 rfl ?_
            refine z_getI (pc := 43) C zf_X7_33 rfl rfl (by decide) dX7_readNumber_43 ?_
            refine w_gp (fun v => v.toInt = (g13_ 18 0 6).toInt) rfl (fun v15 e15 => ?_)
            have b15x : zB v15 0 119 := by have q9 : zB (g13_ 18 0 6) 0 119 := c7x; constructor <;> omega
            refine z_cald (pc := 46) C rfl (by decide) (zIx b15x (by decide) (by decide)) dX7_readNumber_46 ?_
            refine w_gb 0 255 (hI13_ 19 0 v15.toNatClampNeg) (fun v16 b16x => ?_)
            refine z_bipush (pc := 47) (v := 57) C dX7_readNumber_47 (by decide) ?_
            refine z_icmp_gt (pc := 49) 91 C dX7_readNumber_49 (by decide) (fun h49_16 => ?_) (fun h49_16 => ?_)
            · skip
              have b18x : zB v16 58 255 := by have q1 := b16x; have q2 := (zB.of (x := 57) 57 (by decide)); simp only [z32lt, z32le, z32eq, Int32.reduceToInt, Int32.toInt_zero] at h49_16; constructor <;> omega
              exact ih1 a13_3 b13_3 a13_4 b13_4 g13_ hI13_ hF13_ (zB.wk c9x (by decide) (by decide)) (zB.wk c7x (by decide) (by decide)) f13_18_0_7 (by omega) (by omega) (by omega)
            · skip
              have b19x : zB v16 0 57 := by have q1 := b16x; have q2 := (zB.of (x := 57) 57 (by decide)); simp only [z32lt, z32le, z32eq, Int32.reduceToInt, Int32.toInt_zero] at h49_16; constructor <;> omega
              refine z_iload (pc := 52) C dX7_readNumber_52 rfl ?_
              refine z_bipush (pc := 54) (v := 10) C dX7_readNumber_54 (by decide) ?_
              refine z_imul (pc := 56) C dX7_readNumber_56 ?_
              refine w_gb (-2147483648) 2147483647 (zB_any _) (fun v20 b20x => ?_)
              refine z_aload_n (pc := 57) C dX7_readNumber_57 rfl ?_
              refine z_getR (pc := 58) C zf_X7_9 rfl rfl (by decide) dX7_readNumber_58 ?_
              refine z_aload_n (pc := 61) C dX7_readNumber_61 rfl ?_
              refine z_getI (pc := 62) C zf_X7_33 rfl rfl (by decide) dX7_readNumber_62 ?_
              refine w_gp (fun v => v.toInt = (g13_ 18 0 6).toInt) rfl (fun v21 e21 => ?_)
              have b21x : zB v21 0 119 := by have q9 : zB (g13_ 18 0 6) 0 119 := c7x; constructor <;> omega
              refine z_cald (pc := 65) C rfl (by decide) (zIx b21x (by decide) (by decide)) dX7_readNumber_65 ?_
              refine w_gb 0 255 (hI13_ 19 0 v21.toNatClampNeg) (fun v22 b22x => ?_)
              refine z_iadd (pc := 66) C dX7_readNumber_66 ?_
              refine w_gb (-2147483648) 2147483647 (zB_any _) (fun v23 b23x => ?_)
              refine z_bipush (pc := 67) (v := 48) C dX7_readNumber_67 (by decide) ?_
              refine z_isub (pc := 69) C dX7_readNumber_69 ?_
              refine w_gb (-2147483648) 2147483647 (zB_any _) (fun v24 b24x => ?_)
              refine z_sipush (pc := 70) (v := 1000) C dX7_readNumber_70 (by decide) ?_
              refine z_mmin (pc := 73) C zk_X7_112 (Nat.le_of_ble_eq_true rfl) dX7_readNumber_73 ?_
              refine w_gb (-2147483648) 1000 (by have q9 := zmin_b b24x (zB.of (x := 1000) 1000 (by decide)); constructor <;> omega) (fun v25 b25x => ?_)
              refine z_istore (pc := 76) C dX7_readNumber_76 (by rw [hn]; decide) rfl ?_
              refine z_aload_n (pc := 78) C dX7_readNumber_78 rfl ?_
              refine z_dupr (pc := 79) C dX7_readNumber_79 ?_
              refine z_getI (pc := 80) C zf_X7_33 rfl rfl (by decide) dX7_readNumber_80 ?_
              refine w_gp (fun v => v.toInt = (g13_ 18 0 6).toInt) rfl (fun v26 e26 => ?_)
              have b26x : zB v26 0 119 := by have q9 : zB (g13_ 18 0 6) 0 119 := c7x; constructor <;> omega
              refine z_iconst (pc := 83) (v := 1) C dX7_readNumber_83 (by decide) ?_
              refine z_iadd (pc := 84) C dX7_readNumber_84 ?_
              refine w_gp (fun v => v.toInt = v26.toInt + 1) (zadd_eb b26x (zB.of (x := 1) 1 (by decide)) (by decide) (by decide)) (fun v27 e27 => ?_)
              have b27x : zB v27 1 120 := by have q1 := b26x; have q2 := (zB.of (x := 1) 1 (by decide)); constructor <;> omega
              refine z_putI (pc := 85) C zf_X7_33 zp_7_6 rfl rfl (by decide) dX7_readNumber_85 ?_
              refine w_mem2 hI13_ hF13_ (zB.wk (a' := 0) (b' := 120) b27x (by decide) (by decide)) rfl (fun g28 hI28 hF28 hq28 hx28 => ?_)
              have ec28 : (g28 18 0 6).toInt = v27.toInt := by rw [hx28]
              have c28x : zB (g28 18 0 6) 1 120 := by first | exact zB.eqv ec28 b27x | (have q9 := b27x; constructor <;> omega)
              have ek28_18_0_3 : (g28 18 0 3).toInt = (g13_ 18 0 3).toInt := by rw [hq28 18 0 3 (by omega)]
              have c28_18_0_3x : zB (g28 18 0 3) 1 120 := by first | exact zB.eqv ek28_18_0_3 c9x | (have q9 := c9x; constructor <;> omega)
              have ek28_18_0_7 : (g28 18 0 7).toInt = (g13_ 18 0 7).toInt := by rw [hq28 18 0 7 (by omega)]
              have c28_18_0_7x : zB (g28 18 0 7) (-1) 120 := by first | exact zB.eqv ek28_18_0_7 f13_18_0_7 | (have q9 := f13_18_0_7; constructor <;> omega)
              refine z_goto (pc := 88) 13 C dX7_readNumber_88 (by decide) ?_
              exact ih0 a13_3 b13_3 v25 b25x g28 hI28 hF28 (zB.wk c28_18_0_3x (by decide) (by decide)) (zB.wk c28x (by decide) (by decide)) c28_18_0_7x (by omega) (by omega) (by omega)
      · skip
        intro a91_3 b91_3 a91_4 b91_4 g91_ hI91_ hF91_ f91_18_0_3 f91_18_0_6 f91_18_0_7 hR91_0 hR91_1 hM91_
        refine z_aload_n (pc := 91) C dX7_readNumber_91 rfl ?_
        refine z_getI (pc := 92) C zf_X7_33 rfl rfl (by decide) dX7_readNumber_92 ?_
        refine w_gp (fun v => v.toInt = (g91_ 18 0 6).toInt) rfl (fun v29 e29 => ?_)
        have b29x : zB v29 0 120 := by have q9 : zB (g91_ 18 0 6) 0 120 := f91_18_0_6; constructor <;> omega
        refine z_iload_n (pc := 95) C dX7_readNumber_95 rfl ?_
        refine z_icmp_eq (pc := 96) 111 C dX7_readNumber_96 (by decide) (fun h96_29 => ?_) (fun h96_29 => ?_)
        · skip
          have rr31 : v29.toInt = a91_3.toInt := by simp only [z32lt, z32le, z32eq] at h96_29; omega
          exact ih2 a91_3 b91_3 a91_4 b91_4 g91_ hI91_ hF91_ f91_18_0_3 f91_18_0_6 f91_18_0_7 (by omega) (by omega) (by omega)
        · skip
          refine z_iload (pc := 99) C dX7_readNumber_99 rfl ?_
          refine z_iload_n (pc := 101) C dX7_readNumber_101 rfl ?_
          refine z_icmp_lt (pc := 102) 111 C dX7_readNumber_102 (by decide) (fun h102_31 => ?_) (fun h102_31 => ?_)
          · skip
            have rr33 : a91_4.toInt < a1.toInt := by simp only [z32lt, z32le, z32eq] at h102_31; omega
            have b34x : zB a91_4 (-2147483648) 999 := by have q1 := b91_4; have q2 := b1; simp only [z32lt, z32le, z32eq, Int32.reduceToInt, Int32.toInt_zero] at h102_31; constructor <;> omega
            have b35x : zB a1 (-2147483647) 1000 := by have q1 := b91_4; have q2 := b1; simp only [z32lt, z32le, z32eq, Int32.reduceToInt, Int32.toInt_zero] at h102_31; constructor <;> omega
            exact ih2 a91_3 b91_3 a91_4 (zB.wk (a' := (-2147483648)) (b' := 1000) b34x (by decide) (by decide)) g91_ hI91_ hF91_ f91_18_0_3 f91_18_0_6 f91_18_0_7 (by omega) (by omega) (by omega)
          · skip
            have rr36 : a91_4.toInt ≥ a1.toInt := by simp only [z32lt, z32le, z32eq] at h102_31; omega
            refine z_iload (pc := 105) C dX7_readNumber_105 rfl ?_
            refine z_iload_n (pc := 107) C dX7_readNumber_107 rfl ?_
            refine z_icmp_le (pc := 108) 116 C dX7_readNumber_108 (by decide) (fun h108_36 => ?_) (fun h108_36 => ?_)
            · skip
              have rr38 : a91_4.toInt ≤ a2.toInt := by simp only [z32lt, z32le, z32eq] at h108_36; omega
              have b39x : zB a91_4 (-2147483648) 99 := by have q1 := b91_4; have q2 := b2; simp only [z32lt, z32le, z32eq, Int32.reduceToInt, Int32.toInt_zero] at h108_36; constructor <;> omega
              exact ih3 a91_3 b91_3 a91_4 (zB.wk (a' := (-2147483648)) (b' := 1000) b39x (by decide) (by decide)) g91_ hI91_ hF91_ f91_18_0_3 f91_18_0_6 f91_18_0_7 (by omega) (by omega) (by omega) (by omega)
            · skip
              have rr40 : a91_4.toInt > a2.toInt := by simp only [z32lt, z32le, z32eq] at h108_36; omega
              have b41x : zB a91_4 1 1000 := by have q1 := b91_4; have q2 := b2; simp only [z32lt, z32le, z32eq, Int32.reduceToInt, Int32.toInt_zero] at h108_36; constructor <;> omega
              exact ih2 a91_3 b91_3 a91_4 (zB.wk (a' := (-2147483648)) (b' := 1000) b41x (by decide) (by decide)) g91_ hI91_ hF91_ f91_18_0_3 f91_18_0_6 f91_18_0_7 (by omega) (by omega) (by omega)
      · skip
        intro a111_3 b111_3 a111_4 b111_4 g111_ hI111_ hF111_ f111_18_0_3 f111_18_0_6 f111_18_0_7 hR111_0 hR111_1 hM111_
        refine z_aload_n (pc := 111) C dX7_readNumber_111 rfl ?_
        refine z_iload_n (pc := 112) C dX7_readNumber_112 rfl ?_
        refine z_callV (pc := 113) C zk_X7_56 (k_X7_fail _ _ a111_3 b111_3 hI111_) rfl rfl (by decide) rfl rfl (Nat.le_of_ble_eq_true rfl) dX7_readNumber_113 (fun r42 g42 q42 => ?_)
        obtain ⟨rfl, hI42, hF42q, hp42_0, hp42_1⟩ := q42
        have hF42 := zFr.tr hF111_ hF42q (by decide)
        simp only [Option.toList, List.cons_append, List.nil_append]
        have ek42_18_0_6 : (g42 18 0 6).toInt = (g111_ 18 0 6).toInt := by rw [hF42q 18 0 6 rfl]
        have c42_18_0_6x : zB (g42 18 0 6) 0 120 := by first | exact zB.eqv ek42_18_0_6 f111_18_0_6 | (have q9 := f111_18_0_6; constructor <;> omega)
        have ek42_18_0_3 : (g42 18 0 3).toInt = (g111_ 18 0 3).toInt := by rw [hF42q 18 0 3 rfl]
        have c42_18_0_3x : zB (g42 18 0 3) 0 120 := by first | exact zB.eqv ek42_18_0_3 f111_18_0_3 | (have q9 := f111_18_0_3; constructor <;> omega)
        have cr42_18_0_7 : zB (g42 18 0 7) (-1) 120 := hI42 18 0 7
        exact ih3 a111_3 b111_3 a111_4 b111_4 g42 hI42 hF42 c42_18_0_3x c42_18_0_6x cr42_18_0_7 (by omega) (by omega) (by omega) (by omega)
      · skip
        intro a116_3 b116_3 a116_4 b116_4 g116_ hI116_ hF116_ f116_18_0_3 f116_18_0_6 f116_18_0_7 hR116_0 hR116_1 hR116_2 hM116_
        refine z_iload (pc := 116) C dX7_readNumber_116 rfl ?_
        exact z_iret (pc := 118) C hr dX7_readNumber_118 ⟨⟨_, rfl, b116_4⟩, hI116_, hF116_, (by intro v hv; cases hv; omega), (by intro v hv; cases hv; omega), (by intro v hv; cases hv; omega)⟩
  obtain ⟨J0, J1, J2, J3⟩ := J 741
  show Z X 0 [some (zr 18 0), some (zi a1), some (zi a2), none, none] [] f
  refine z_aload_n (pc := 0) C dX7_readNumber_0 rfl ?_
  refine z_callV (pc := 1) C zk_X7_52 (w_X7_next _ _  hI) rfl rfl (by decide) rfl rfl (Nat.le_of_ble_eq_true rfl) dX7_readNumber_1 (fun r43 g43 q43 => ?_)
  obtain ⟨⟨v43, rfl, b43x⟩, hI43, hF43q, hp43_0, hp43_1, hp43_2, hp43_3⟩ := q43
  have hp43_0 := hp43_0 _ rfl
  have hp43_1 := hp43_1 _ rfl
  have hp43_2 := hp43_2 _ rfl
  have hp43_3 := hp43_3 _ rfl
  have hF43 := zFr.tr hF hF43q (by decide)
  simp only [Option.toList, List.cons_append, List.nil_append]
  have cr43_18_0_6 : zB (g43 18 0 6) 0 120 := hI43 18 0 6
  have ek43_18_0_3 : (g43 18 0 3).toInt = (f 18 0 3).toInt := by rw [hF43q 18 0 3 rfl]
  have c43_18_0_3x : zB (g43 18 0 3) 0 120 := by first | exact zB.eqv ek43_18_0_3 ct18_0_3 | (have q9 := ct18_0_3; constructor <;> omega)
  have ek43_18_0_7 : (g43 18 0 7).toInt = (f 18 0 7).toInt := by rw [hF43q 18 0 7 rfl]
  have c43_18_0_7x : zB (g43 18 0 7) (-1) 120 := by first | exact zB.eqv ek43_18_0_7 ct18_0_7 | (have q9 := ct18_0_7; constructor <;> omega)
  refine z_pop (pc := 4) C dX7_readNumber_4 ?_
  refine z_aload_n (pc := 5) C dX7_readNumber_5 rfl ?_
  refine z_getI (pc := 6) C zf_X7_33 rfl rfl (by decide) dX7_readNumber_6 ?_
  refine w_gp (fun v => v.toInt = (g43 18 0 6).toInt) rfl (fun v44 e44 => ?_)
  have b44x : zB v44 0 120 := by have q9 : zB (g43 18 0 6) 0 120 := cr43_18_0_6; constructor <;> omega
  refine z_istore_n (pc := 9) C dX7_readNumber_9 (by rw [hn]; decide) rfl ?_
  refine z_iconst (pc := 10) (v := 0) C dX7_readNumber_10 (by decide) ?_
  refine z_istore (pc := 11) C dX7_readNumber_11 (by rw [hn]; decide) rfl ?_
  exact J0 v44 b44x 0 (zB.wk (a' := (-2147483648)) (b' := 1000) (zB.of (x := 0) 0 (by decide)) (by decide) (by decide)) g43 hI43 hF43 c43_18_0_3x cr43_18_0_6 c43_18_0_7x (by have qc0 : (0 : Int32).toInt = 0 := (by decide); omega) (by have qc0 : (0 : Int32).toInt = 0 := (by decide); omega) (by have qc0 : (0 : Int32).toInt = 0 := (by decide); omega)

set_option maxRecDepth 100000 in
set_option maxHeartbeats 4000000 in
theorem k_X7_readLetters_0 (d : Nat) (f : zM) (a2 : Int32) (b2 : zB a2 0 1) (hI : zInv f) : ZMs (d + 4) yX7_readLetters cX7_readLetters 8 (some .int) [zr 18 0, zr 44 1, zi a2] f (fun r g => (∃ v, r = some (zi v) ∧ zB v 0 31) ∧ zInv g ∧ zFr [(18, some 6), (18, some 7)] f g ∧ (∀ v : Int32, r = some (zi v) → ((g 18 0 7).toInt = -1 → (f 18 0 7).toInt = -1)) ∧ (∀ v : Int32, r = some (zi v) → (0 ≤ (f 18 0 7).toInt → (g 18 0 7).toInt = (f 18 0 7).toInt))) := by
  refine ZMs.intro (by decide +kernel) (Nat.le_of_ble_eq_true rfl) ?_
  intro X C hr hn hT
  have hF : zFr [(18, some 6), (18, some 7)] f f := zFr.rf _ _
  have ct18_0_6 : zB (f 18 0 6) 0 120 := hI 18 0 6
  have ct18_0_7 : zB (f 18 0 7) (-1) 120 := hI 18 0 7
  have J : ∀ t : Nat, (∀ a5_3 : Int32, zB a5_3 0 31 → ∀ a5_4 : Int32, zB a5_4 0 5 → ∀ g : zM, zInv g → zFr [(18, some 6), (18, some 7)] f g → zB (g 18 0 6) 0 120 → zB (g 18 0 7) (-1) 120 → (((g 18 0 7).toInt = -1 → (f 18 0 7).toInt = -1)) → ((0 ≤ (f 18 0 7).toInt → (g 18 0 7).toInt = (f 18 0 7).toInt)) → (4 + 7 * (5 - a5_4.toInt) : Int) < t → Z X 5 [some (zr 18 0), some (zr 44 1), some (zi a2), some (zi a5_3), some (zi a5_4), none, none, none] [] g) ∧ (∀ a37_3 : Int32, zB a37_3 0 31 → ∀ a37_4 : Int32, zB a37_4 0 4 → ∀ a37_5 : Int32, zB a37_5 (-1) 255 → ∀ a37_s0 : Int32, zB a37_s0 (-1) 4 → ∀ g : zM, zInv g → zFr [(18, some 6), (18, some 7)] f g → zB (g 18 0 6) 0 120 → zB (g 18 0 7) (-1) 120 → (((g 18 0 7).toInt = -1 → (f 18 0 7).toInt = -1)) → ((0 ≤ (f 18 0 7).toInt → (g 18 0 7).toInt = (f 18 0 7).toInt)) → ((0 ≤ a37_s0.toInt → 0 ≤ (g 18 0 6).toInt ∧ (g 18 0 6).toInt ≤ 119)) → (3 + 7 * (5 - a37_4.toInt) : Int) < t → Z X 37 [some (zr 18 0), some (zr 44 1), some (zi a2), some (zi a37_3), some (zi a37_4), some (zi a37_5), none, none] [zi a37_s0] g) ∧ (∀ a70_3 : Int32, zB a70_3 0 31 → ∀ a70_4 : Int32, zB a70_4 0 4 → ∀ a70_5 : Int32, zB a70_5 (-1) 255 → ∀ a70_6 : Int32, zB a70_6 0 4 → ∀ a70_7 : Int32, zB a70_7 0 16 → ∀ g : zM, zInv g → zFr [(18, some 6), (18, some 7)] f g → zB (g 18 0 6) 0 119 → zB (g 18 0 7) (-1) 120 → (((g 18 0 7).toInt = -1 → (f 18 0 7).toInt = -1)) → ((0 ≤ (f 18 0 7).toInt → (g 18 0 7).toInt = (f 18 0 7).toInt)) → (2 + 7 * (5 - a70_4.toInt) : Int) < t → Z X 70 [some (zr 18 0), some (zr 44 1), some (zi a2), some (zi a70_3), some (zi a70_4), some (zi a70_5), some (zi a70_6), some (zi a70_7)] [] g) ∧ (∀ a81_3 : Int32, zB a81_3 0 31 → ∀ a81_4 : Int32, zB a81_4 0 4 → ∀ a81_5 : Int32, zB a81_5 (-1) 255 → ∀ a81_6 : Int32, zB a81_6 0 4 → ∀ a81_7 : Int32, zB a81_7 0 16 → ∀ g : zM, zInv g → zFr [(18, some 6), (18, some 7)] f g → zB (g 18 0 6) 0 119 → zB (g 18 0 7) (-1) 120 → (((g 18 0 7).toInt = -1 → (f 18 0 7).toInt = -1)) → ((0 ≤ (f 18 0 7).toInt → (g 18 0 7).toInt = (f 18 0 7).toInt)) → (1 + 7 * (5 - a81_4.toInt) : Int) < t → Z X 81 [some (zr 18 0), some (zr 44 1), some (zi a2), some (zi a81_3), some (zi a81_4), some (zi a81_5), some (zi a81_6), some (zi a81_7)] [] g) ∧ (∀ a102_3 : Int32, zB a102_3 0 31 → ∀ a102_4 : Int32, zB a102_4 0 5 → ∀ g : zM, zInv g → zFr [(18, some 6), (18, some 7)] f g → zB (g 18 0 6) 0 120 → zB (g 18 0 7) (-1) 120 → (((g 18 0 7).toInt = -1 → (f 18 0 7).toInt = -1)) → ((0 ≤ (f 18 0 7).toInt → (g 18 0 7).toInt = (f 18 0 7).toInt)) → (0 : Int) < t → Z X 102 [some (zr 18 0), some (zr 44 1), some (zi a2), some (zi a102_3), some (zi a102_4), none, none, none] [] g) := by
    intro t
    induction t with
    | zero =>
      refine ⟨?_, ?_, ?_, ?_, ?_⟩ <;> (intros; exfalso; omega)
    | succ t ih =>
      obtain ⟨ih0, ih1, ih2, ih3, ih4⟩ := ih
      refine ⟨?_, ?_, ?_, ?_, ?_⟩
      · skip
        intro a5_3 b5_3 a5_4 b5_4 g5_ hI5_ hF5_ f5_18_0_6 f5_18_0_7 hR5_0 hR5_1 hM5_
        refine z_iload (pc := 5) C dX7_readLetters_5 rfl ?_
        refine z_aload_n (pc := 7) C dX7_readLetters_7 rfl ?_
        refine z_callT (pc := 8) C hT zk_X7_117 (t_J0_length_8abf5 _ _ 0 (by decide)) (by decide) rfl rfl rfl (Nat.le_of_ble_eq_true rfl) dX7_readLetters_8 (fun r8 g8 q8 => ?_)
        obtain ⟨rfl, hm8⟩ := q8
        obtain rfl := hm8.symm
        simp only [Option.toList, List.cons_append, List.nil_append]
        refine w_gb 5 5 (show (5 : Int) ≤ (nI (zLen.getD 0 0)).toInt ∧ (nI (zLen.getD 0 0)).toInt ≤ 5 from by decide) (fun v1 b1x => ?_)
        refine z_icmp_ge (pc := 11) 102 C dX7_readLetters_11 (by decide) (fun h11_1 => ?_) (fun h11_1 => ?_)
        · skip
          have b3x : zB a5_4 5 5 := by have q1 := b5_4; have q2 := b1x; simp only [z32lt, z32le, z32eq, Int32.reduceToInt, Int32.toInt_zero] at h11_1; constructor <;> omega
          exact ih4 a5_3 b5_3 a5_4 (zB.wk (a' := 0) (b' := 5) b3x (by decide) (by decide)) g5_ hI5_ hF5_ f5_18_0_6 f5_18_0_7 (by omega) (by omega) (by omega)
        · skip
          have b4x : zB a5_4 0 4 := by have q1 := b5_4; have q2 := b1x; simp only [z32lt, z32le, z32eq, Int32.reduceToInt, Int32.toInt_zero] at h11_1; constructor <;> omega
          refine z_aload_n (pc := 14) C dX7_readLetters_14 rfl ?_
          refine z_callV (pc := 15) C zk_X7_52 (w_X7_next _ _  hI5_) rfl rfl (by decide) rfl rfl (Nat.le_of_ble_eq_true rfl) dX7_readLetters_15 (fun r5 g5 q5 => ?_)
          obtain ⟨⟨v5, rfl, b5x⟩, hI5, hF5q, hp5_0, hp5_1, hp5_2, hp5_3⟩ := q5
          have hp5_0 := hp5_0 _ rfl
          have hp5_1 := hp5_1 _ rfl
          have hp5_2 := hp5_2 _ rfl
          have hp5_3 := hp5_3 _ rfl
          have hF5 := zFr.tr hF5_ hF5q (by decide)
          simp only [Option.toList, List.cons_append, List.nil_append]
          have cr5_18_0_6 : zB (g5 18 0 6) 0 120 := hI5 18 0 6
          have ek5_18_0_7 : (g5 18 0 7).toInt = (g5_ 18 0 7).toInt := by rw [hF5q 18 0 7 rfl]
          have c5_18_0_7x : zB (g5 18 0 7) (-1) 120 := by first | exact zB.eqv ek5_18_0_7 f5_18_0_7 | (have q9 := f5_18_0_7; constructor <;> omega)
          refine z_istore (pc := 18) C dX7_readLetters_18 (by rw [hn]; decide) rfl ?_
          refine z_iload (pc := 20) C dX7_readLetters_20 rfl ?_
          refine z_iconst (pc := 22) (v := -1) C dX7_readLetters_22 (by decide) ?_
          refine z_icmp_ne (pc := 23) 30 C dX7_readLetters_23 (by decide) (fun h23_5 => ?_) (fun h23_5 => ?_)
          · skip
            have b7x : zB v5 0 255 := by have q1 := b5x; have q2 := (zB.of (x := (-1)) (-1) (by decide)); simp only [z32lt, z32le, z32eq, Int32.reduceToInt, Int32.toInt_zero] at h23_5; constructor <;> omega
            have c8x : zB (g5 18 0 6) 0 119 := by first | assumption | (constructor <;> omega)
            refine z_aload_n (pc := 30) C dX7_readLetters_30 rfl ?_
            refine z_iload (pc := 31) C dX7_readLetters_31 rfl ?_
            refine z_i2c (pc := 33) C dX7_readLetters_33 ?_
            refine w_gb 0 255 (zi2c_b b7x (by decide) (by decide)) (fun v9 b9x => ?_)
            refine z_callT (pc := 34) C hT zk_X7_121 (t_J0_indexOf_0f7a4 _ _ 0 (by decide) v9) (by decide) rfl rfl rfl (Nat.le_of_ble_eq_true rfl) dX7_readLetters_34 (fun r34 g34 q34 => ?_)
            obtain ⟨⟨v10, rfl, b10y⟩, hm34⟩ := q34
            obtain rfl := hm34.symm
            simp only [Option.toList, List.cons_append, List.nil_append]
            have b10x : zB v10 (-1) 4 := b10y
            exact ih1 a5_3 b5_3 a5_4 b4x v5 (zB.wk (a' := (-1)) (b' := 255) b7x (by decide) (by decide)) v10 b10x g5 hI5 hF5 (zB.wk c8x (by decide) (by decide)) c5_18_0_7x (by omega) (by omega) (by omega) (by omega)
          · skip
            have b11x : zB v5 (-1) (-1) := by have q1 := b5x; have q2 := (zB.of (x := (-1)) (-1) (by decide)); simp only [z32lt, z32le, z32eq, Int32.reduceToInt, Int32.toInt_zero] at h23_5; constructor <;> omega
            refine z_iconst (pc := 26) (v := -1) C dX7_readLetters_26 (by decide) ?_
            refine z_goto (pc := 27) 37 C dX7_readLetters_27 (by decide) ?_
            exact ih1 a5_3 b5_3 a5_4 b4x v5 (zB.wk (a' := (-1)) (b' := 255) b11x (by decide) (by decide)) (-1) (zB.wk (a' := (-1)) (b' := 4) (zB.of (x := (-1)) (-1) (by decide)) (by decide) (by decide)) g5 hI5 hF5 cr5_18_0_6 c5_18_0_7x (by have qc0 : ((-1) : Int32).toInt = (-1) := (by decide); omega) (by have qc0 : ((-1) : Int32).toInt = (-1) := (by decide); omega) (by have qc0 : ((-1) : Int32).toInt = (-1) := (by decide); omega) (by have qc0 : ((-1) : Int32).toInt = (-1) := (by decide); omega)
      · skip
        intro a37_3 b37_3 a37_4 b37_4 a37_5 b37_5 a37_s0 b37_s0 g37_ hI37_ hF37_ f37_18_0_6 f37_18_0_7 hR37_0 hR37_1 hR37_2 hM37_
        refine z_istore (pc := 37) C dX7_readLetters_37 (by rw [hn]; decide) rfl ?_
        refine z_iload (pc := 39) C dX7_readLetters_39 rfl ?_
        refine z_if_ge (pc := 41) 47 C dX7_readLetters_41 (by decide) (fun h41_11 => ?_) (fun h41_11 => ?_)
        · skip
          have b13x : zB a37_s0 0 4 := by have q1 := b37_s0; have q2 := (zB.of (x := 0) 0 (by decide)); simp only [z32lt, z32le, z32eq, Int32.reduceToInt, Int32.toInt_zero] at h41_11; constructor <;> omega
          have c14x : zB (g37_ 18 0 6) 0 119 := by first | assumption | (constructor <;> omega)
          refine z_iconst (pc := 47) (v := 1) C dX7_readLetters_47 (by decide) ?_
          refine z_iload (pc := 48) C dX7_readLetters_48 rfl ?_
          refine z_ishl (pc := 50) C dX7_readLetters_50 ?_
          refine w_gb 0 16 (zshl_b b13x 4 (by decide) (by decide)) (fun v15 b15x => ?_)
          refine z_istore (pc := 51) C dX7_readLetters_51 (by rw [hn]; decide) rfl ?_
          refine z_iload_n (pc := 53) C dX7_readLetters_53 rfl ?_
          refine z_iload (pc := 54) C dX7_readLetters_54 rfl ?_
          refine z_iand (pc := 56) C dX7_readLetters_56 ?_
          refine w_gp (fun v => zB v 0 16 ∧ v.toInt ≤ v15.toInt) (zand_r b37_3 b15x (by decide)) (fun v16 e16 => ?_)
          have b16x := e16.1
          have r16 := e16.2
          refine z_if_ne (pc := 57) 70 C dX7_readLetters_57 (by decide) (fun h57_16 => ?_) (fun h57_16 => ?_)
          · skip
            have b18x : zB v16 1 16 := by have q1 := b16x; have q2 := (zB.of (x := 0) 0 (by decide)); simp only [z32lt, z32le, z32eq, Int32.reduceToInt, Int32.toInt_zero] at h57_16; constructor <;> omega
            exact ih2 a37_3 b37_3 a37_4 b37_4 a37_5 b37_5 a37_s0 b13x v15 b15x g37_ hI37_ hF37_ c14x f37_18_0_7 (by omega) (by omega) (by omega)
          · skip
            have b19x : zB v16 0 0 := by have q1 := b16x; have q2 := (zB.of (x := 0) 0 (by decide)); simp only [z32lt, z32le, z32eq, Int32.reduceToInt, Int32.toInt_zero] at h57_16; constructor <;> omega
            refine z_iload_n (pc := 60) C dX7_readLetters_60 rfl ?_
            refine z_if_eq (pc := 61) 81 C dX7_readLetters_61 (by decide) (fun h61_19 => ?_) (fun h61_19 => ?_)
            · skip
              have b21x : zB a2 0 0 := by have q1 := b2; have q2 := (zB.of (x := 0) 0 (by decide)); simp only [z32lt, z32le, z32eq, Int32.reduceToInt, Int32.toInt_zero] at h61_19; constructor <;> omega
              exact ih3 a37_3 b37_3 a37_4 b37_4 a37_5 b37_5 a37_s0 b13x v15 b15x g37_ hI37_ hF37_ c14x f37_18_0_7 (by omega) (by omega) (by omega)
            · skip
              have b22x : zB a2 1 1 := by have q1 := b2; have q2 := (zB.of (x := 0) 0 (by decide)); simp only [z32lt, z32le, z32eq, Int32.reduceToInt, Int32.toInt_zero] at h61_19; constructor <;> omega
              refine z_iload (pc := 64) C dX7_readLetters_64 rfl ?_
              refine z_iload_n (pc := 66) C dX7_readLetters_66 rfl ?_
              refine z_icmp_ge (pc := 67) 81 C dX7_readLetters_67 (by decide) (fun h67_22 => ?_) (fun h67_22 => ?_)
              · skip
                have b24x : zB a37_3 0 16 := by have q1 := b15x; have q2 := b37_3; simp only [z32lt, z32le, z32eq, Int32.reduceToInt, Int32.toInt_zero] at h67_22; constructor <;> omega
                exact ih3 a37_3 (zB.wk (a' := 0) (b' := 31) b24x (by decide) (by decide)) a37_4 b37_4 a37_5 b37_5 a37_s0 b13x v15 b15x g37_ hI37_ hF37_ c14x f37_18_0_7 (by omega) (by omega) (by omega)
              · skip
                have b25x : zB a37_3 1 31 := by have q1 := b15x; have q2 := b37_3; simp only [z32lt, z32le, z32eq, Int32.reduceToInt, Int32.toInt_zero] at h67_22; constructor <;> omega
                exact ih2 a37_3 (zB.wk (a' := 0) (b' := 31) b25x (by decide) (by decide)) a37_4 b37_4 a37_5 b37_5 a37_s0 b13x v15 b15x g37_ hI37_ hF37_ c14x f37_18_0_7 (by omega) (by omega) (by omega)
        · skip
          have b26x : zB a37_s0 (-1) (-1) := by have q1 := b37_s0; have q2 := (zB.of (x := 0) 0 (by decide)); simp only [z32lt, z32le, z32eq, Int32.reduceToInt, Int32.toInt_zero] at h41_11; constructor <;> omega
          refine z_goto (pc := 44) 102 C dX7_readLetters_44 (by decide) ?_
          refine w_mask [5, 6] ?_
          exact ih4 a37_3 b37_3 a37_4 (zB.wk (a' := 0) (b' := 5) b37_4 (by decide) (by decide)) g37_ hI37_ hF37_ f37_18_0_6 f37_18_0_7 (by omega) (by omega) (by omega)
      · skip
        intro a70_3 b70_3 a70_4 b70_4 a70_5 b70_5 a70_6 b70_6 a70_7 b70_7 g70_ hI70_ hF70_ f70_18_0_6 f70_18_0_7 hR70_0 hR70_1 hM70_
        refine z_aload_n (pc := 70) C dX7_readLetters_70 rfl ?_
        refine z_aload_n (pc := 71) C dX7_readLetters_71 rfl ?_
        refine z_getI (pc := 72) C zf_X7_33 rfl rfl (by decide) dX7_readLetters_72 ?_
        refine w_gp (fun v => v.toInt = (g70_ 18 0 6).toInt) rfl (fun v27 e27 => ?_)
        have b27x : zB v27 0 119 := by have q9 : zB (g70_ 18 0 6) 0 119 := f70_18_0_6; constructor <;> omega
        refine z_callV (pc := 75) C zk_X7_56 (k_X7_fail _ _ v27 (zB.wk (a' := 0) (b' := 120) b27x (by decide) (by decide)) hI70_) rfl rfl (by decide) rfl rfl (Nat.le_of_ble_eq_true rfl) dX7_readLetters_75 (fun r28 g28 q28 => ?_)
        obtain ⟨rfl, hI28, hF28q, hp28_0, hp28_1⟩ := q28
        have hF28 := zFr.tr hF70_ hF28q (by decide)
        simp only [Option.toList, List.cons_append, List.nil_append]
        have ek28_18_0_6 : (g28 18 0 6).toInt = (g70_ 18 0 6).toInt := by rw [hF28q 18 0 6 rfl]
        have c28_18_0_6x : zB (g28 18 0 6) 0 119 := by first | exact zB.eqv ek28_18_0_6 f70_18_0_6 | (have q9 := f70_18_0_6; constructor <;> omega)
        have cr28_18_0_7 : zB (g28 18 0 7) (-1) 120 := hI28 18 0 7
        refine z_goto (pc := 78) 102 C dX7_readLetters_78 (by decide) ?_
        refine w_mask [5, 6, 7] ?_
        exact ih4 a70_3 b70_3 a70_4 (zB.wk (a' := 0) (b' := 5) b70_4 (by decide) (by decide)) g28 hI28 hF28 (zB.wk c28_18_0_6x (by decide) (by decide)) cr28_18_0_7 (by omega) (by omega) (by omega)
      · skip
        intro a81_3 b81_3 a81_4 b81_4 a81_5 b81_5 a81_6 b81_6 a81_7 b81_7 g81_ hI81_ hF81_ f81_18_0_6 f81_18_0_7 hR81_0 hR81_1 hM81_
        refine z_iload_n (pc := 81) C dX7_readLetters_81 rfl ?_
        refine z_iload (pc := 82) C dX7_readLetters_82 rfl ?_
        refine z_ior (pc := 84) C dX7_readLetters_84 ?_
        refine w_gb 0 31 (zor_b 5 b81_3 b81_7 (by decide) (by decide) (by decide) (by decide) (by decide)) (fun v29 b29x => ?_)
        refine z_istore_n (pc := 85) C dX7_readLetters_85 (by rw [hn]; decide) rfl ?_
        refine z_aload_n (pc := 86) C dX7_readLetters_86 rfl ?_
        refine z_dupr (pc := 87) C dX7_readLetters_87 ?_
        refine z_getI (pc := 88) C zf_X7_33 rfl rfl (by decide) dX7_readLetters_88 ?_
        refine w_gp (fun v => v.toInt = (g81_ 18 0 6).toInt) rfl (fun v30 e30 => ?_)
        have b30x : zB v30 0 119 := by have q9 : zB (g81_ 18 0 6) 0 119 := f81_18_0_6; constructor <;> omega
        refine z_iconst (pc := 91) (v := 1) C dX7_readLetters_91 (by decide) ?_
        refine z_iadd (pc := 92) C dX7_readLetters_92 ?_
        refine w_gp (fun v => v.toInt = v30.toInt + 1) (zadd_eb b30x (zB.of (x := 1) 1 (by decide)) (by decide) (by decide)) (fun v31 e31 => ?_)
        have b31x : zB v31 1 120 := by have q1 := b30x; have q2 := (zB.of (x := 1) 1 (by decide)); constructor <;> omega
        refine z_putI (pc := 93) C zf_X7_33 zp_7_6 rfl rfl (by decide) dX7_readLetters_93 ?_
        refine w_mem2 hI81_ hF81_ (zB.wk (a' := 0) (b' := 120) b31x (by decide) (by decide)) rfl (fun g32 hI32 hF32 hq32 hx32 => ?_)
        have ec32 : (g32 18 0 6).toInt = v31.toInt := by rw [hx32]
        have c32x : zB (g32 18 0 6) 1 120 := by first | exact zB.eqv ec32 b31x | (have q9 := b31x; constructor <;> omega)
        have ek32_18_0_7 : (g32 18 0 7).toInt = (g81_ 18 0 7).toInt := by rw [hq32 18 0 7 (by omega)]
        have c32_18_0_7x : zB (g32 18 0 7) (-1) 120 := by first | exact zB.eqv ek32_18_0_7 f81_18_0_7 | (have q9 := f81_18_0_7; constructor <;> omega)
        refine z_iinc (pc := 96) (v := 1) C dX7_readLetters_96 rfl (by decide) (by rw [hn]; decide) rfl ?_
        obtain ⟨v33, hv33, e33⟩ : ∃ v : Int32, v = a81_4 + 1 ∧ v.toInt = a81_4.toInt + 1 := ⟨_, rfl, zadd_eb b81_4 (zB.of (x := 1) 1 (by decide)) (by decide) (by decide)⟩
        rw [← hv33]
        have b33x : zB v33 1 5 := by have q9 := b81_4; constructor <;> omega
        refine z_goto (pc := 99) 5 C dX7_readLetters_99 (by decide) ?_
        refine w_mask [5, 6, 7] ?_
        exact ih0 v29 b29x v33 (zB.wk (a' := 0) (b' := 5) b33x (by decide) (by decide)) g32 hI32 hF32 (zB.wk c32x (by decide) (by decide)) c32_18_0_7x (by omega) (by omega) (by omega)
      · skip
        intro a102_3 b102_3 a102_4 b102_4 g102_ hI102_ hF102_ f102_18_0_6 f102_18_0_7 hR102_0 hR102_1 hM102_
        refine z_iload_n (pc := 102) C dX7_readLetters_102 rfl ?_
        exact z_iret (pc := 103) C hr dX7_readLetters_103 ⟨⟨_, rfl, b102_3⟩, hI102_, hF102_, (by intro v hv; cases hv; omega), (by intro v hv; cases hv; omega)⟩
  obtain ⟨J0, J1, J2, J3, J4⟩ := J 58
  show Z X 0 [some (zr 18 0), some (zr 44 1), some (zi a2), none, none, none, none, none] [] f
  refine z_iconst (pc := 0) (v := 0) C dX7_readLetters_0 (by decide) ?_
  refine z_istore_n (pc := 1) C dX7_readLetters_1 (by rw [hn]; decide) rfl ?_
  refine z_iconst (pc := 2) (v := 0) C dX7_readLetters_2 (by decide) ?_
  refine z_istore (pc := 3) C dX7_readLetters_3 (by rw [hn]; decide) rfl ?_
  exact J0 0 (zB.wk (a' := 0) (b' := 31) (zB.of (x := 0) 0 (by decide)) (by decide) (by decide)) 0 (zB.wk (a' := 0) (b' := 5) (zB.of (x := 0) 0 (by decide)) (by decide) (by decide)) f hI hF ct18_0_6 ct18_0_7 (by have qc0 : (0 : Int32).toInt = 0 := (by decide); omega) (by have qc0 : (0 : Int32).toInt = 0 := (by decide); omega) (by have qc0 : (0 : Int32).toInt = 0 := (by decide); omega)

set_option maxRecDepth 100000 in
set_option maxHeartbeats 4000000 in
theorem k_X7_readLetters_1 (d : Nat) (f : zM) (a2 : Int32) (b2 : zB a2 0 1) (hI : zInv f) : ZMs (d + 4) yX7_readLetters cX7_readLetters 8 (some .int) [zr 18 0, zr 44 2, zi a2] f (fun r g => (∃ v, r = some (zi v) ∧ zB v 0 7) ∧ zInv g ∧ zFr [(18, some 6), (18, some 7)] f g ∧ (∀ v : Int32, r = some (zi v) → ((g 18 0 7).toInt = -1 → (f 18 0 7).toInt = -1)) ∧ (∀ v : Int32, r = some (zi v) → (0 ≤ (f 18 0 7).toInt → (g 18 0 7).toInt = (f 18 0 7).toInt))) := by
  refine ZMs.intro (by decide +kernel) (Nat.le_of_ble_eq_true rfl) ?_
  intro X C hr hn hT
  have hF : zFr [(18, some 6), (18, some 7)] f f := zFr.rf _ _
  have ct18_0_6 : zB (f 18 0 6) 0 120 := hI 18 0 6
  have ct18_0_7 : zB (f 18 0 7) (-1) 120 := hI 18 0 7
  have J : ∀ t : Nat, (∀ a5_3 : Int32, zB a5_3 0 7 → ∀ a5_4 : Int32, zB a5_4 0 3 → ∀ g : zM, zInv g → zFr [(18, some 6), (18, some 7)] f g → zB (g 18 0 6) 0 120 → zB (g 18 0 7) (-1) 120 → (((g 18 0 7).toInt = -1 → (f 18 0 7).toInt = -1)) → ((0 ≤ (f 18 0 7).toInt → (g 18 0 7).toInt = (f 18 0 7).toInt)) → (4 + 7 * (3 - a5_4.toInt) : Int) < t → Z X 5 [some (zr 18 0), some (zr 44 2), some (zi a2), some (zi a5_3), some (zi a5_4), none, none, none] [] g) ∧ (∀ a37_3 : Int32, zB a37_3 0 7 → ∀ a37_4 : Int32, zB a37_4 0 2 → ∀ a37_5 : Int32, zB a37_5 (-1) 255 → ∀ a37_s0 : Int32, zB a37_s0 (-1) 2 → ∀ g : zM, zInv g → zFr [(18, some 6), (18, some 7)] f g → zB (g 18 0 6) 0 120 → zB (g 18 0 7) (-1) 120 → (((g 18 0 7).toInt = -1 → (f 18 0 7).toInt = -1)) → ((0 ≤ (f 18 0 7).toInt → (g 18 0 7).toInt = (f 18 0 7).toInt)) → ((0 ≤ a37_s0.toInt → 0 ≤ (g 18 0 6).toInt ∧ (g 18 0 6).toInt ≤ 119)) → (3 + 7 * (3 - a37_4.toInt) : Int) < t → Z X 37 [some (zr 18 0), some (zr 44 2), some (zi a2), some (zi a37_3), some (zi a37_4), some (zi a37_5), none, none] [zi a37_s0] g) ∧ (∀ a70_3 : Int32, zB a70_3 0 7 → ∀ a70_4 : Int32, zB a70_4 0 2 → ∀ a70_5 : Int32, zB a70_5 (-1) 255 → ∀ a70_6 : Int32, zB a70_6 0 2 → ∀ a70_7 : Int32, zB a70_7 0 4 → ∀ g : zM, zInv g → zFr [(18, some 6), (18, some 7)] f g → zB (g 18 0 6) 0 119 → zB (g 18 0 7) (-1) 120 → (((g 18 0 7).toInt = -1 → (f 18 0 7).toInt = -1)) → ((0 ≤ (f 18 0 7).toInt → (g 18 0 7).toInt = (f 18 0 7).toInt)) → (2 + 7 * (3 - a70_4.toInt) : Int) < t → Z X 70 [some (zr 18 0), some (zr 44 2), some (zi a2), some (zi a70_3), some (zi a70_4), some (zi a70_5), some (zi a70_6), some (zi a70_7)] [] g) ∧ (∀ a81_3 : Int32, zB a81_3 0 7 → ∀ a81_4 : Int32, zB a81_4 0 2 → ∀ a81_5 : Int32, zB a81_5 (-1) 255 → ∀ a81_6 : Int32, zB a81_6 0 2 → ∀ a81_7 : Int32, zB a81_7 0 4 → ∀ g : zM, zInv g → zFr [(18, some 6), (18, some 7)] f g → zB (g 18 0 6) 0 119 → zB (g 18 0 7) (-1) 120 → (((g 18 0 7).toInt = -1 → (f 18 0 7).toInt = -1)) → ((0 ≤ (f 18 0 7).toInt → (g 18 0 7).toInt = (f 18 0 7).toInt)) → (1 + 7 * (3 - a81_4.toInt) : Int) < t → Z X 81 [some (zr 18 0), some (zr 44 2), some (zi a2), some (zi a81_3), some (zi a81_4), some (zi a81_5), some (zi a81_6), some (zi a81_7)] [] g) ∧ (∀ a102_3 : Int32, zB a102_3 0 7 → ∀ a102_4 : Int32, zB a102_4 0 3 → ∀ g : zM, zInv g → zFr [(18, some 6), (18, some 7)] f g → zB (g 18 0 6) 0 120 → zB (g 18 0 7) (-1) 120 → (((g 18 0 7).toInt = -1 → (f 18 0 7).toInt = -1)) → ((0 ≤ (f 18 0 7).toInt → (g 18 0 7).toInt = (f 18 0 7).toInt)) → (0 : Int) < t → Z X 102 [some (zr 18 0), some (zr 44 2), some (zi a2), some (zi a102_3), some (zi a102_4), none, none, none] [] g) := by
    intro t
    induction t with
    | zero =>
      refine ⟨?_, ?_, ?_, ?_, ?_⟩ <;> (intros; exfalso; omega)
    | succ t ih =>
      obtain ⟨ih0, ih1, ih2, ih3, ih4⟩ := ih
      refine ⟨?_, ?_, ?_, ?_, ?_⟩
      · skip
        intro a5_3 b5_3 a5_4 b5_4 g5_ hI5_ hF5_ f5_18_0_6 f5_18_0_7 hR5_0 hR5_1 hM5_
        refine z_iload (pc := 5) C dX7_readLetters_5 rfl ?_
        refine z_aload_n (pc := 7) C dX7_readLetters_7 rfl ?_
        refine z_callT (pc := 8) C hT zk_X7_117 (t_J0_length_8abf5 _ _ 1 (by decide)) (by decide) rfl rfl rfl (Nat.le_of_ble_eq_true rfl) dX7_readLetters_8 (fun r8 g8 q8 => ?_)
        obtain ⟨rfl, hm8⟩ := q8
        obtain rfl := hm8.symm
        simp only [Option.toList, List.cons_append, List.nil_append]
        refine w_gb 3 3 (show (3 : Int) ≤ (nI (zLen.getD 1 0)).toInt ∧ (nI (zLen.getD 1 0)).toInt ≤ 3 from by decide) (fun v1 b1x => ?_)
        refine z_icmp_ge (pc := 11) 102 C dX7_readLetters_11 (by decide) (fun h11_1 => ?_) (fun h11_1 => ?_)
        · skip
          have b3x : zB a5_4 3 3 := by have q1 := b5_4; have q2 := b1x; simp only [z32lt, z32le, z32eq, Int32.reduceToInt, Int32.toInt_zero] at h11_1; constructor <;> omega
          exact ih4 a5_3 b5_3 a5_4 (zB.wk (a' := 0) (b' := 3) b3x (by decide) (by decide)) g5_ hI5_ hF5_ f5_18_0_6 f5_18_0_7 (by omega) (by omega) (by omega)
        · skip
          have b4x : zB a5_4 0 2 := by have q1 := b5_4; have q2 := b1x; simp only [z32lt, z32le, z32eq, Int32.reduceToInt, Int32.toInt_zero] at h11_1; constructor <;> omega
          refine z_aload_n (pc := 14) C dX7_readLetters_14 rfl ?_
          refine z_callV (pc := 15) C zk_X7_52 (w_X7_next _ _  hI5_) rfl rfl (by decide) rfl rfl (Nat.le_of_ble_eq_true rfl) dX7_readLetters_15 (fun r5 g5 q5 => ?_)
          obtain ⟨⟨v5, rfl, b5x⟩, hI5, hF5q, hp5_0, hp5_1, hp5_2, hp5_3⟩ := q5
          have hp5_0 := hp5_0 _ rfl
          have hp5_1 := hp5_1 _ rfl
          have hp5_2 := hp5_2 _ rfl
          have hp5_3 := hp5_3 _ rfl
          have hF5 := zFr.tr hF5_ hF5q (by decide)
          simp only [Option.toList, List.cons_append, List.nil_append]
          have cr5_18_0_6 : zB (g5 18 0 6) 0 120 := hI5 18 0 6
          have ek5_18_0_7 : (g5 18 0 7).toInt = (g5_ 18 0 7).toInt := by rw [hF5q 18 0 7 rfl]
          have c5_18_0_7x : zB (g5 18 0 7) (-1) 120 := by first | exact zB.eqv ek5_18_0_7 f5_18_0_7 | (have q9 := f5_18_0_7; constructor <;> omega)
          refine z_istore (pc := 18) C dX7_readLetters_18 (by rw [hn]; decide) rfl ?_
          refine z_iload (pc := 20) C dX7_readLetters_20 rfl ?_
          refine z_iconst (pc := 22) (v := -1) C dX7_readLetters_22 (by decide) ?_
          refine z_icmp_ne (pc := 23) 30 C dX7_readLetters_23 (by decide) (fun h23_5 => ?_) (fun h23_5 => ?_)
          · skip
            have b7x : zB v5 0 255 := by have q1 := b5x; have q2 := (zB.of (x := (-1)) (-1) (by decide)); simp only [z32lt, z32le, z32eq, Int32.reduceToInt, Int32.toInt_zero] at h23_5; constructor <;> omega
            have c8x : zB (g5 18 0 6) 0 119 := by first | assumption | (constructor <;> omega)
            refine z_aload_n (pc := 30) C dX7_readLetters_30 rfl ?_
            refine z_iload (pc := 31) C dX7_readLetters_31 rfl ?_
            refine z_i2c (pc := 33) C dX7_readLetters_33 ?_
            refine w_gb 0 255 (zi2c_b b7x (by decide) (by decide)) (fun v9 b9x => ?_)
            refine z_callT (pc := 34) C hT zk_X7_121 (t_J0_indexOf_0f7a4 _ _ 1 (by decide) v9) (by decide) rfl rfl rfl (Nat.le_of_ble_eq_true rfl) dX7_readLetters_34 (fun r34 g34 q34 => ?_)
            obtain ⟨⟨v10, rfl, b10y⟩, hm34⟩ := q34
            obtain rfl := hm34.symm
            simp only [Option.toList, List.cons_append, List.nil_append]
            have b10x : zB v10 (-1) 2 := b10y
            exact ih1 a5_3 b5_3 a5_4 b4x v5 (zB.wk (a' := (-1)) (b' := 255) b7x (by decide) (by decide)) v10 b10x g5 hI5 hF5 (zB.wk c8x (by decide) (by decide)) c5_18_0_7x (by omega) (by omega) (by omega) (by omega)
          · skip
            have b11x : zB v5 (-1) (-1) := by have q1 := b5x; have q2 := (zB.of (x := (-1)) (-1) (by decide)); simp only [z32lt, z32le, z32eq, Int32.reduceToInt, Int32.toInt_zero] at h23_5; constructor <;> omega
            refine z_iconst (pc := 26) (v := -1) C dX7_readLetters_26 (by decide) ?_
            refine z_goto (pc := 27) 37 C dX7_readLetters_27 (by decide) ?_
            exact ih1 a5_3 b5_3 a5_4 b4x v5 (zB.wk (a' := (-1)) (b' := 255) b11x (by decide) (by decide)) (-1) (zB.wk (a' := (-1)) (b' := 2) (zB.of (x := (-1)) (-1) (by decide)) (by decide) (by decide)) g5 hI5 hF5 cr5_18_0_6 c5_18_0_7x (by have qc0 : ((-1) : Int32).toInt = (-1) := (by decide); omega) (by have qc0 : ((-1) : Int32).toInt = (-1) := (by decide); omega) (by have qc0 : ((-1) : Int32).toInt = (-1) := (by decide); omega) (by have qc0 : ((-1) : Int32).toInt = (-1) := (by decide); omega)
      · skip
        intro a37_3 b37_3 a37_4 b37_4 a37_5 b37_5 a37_s0 b37_s0 g37_ hI37_ hF37_ f37_18_0_6 f37_18_0_7 hR37_0 hR37_1 hR37_2 hM37_
        refine z_istore (pc := 37) C dX7_readLetters_37 (by rw [hn]; decide) rfl ?_
        refine z_iload (pc := 39) C dX7_readLetters_39 rfl ?_
        refine z_if_ge (pc := 41) 47 C dX7_readLetters_41 (by decide) (fun h41_11 => ?_) (fun h41_11 => ?_)
        · skip
          have b13x : zB a37_s0 0 2 := by have q1 := b37_s0; have q2 := (zB.of (x := 0) 0 (by decide)); simp only [z32lt, z32le, z32eq, Int32.reduceToInt, Int32.toInt_zero] at h41_11; constructor <;> omega
          have c14x : zB (g37_ 18 0 6) 0 119 := by first | assumption | (constructor <;> omega)
          refine z_iconst (pc := 47) (v := 1) C dX7_readLetters_47 (by decide) ?_
          refine z_iload (pc := 48) C dX7_readLetters_48 rfl ?_
          refine z_ishl (pc := 50) C dX7_readLetters_50 ?_
          refine w_gb 0 4 (zshl_b b13x 2 (by decide) (by decide)) (fun v15 b15x => ?_)
          refine z_istore (pc := 51) C dX7_readLetters_51 (by rw [hn]; decide) rfl ?_
          refine z_iload_n (pc := 53) C dX7_readLetters_53 rfl ?_
          refine z_iload (pc := 54) C dX7_readLetters_54 rfl ?_
          refine z_iand (pc := 56) C dX7_readLetters_56 ?_
          refine w_gp (fun v => zB v 0 4 ∧ v.toInt ≤ v15.toInt) (zand_r b37_3 b15x (by decide)) (fun v16 e16 => ?_)
          have b16x := e16.1
          have r16 := e16.2
          refine z_if_ne (pc := 57) 70 C dX7_readLetters_57 (by decide) (fun h57_16 => ?_) (fun h57_16 => ?_)
          · skip
            have b18x : zB v16 1 4 := by have q1 := b16x; have q2 := (zB.of (x := 0) 0 (by decide)); simp only [z32lt, z32le, z32eq, Int32.reduceToInt, Int32.toInt_zero] at h57_16; constructor <;> omega
            exact ih2 a37_3 b37_3 a37_4 b37_4 a37_5 b37_5 a37_s0 b13x v15 b15x g37_ hI37_ hF37_ c14x f37_18_0_7 (by omega) (by omega) (by omega)
          · skip
            have b19x : zB v16 0 0 := by have q1 := b16x; have q2 := (zB.of (x := 0) 0 (by decide)); simp only [z32lt, z32le, z32eq, Int32.reduceToInt, Int32.toInt_zero] at h57_16; constructor <;> omega
            refine z_iload_n (pc := 60) C dX7_readLetters_60 rfl ?_
            refine z_if_eq (pc := 61) 81 C dX7_readLetters_61 (by decide) (fun h61_19 => ?_) (fun h61_19 => ?_)
            · skip
              have b21x : zB a2 0 0 := by have q1 := b2; have q2 := (zB.of (x := 0) 0 (by decide)); simp only [z32lt, z32le, z32eq, Int32.reduceToInt, Int32.toInt_zero] at h61_19; constructor <;> omega
              exact ih3 a37_3 b37_3 a37_4 b37_4 a37_5 b37_5 a37_s0 b13x v15 b15x g37_ hI37_ hF37_ c14x f37_18_0_7 (by omega) (by omega) (by omega)
            · skip
              have b22x : zB a2 1 1 := by have q1 := b2; have q2 := (zB.of (x := 0) 0 (by decide)); simp only [z32lt, z32le, z32eq, Int32.reduceToInt, Int32.toInt_zero] at h61_19; constructor <;> omega
              refine z_iload (pc := 64) C dX7_readLetters_64 rfl ?_
              refine z_iload_n (pc := 66) C dX7_readLetters_66 rfl ?_
              refine z_icmp_ge (pc := 67) 81 C dX7_readLetters_67 (by decide) (fun h67_22 => ?_) (fun h67_22 => ?_)
              · skip
                have b24x : zB a37_3 0 4 := by have q1 := b15x; have q2 := b37_3; simp only [z32lt, z32le, z32eq, Int32.reduceToInt, Int32.toInt_zero] at h67_22; constructor <;> omega
                exact ih3 a37_3 (zB.wk (a' := 0) (b' := 7) b24x (by decide) (by decide)) a37_4 b37_4 a37_5 b37_5 a37_s0 b13x v15 b15x g37_ hI37_ hF37_ c14x f37_18_0_7 (by omega) (by omega) (by omega)
              · skip
                have b25x : zB a37_3 1 7 := by have q1 := b15x; have q2 := b37_3; simp only [z32lt, z32le, z32eq, Int32.reduceToInt, Int32.toInt_zero] at h67_22; constructor <;> omega
                exact ih2 a37_3 (zB.wk (a' := 0) (b' := 7) b25x (by decide) (by decide)) a37_4 b37_4 a37_5 b37_5 a37_s0 b13x v15 b15x g37_ hI37_ hF37_ c14x f37_18_0_7 (by omega) (by omega) (by omega)
        · skip
          have b26x : zB a37_s0 (-1) (-1) := by have q1 := b37_s0; have q2 := (zB.of (x := 0) 0 (by decide)); simp only [z32lt, z32le, z32eq, Int32.reduceToInt, Int32.toInt_zero] at h41_11; constructor <;> omega
          refine z_goto (pc := 44) 102 C dX7_readLetters_44 (by decide) ?_
          refine w_mask [5, 6] ?_
          exact ih4 a37_3 b37_3 a37_4 (zB.wk (a' := 0) (b' := 3) b37_4 (by decide) (by decide)) g37_ hI37_ hF37_ f37_18_0_6 f37_18_0_7 (by omega) (by omega) (by omega)
      · skip
        intro a70_3 b70_3 a70_4 b70_4 a70_5 b70_5 a70_6 b70_6 a70_7 b70_7 g70_ hI70_ hF70_ f70_18_0_6 f70_18_0_7 hR70_0 hR70_1 hM70_
        refine z_aload_n (pc := 70) C dX7_readLetters_70 rfl ?_
        refine z_aload_n (pc := 71) C dX7_readLetters_71 rfl ?_
        refine z_getI (pc := 72) C zf_X7_33 rfl rfl (by decide) dX7_readLetters_72 ?_
        refine w_gp (fun v => v.toInt = (g70_ 18 0 6).toInt) rfl (fun v27 e27 => ?_)
        have b27x : zB v27 0 119 := by have q9 : zB (g70_ 18 0 6) 0 119 := f70_18_0_6; constructor <;> omega
        refine z_callV (pc := 75) C zk_X7_56 (k_X7_fail _ _ v27 (zB.wk (a' := 0) (b' := 120) b27x (by decide) (by decide)) hI70_) rfl rfl (by decide) rfl rfl (Nat.le_of_ble_eq_true rfl) dX7_readLetters_75 (fun r28 g28 q28 => ?_)
        obtain ⟨rfl, hI28, hF28q, hp28_0, hp28_1⟩ := q28
        have hF28 := zFr.tr hF70_ hF28q (by decide)
        simp only [Option.toList, List.cons_append, List.nil_append]
        have ek28_18_0_6 : (g28 18 0 6).toInt = (g70_ 18 0 6).toInt := by rw [hF28q 18 0 6 rfl]
        have c28_18_0_6x : zB (g28 18 0 6) 0 119 := by first | exact zB.eqv ek28_18_0_6 f70_18_0_6 | (have q9 := f70_18_0_6; constructor <;> omega)
        have cr28_18_0_7 : zB (g28 18 0 7) (-1) 120 := hI28 18 0 7
        refine z_goto (pc := 78) 102 C dX7_readLetters_78 (by decide) ?_
        refine w_mask [5, 6, 7] ?_
        exact ih4 a70_3 b70_3 a70_4 (zB.wk (a' := 0) (b' := 3) b70_4 (by decide) (by decide)) g28 hI28 hF28 (zB.wk c28_18_0_6x (by decide) (by decide)) cr28_18_0_7 (by omega) (by omega) (by omega)
      · skip
        intro a81_3 b81_3 a81_4 b81_4 a81_5 b81_5 a81_6 b81_6 a81_7 b81_7 g81_ hI81_ hF81_ f81_18_0_6 f81_18_0_7 hR81_0 hR81_1 hM81_
        refine z_iload_n (pc := 81) C dX7_readLetters_81 rfl ?_
        refine z_iload (pc := 82) C dX7_readLetters_82 rfl ?_
        refine z_ior (pc := 84) C dX7_readLetters_84 ?_
        refine w_gb 0 7 (zor_b 3 b81_3 b81_7 (by decide) (by decide) (by decide) (by decide) (by decide)) (fun v29 b29x => ?_)
        refine z_istore_n (pc := 85) C dX7_readLetters_85 (by rw [hn]; decide) rfl ?_
        refine z_aload_n (pc := 86) C dX7_readLetters_86 rfl ?_
        refine z_dupr (pc := 87) C dX7_readLetters_87 ?_
        refine z_getI (pc := 88) C zf_X7_33 rfl rfl (by decide) dX7_readLetters_88 ?_
        refine w_gp (fun v => v.toInt = (g81_ 18 0 6).toInt) rfl (fun v30 e30 => ?_)
        have b30x : zB v30 0 119 := by have q9 : zB (g81_ 18 0 6) 0 119 := f81_18_0_6; constructor <;> omega
        refine z_iconst (pc := 91) (v := 1) C dX7_readLetters_91 (by decide) ?_
        refine z_iadd (pc := 92) C dX7_readLetters_92 ?_
        refine w_gp (fun v => v.toInt = v30.toInt + 1) (zadd_eb b30x (zB.of (x := 1) 1 (by decide)) (by decide) (by decide)) (fun v31 e31 => ?_)
        have b31x : zB v31 1 120 := by have q1 := b30x; have q2 := (zB.of (x := 1) 1 (by decide)); constructor <;> omega
        refine z_putI (pc := 93) C zf_X7_33 zp_7_6 rfl rfl (by decide) dX7_readLetters_93 ?_
        refine w_mem2 hI81_ hF81_ (zB.wk (a' := 0) (b' := 120) b31x (by decide) (by decide)) rfl (fun g32 hI32 hF32 hq32 hx32 => ?_)
        have ec32 : (g32 18 0 6).toInt = v31.toInt := by rw [hx32]
        have c32x : zB (g32 18 0 6) 1 120 := by first | exact zB.eqv ec32 b31x | (have q9 := b31x; constructor <;> omega)
        have ek32_18_0_7 : (g32 18 0 7).toInt = (g81_ 18 0 7).toInt := by rw [hq32 18 0 7 (by omega)]
        have c32_18_0_7x : zB (g32 18 0 7) (-1) 120 := by first | exact zB.eqv ek32_18_0_7 f81_18_0_7 | (have q9 := f81_18_0_7; constructor <;> omega)
        refine z_iinc (pc := 96) (v := 1) C dX7_readLetters_96 rfl (by decide) (by rw [hn]; decide) rfl ?_
        obtain ⟨v33, hv33, e33⟩ : ∃ v : Int32, v = a81_4 + 1 ∧ v.toInt = a81_4.toInt + 1 := ⟨_, rfl, zadd_eb b81_4 (zB.of (x := 1) 1 (by decide)) (by decide) (by decide)⟩
        rw [← hv33]
        have b33x : zB v33 1 3 := by have q9 := b81_4; constructor <;> omega
        refine z_goto (pc := 99) 5 C dX7_readLetters_99 (by decide) ?_
        refine w_mask [5, 6, 7] ?_
        exact ih0 v29 b29x v33 (zB.wk (a' := 0) (b' := 3) b33x (by decide) (by decide)) g32 hI32 hF32 (zB.wk c32x (by decide) (by decide)) c32_18_0_7x (by omega) (by omega) (by omega)
      · skip
        intro a102_3 b102_3 a102_4 b102_4 g102_ hI102_ hF102_ f102_18_0_6 f102_18_0_7 hR102_0 hR102_1 hM102_
        refine z_iload_n (pc := 102) C dX7_readLetters_102 rfl ?_
        exact z_iret (pc := 103) C hr dX7_readLetters_103 ⟨⟨_, rfl, b102_3⟩, hI102_, hF102_, (by intro v hv; cases hv; omega), (by intro v hv; cases hv; omega)⟩
  obtain ⟨J0, J1, J2, J3, J4⟩ := J 44
  show Z X 0 [some (zr 18 0), some (zr 44 2), some (zi a2), none, none, none, none, none] [] f
  refine z_iconst (pc := 0) (v := 0) C dX7_readLetters_0 (by decide) ?_
  refine z_istore_n (pc := 1) C dX7_readLetters_1 (by rw [hn]; decide) rfl ?_
  refine z_iconst (pc := 2) (v := 0) C dX7_readLetters_2 (by decide) ?_
  refine z_istore (pc := 3) C dX7_readLetters_3 (by rw [hn]; decide) rfl ?_
  exact J0 0 (zB.wk (a' := 0) (b' := 7) (zB.of (x := 0) 0 (by decide)) (by decide) (by decide)) 0 (zB.wk (a' := 0) (b' := 3) (zB.of (x := 0) 0 (by decide)) (by decide) (by decide)) f hI hF ct18_0_6 ct18_0_7 (by have qc0 : (0 : Int32).toInt = 0 := (by decide); omega) (by have qc0 : (0 : Int32).toInt = 0 := (by decide); omega) (by have qc0 : (0 : Int32).toInt = 0 := (by decide); omega)

set_option maxRecDepth 100000 in
set_option maxHeartbeats 4000000 in
theorem k_X7_readPromises (d : Nat) (f : zM)  (hI : zInv f) : ZMs (d + 5) yX7_readPromises cX7_readPromises 2 (some .int) [zr 18 0] f (fun r g => (∃ v, r = some (zi v) ∧ zB v 0 7) ∧ zInv g ∧ zFr [(18, some 6), (18, some 7)] f g ∧ (∀ v : Int32, r = some (zi v) → ((g 18 0 7).toInt = -1 → (f 18 0 7).toInt = -1)) ∧ (∀ v : Int32, r = some (zi v) → (0 ≤ (f 18 0 7).toInt → (g 18 0 7).toInt = (f 18 0 7).toInt))) := by
  refine ZMs.intro (by decide +kernel) (Nat.le_of_ble_eq_true rfl) ?_
  intro X C hr hn hT
  have hF : zFr [(18, some 6), (18, some 7)] f f := zFr.rf _ _
  have ct18_0_7 : zB (f 18 0 7) (-1) 120 := hI 18 0 7
  have J : ∀ t : Nat, (∀ a20_1 : Int32, zB a20_1 0 7 → ∀ g : zM, zInv g → zFr [(18, some 6), (18, some 7)] f g → zB (g 18 0 7) (-1) 120 → (((g 18 0 7).toInt = -1 → (f 18 0 7).toInt = -1)) → ((0 ≤ (f 18 0 7).toInt → (g 18 0 7).toInt = (f 18 0 7).toInt)) → (0 : Int) < t → Z X 20 [some (zr 18 0), some (zi a20_1)] [] g) := by
    intro t
    induction t with
    | zero =>
      intros; exfalso; omega
    | succ t ih =>
      have ih0 := ih
      intro a20_1 b20_1 g20_ hI20_ hF20_ f20_18_0_7 hR20_0 hR20_1 hM20_
      refine z_iload_n (pc := 20) C dX7_readPromises_20 rfl ?_
      exact z_iret (pc := 21) C hr dX7_readPromises_21 ⟨⟨_, rfl, b20_1⟩, hI20_, hF20_, (by intro v hv; cases hv; omega), (by intro v hv; cases hv; omega)⟩
  have J0 := J 12
  show Z X 0 [some (zr 18 0), none] [] f
  refine z_aload_n (pc := 0) C dX7_readPromises_0 rfl ?_
  refine z_ldcT (pc := 1) (i := 1) (tx := "") C hT (Or.inr ⟨rfl, rfl⟩) dX7_readPromises_1 ?_
  refine z_iconst (pc := 3) (v := 1) C dX7_readPromises_3 (by decide) ?_
  refine z_callVS (pc := 4) C hT zk_X7_91 (k_X7_readLetters_1 _ _ 1 (zB.wk (a' := 0) (b' := 1) (zB.of (x := 1) 1 (by decide)) (by decide) (by decide)) hI) rfl rfl (by decide) rfl rfl (Nat.le_of_ble_eq_true rfl) dX7_readPromises_4 (fun r1 g1 q1 => ?_)
  have qa1_1 : (1 : Int32).toInt = 1 := by decide
  obtain ⟨⟨v1, rfl, b1x⟩, hI1, hF1q, hp1_0, hp1_1⟩ := q1
  have hp1_0 := hp1_0 _ rfl
  have hp1_1 := hp1_1 _ rfl
  have hF1 := zFr.tr hF hF1q (by decide)
  simp only [Option.toList, List.cons_append, List.nil_append]
  have cr1_18_0_7 : zB (g1 18 0 7) (-1) 120 := hI1 18 0 7
  refine z_istore_n (pc := 7) C dX7_readPromises_7 (by rw [hn]; decide) rfl ?_
  refine z_iload_n (pc := 8) C dX7_readPromises_8 rfl ?_
  refine z_if_ne (pc := 9) 20 C dX7_readPromises_9 (by decide) (fun h9_1 => ?_) (fun h9_1 => ?_)
  · skip
    have b3x : zB v1 1 7 := by have q1 := b1x; have q2 := (zB.of (x := 0) 0 (by decide)); simp only [z32lt, z32le, z32eq, Int32.reduceToInt, Int32.toInt_zero] at h9_1; constructor <;> omega
    exact J0 v1 (zB.wk (a' := 0) (b' := 7) b3x (by decide) (by decide)) g1 hI1 hF1 cr1_18_0_7 (by omega) (by omega) (by omega)
  · skip
    have b4x : zB v1 0 0 := by have q1 := b1x; have q2 := (zB.of (x := 0) 0 (by decide)); simp only [z32lt, z32le, z32eq, Int32.reduceToInt, Int32.toInt_zero] at h9_1; constructor <;> omega
    refine z_aload_n (pc := 12) C dX7_readPromises_12 rfl ?_
    refine z_aload_n (pc := 13) C dX7_readPromises_13 rfl ?_
    refine z_getI (pc := 14) C zf_X7_33 rfl rfl (by decide) dX7_readPromises_14 ?_
    refine w_gb 0 120 (hI1 18 _ 6) (fun v5 b5x => ?_)
    refine z_callV (pc := 17) C zk_X7_56 (k_X7_fail _ _ v5 b5x hI1) rfl rfl (by decide) rfl rfl (Nat.le_of_ble_eq_true rfl) dX7_readPromises_17 (fun r6 g6 q6 => ?_)
    obtain ⟨rfl, hI6, hF6q, hp6_0, hp6_1⟩ := q6
    have hF6 := zFr.tr hF1 hF6q (by decide)
    simp only [Option.toList, List.cons_append, List.nil_append]
    have cr6_18_0_7 : zB (g6 18 0 7) (-1) 120 := hI6 18 0 7
    exact J0 v1 (zB.wk (a' := 0) (b' := 7) b4x (by decide) (by decide)) g6 hI6 hF6 cr6_18_0_7 (by omega) (by omega) (by omega)
