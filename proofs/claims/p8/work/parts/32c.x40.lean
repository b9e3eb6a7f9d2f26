/-! ===== exact rows: values and memories with their equations ===== -/
section WX
variable {X : zX} {pc : Nat} {L : List (Option zV)} {st : List zV} {f : zM}
theorem w_grx {k n : Nat} (h : n < zcnt k) (kk : ∀ m : Nat, m = n → m < zcnt k → Z X pc L (zr k m :: st) f) : Z X pc L (zr k n :: st) f := kk n rfl h
theorem w_memx {S : List (Nat × Option Nat)} {f0 : zM} {k n j : Nat} {x : Int32} (hI : zInv f) (hF : zFr S f0 f) (hx : (zrg k j).1 ≤ x.toInt ∧ x.toInt ≤ (zrg k j).2) (hs : zS S k j = true) (kk : ∀ g, g = zup f k n j x → zInv g → zFr S f0 g → (∀ a b c, ¬ (a = k ∧ c = j) → g a b c = f a b c) → g k n j = x → Z X pc L st g) : Z X pc L st (zup f k n j x) := kk _ rfl (hI.up hx) (hF.up hs) (fun a b c h => zup_ne f x (fun q => h ⟨q.1, q.2.2⟩)) (zup_same f k n j x)
theorem w_memy {S : List (Nat × Option Nat)} {f0 : zM} {k n j : Nat} {x : Int32} (hI : zInv f) (hF : zFr S f0 f) (hx : (zrg k j).1 ≤ x.toInt ∧ x.toInt ≤ (zrg k j).2) (hs : zS S k j = true) (kk : ∀ g, g = zup f k n j x → zInv g → zFr S f0 g → Z X pc L st g) : Z X pc L st (zup f k n j x) := kk _ rfl (hI.up hx) (hF.up hs)
end WX
theorem zfill_ne {f : zM} {k n len a b c : Nat} {v : Int32} (h : ¬ (a = k ∧ b = n ∧ c < len)) : zfill f k n len v a b c = f a b c := by
  unfold zfill; rw [if_neg h]
/-- rows of a kind copied from one world to the other, c of n so far, w items each -/
def zcpd (f g : zM) (k b b' c w n : Nat) : Prop := (∀ i j, i < c → j < w → g k (b + i) j = f k (b' + i) j) ∧ (∀ i j, i < n → j < w → g k (b' + i) j = f k (b' + i) j)
theorem zcpd_0 {f g : zM} {k b b' w n : Nat} (h : ∀ x j, j < w → g k x j = f k x j) : zcpd f g k b b' 0 w n := ⟨fun i j hi => absurd hi (Nat.not_lt_zero i), fun i j _ hj => h _ j hj⟩
theorem zcpd_keep {f g g2 : zM} {k b b' c w n : Nat} (h : zcpd f g k b b' c w n) (e : ∀ x j, j < w → g2 k x j = g k x j) : zcpd f g2 k b b' c w n := ⟨fun i j hi hj => (e _ j hj).trans (h.1 i j hi hj), fun i j hi hj => (e _ j hj).trans (h.2 i j hi hj)⟩
theorem zcpd_s {f g g2 : zM} {k b b' c w n : Nat} (h : zcpd f g k b b' c w n) (hc : c < n) (hd : b + n ≤ b' ∨ b' + n ≤ b) (e1 : ∀ j, j < w → g2 k (b + c) j = g k (b' + c) j) (e2 : ∀ x j, x ≠ b + c → j < w → g2 k x j = g k x j) : zcpd f g2 k b b' (c + 1) w n := by
  refine ⟨fun i j hi hj => ?_, fun i j hi hj => ?_⟩
  · by_cases q : i = c
    · subst q; rw [e1 j hj]; exact h.2 i j hc hj
    · rw [e2 _ j (by omega) hj]; exact h.1 i j (by omega) hj
  · rw [e2 _ j (by omega) hj]; exact h.2 i j hi hj

set_option maxRecDepth 100000 in
set_option maxHeartbeats 4000000 in
theorem x_X0_tell (d : Nat) (f : zM) (m0 : Nat) (h0 : m0 < zcnt 7) (a1 : Int32) (b1 : zB a1 0 5) (a2 : Int32) (b2 : zB a2 0 63) (a3 : Int32) (b3 : zB a3 0 63) (a4 : Int32) (b4 : zB a4 0 40) (a5 : Int32) (b5 : zB a5 0 40) (a6 : Int32) (b6 : zB a6 0 1) (hI : zInv f) : ZM d yX0_tell cX0_tell 7 none [zr 7 m0, zi a1, zi a2, zi a3, zi a4, zi a5, zi a6] f (fun r g => r = none ∧ zInv g ∧ zFr [(7, some 0), (7, some 1), (7, some 2), (7, some 3), (7, some 4), (7, some 5)] f g ∧ (g = zup (zup (zup (zup (zup (zup f 7 m0 0 a1) 7 m0 1 a2) 7 m0 2 a3) 7 m0 3 a4) 7 m0 4 a5) 7 m0 5 a6)) := by
  refine ZM.intro (by decide +kernel) (Nat.le_of_ble_eq_true rfl) ?_
  intro X C hr hn
  have hF : zFr [(7, some 0), (7, some 1), (7, some 2), (7, some 3), (7, some 4), (7, some 5)] f f := zFr.rf _ _
  show Z X 0 [some (zr 7 m0), some (zi a1), some (zi a2), some (zi a3), some (zi a4), some (zi a5), some (zi a6)] [] f
  refine z_aload_n (pc := 0) C dX0_tell_0 rfl ?_
  refine z_iload_n (pc := 1) C dX0_tell_1 rfl ?_
  refine z_putI (pc := 2) C zf_X0_7 zp_0_0 rfl rfl h0 dX0_tell_2 ?_
  refine w_memy hI hF b1 rfl (fun g1 qm1 hI1 hF1 => ?_)
  refine z_aload_n (pc := 5) C dX0_tell_5 rfl ?_
  refine z_iload_n (pc := 6) C dX0_tell_6 rfl ?_
  refine z_putI (pc := 7) C zf_X0_13 zp_0_1 rfl rfl h0 dX0_tell_7 ?_
  refine w_memy hI1 hF1 b2 rfl (fun g2 qm2 hI2 hF2 => ?_)
  refine z_aload_n (pc := 10) C dX0_tell_10 rfl ?_
  refine z_iload_n (pc := 11) C dX0_tell_11 rfl ?_
  refine z_putI (pc := 12) C zf_X0_16 zp_0_2 rfl rfl h0 dX0_tell_12 ?_
  refine w_memy hI2 hF2 b3 rfl (fun g3 qm3 hI3 hF3 => ?_)
  refine z_aload_n (pc := 15) C dX0_tell_15 rfl ?_
  refine z_iload (pc := 16) C dX0_tell_16 rfl ?_
  refine z_putI (pc := 18) C zf_X0_19 zp_0_3 rfl rfl h0 dX0_tell_18 ?_
  refine w_memy hI3 hF3 b4 rfl (fun g4 qm4 hI4 hF4 => ?_)
  refine z_aload_n (pc := 21) C dX0_tell_21 rfl ?_
  refine z_iload (pc := 22) C dX0_tell_22 rfl ?_
  refine z_putI (pc := 24) C zf_X0_22 zp_0_4 rfl rfl h0 dX0_tell_24 ?_
  refine w_memy hI4 hF4 b5 rfl (fun g5 qm5 hI5 hF5 => ?_)
  refine z_aload_n (pc := 27) C dX0_tell_27 rfl ?_
  refine z_iload (pc := 28) C dX0_tell_28 rfl ?_
  refine z_putZ (pc := 30) C zf_X0_25 zp_0_5 (z01 b6) rfl rfl h0 dX0_tell_30 ?_
  refine w_memy hI5 hF5 b6 rfl (fun g6 qm6 hI6 hF6 => ?_)
  exact z_vret (pc := 33) C hr dX0_tell_33 ⟨rfl, hI6, hF6, (by subst qm6 qm5 qm4 qm3 qm2 qm1; rfl)⟩

set_option maxRecDepth 100000 in
set_option maxHeartbeats 4000000 in
theorem x_X0_copy (d : Nat) (f : zM) (m0 : Nat) (h0 : m0 < zcnt 7) (m1 : Nat) (h1 : m1 < zcnt 7) (hI : zInv f) : ZM (d + 1) yX0_copy cX0_copy 2 none [zr 7 m0, zr 7 m1] f (fun r g => r = none ∧ zInv g ∧ zFr [(7, some 0), (7, some 1), (7, some 2), (7, some 3), (7, some 4), (7, some 5)] f g ∧ (∀ j, j < 6 → g 7 m0 j = f 7 m1 j) ∧ (∀ n j, n ≠ m0 → g 7 n j = f 7 n j)) := by
  refine ZM.intro (by decide +kernel) (Nat.le_of_ble_eq_true rfl) ?_
  intro X C hr hn
  have hF : zFr [(7, some 0), (7, some 1), (7, some 2), (7, some 3), (7, some 4), (7, some 5)] f f := zFr.rf _ _
  show Z X 0 [some (zr 7 m0), some (zr 7 m1)] [] f
  refine z_aload_n (pc := 0) C dX0_copy_0 rfl ?_
  refine z_aload_n (pc := 1) C dX0_copy_1 rfl ?_
  refine z_getI (pc := 2) C zf_X0_7 rfl rfl h1 dX0_copy_2 ?_
  refine w_gp (fun v => v = f 7 m1 0) rfl (fun v2 q2 => ?_)
  have b2x : zB v2 0 5 := by rw [q2]; exact (hI 7 m1 0)
  refine z_aload_n (pc := 5) C dX0_copy_5 rfl ?_
  refine z_getI (pc := 6) C zf_X0_13 rfl rfl h1 dX0_copy_6 ?_
  refine w_gp (fun v => v = f 7 m1 1) rfl (fun v4 q4 => ?_)
  have b4x : zB v4 0 63 := by rw [q4]; exact (hI 7 m1 1)
  refine z_aload_n (pc := 9) C dX0_copy_9 rfl ?_
  refine z_getI (pc := 10) C zf_X0_16 rfl rfl h1 dX0_copy_10 ?_
  refine w_gp (fun v => v = f 7 m1 2) rfl (fun v6 q6 => ?_)
  have b6x : zB v6 0 63 := by rw [q6]; exact (hI 7 m1 2)
  refine z_aload_n (pc := 13) C dX0_copy_13 rfl ?_
  refine z_getI (pc := 14) C zf_X0_19 rfl rfl h1 dX0_copy_14 ?_
  refine w_gp (fun v => v = f 7 m1 3) rfl (fun v8 q8 => ?_)
  have b8x : zB v8 0 40 := by rw [q8]; exact (hI 7 m1 3)
  refine z_aload_n (pc := 17) C dX0_copy_17 rfl ?_
  refine z_getI (pc := 18) C zf_X0_22 rfl rfl h1 dX0_copy_18 ?_
  refine w_gp (fun v => v = f 7 m1 4) rfl (fun v10 q10 => ?_)
  have b10x : zB v10 0 40 := by rw [q10]; exact (hI 7 m1 4)
  refine z_aload_n (pc := 21) C dX0_copy_21 rfl ?_
  refine z_getI (pc := 22) C zf_X0_25 rfl rfl h1 dX0_copy_22 ?_
  refine w_gp (fun v => v = f 7 m1 5) rfl (fun v12 q12 => ?_)
  have b12x : zB v12 0 1 := by rw [q12]; exact (hI 7 m1 5)
  refine z_callV (pc := 25) C zk_X0_29 (x_X0_tell _ _ m0 h0 v2 b2x v4 b4x v6 b6x v8 b8x v10 b10x v12 b12x hI) rfl rfl h0 rfl rfl (Nat.le_of_ble_eq_true rfl) dX0_copy_25 (fun r13 g13 q13 => ?_)
  obtain ⟨rfl, hI13, hF13q, hp13_0⟩ := q13
  have hF13 := zFr.tr hF hF13q (by decide)
  simp only [Option.toList, List.cons_append, List.nil_append]
  exact z_vret (pc := 28) C hr dX0_copy_28 ⟨rfl, hI13, hF13, (by intro j hj; subst_vars; rcases (show j = 0 ∨ j = 1 ∨ j = 2 ∨ j = 3 ∨ j = 4 ∨ j = 5 by omega) with rfl | rfl | rfl | rfl | rfl | rfl <;> simp [zup]), (by intro n j hn; subst_vars; simp [zup, hn])⟩

set_option maxRecDepth 100000 in
set_option maxHeartbeats 4000000 in
theorem x_X1_tell (d : Nat) (f : zM) (m0 : Nat) (h0 : m0 < zcnt 8) (a1 : Int32) (b1 : zB a1 0 63) (a2 : Int32) (b2 : zB a2 0 63) (a3 : Int32) (b3 : zB a3 0 5) (a4 : Int32) (b4 : zB a4 0 99) (hI : zInv f) : ZM d yX1_tell cX1_tell 5 none [zr 8 m0, zi a1, zi a2, zi a3, zi a4] f (fun r g => r = none ∧ zInv g ∧ zFr [(8, some 0), (8, some 1), (8, some 2), (8, some 3), (8, some 4)] f g ∧ (g = zup (zup (zup (zup (zup f 8 m0 0 a1) 8 m0 1 a2) 8 m0 2 a3) 8 m0 3 a4) 8 m0 4 0)) := by
  refine ZM.intro (by decide +kernel) (Nat.le_of_ble_eq_true rfl) ?_
  intro X C hr hn
  have hF : zFr [(8, some 0), (8, some 1), (8, some 2), (8, some 3), (8, some 4)] f f := zFr.rf _ _
  show Z X 0 [some (zr 8 m0), some (zi a1), some (zi a2), some (zi a3), some (zi a4)] [] f
  refine z_aload_n (pc := 0) C dX1_tell_0 rfl ?_
  refine z_iload_n (pc := 1) C dX1_tell_1 rfl ?_
  refine z_putI (pc := 2) C zf_X1_18 zp_1_0 rfl rfl h0 dX1_tell_2 ?_
  refine w_memy hI hF b1 rfl (fun g1 qm1 hI1 hF1 => ?_)
  refine z_aload_n (pc := 5) C dX1_tell_5 rfl ?_
  refine z_iload_n (pc := 6) C dX1_tell_6 rfl ?_
  refine z_putI (pc := 7) C zf_X1_22 zp_1_1 rfl rfl h0 dX1_tell_7 ?_
  refine w_memy hI1 hF1 b2 rfl (fun g2 qm2 hI2 hF2 => ?_)
  refine z_aload_n (pc := 10) C dX1_tell_10 rfl ?_
  refine z_iload_n (pc := 11) C dX1_tell_11 rfl ?_
  refine z_putI (pc := 12) C zf_X1_25 zp_1_2 rfl rfl h0 dX1_tell_12 ?_
  refine w_memy hI2 hF2 b3 rfl (fun g3 qm3 hI3 hF3 => ?_)
  refine z_aload_n (pc := 15) C dX1_tell_15 rfl ?_
  refine z_iload (pc := 16) C dX1_tell_16 rfl ?_
  refine z_putI (pc := 18) C zf_X1_28 zp_1_3 rfl rfl h0 dX1_tell_18 ?_
  refine w_memy hI3 hF3 b4 rfl (fun g4 qm4 hI4 hF4 => ?_)
  refine z_aload_n (pc := 21) C dX1_tell_21 rfl ?_
  refine z_iconst (pc := 22) (v := 0) C dX1_tell_22 (by decide) ?_
  refine z_putZ (pc := 23) C zf_X1_31 zp_1_4 (z01 (zB.wk (a' := 0) (b' := 1) (zB.of (x := 0) 0 (by decide)) (by decide) (by decide))) rfl rfl h0 dX1_tell_23 ?_
  refine w_memy hI4 hF4 (zB.wk (a' := 0) (b' := 1) (zB.of (x := 0) 0 (by decide)) (by decide) (by decide)) rfl (fun g5 qm5 hI5 hF5 => ?_)
  exact z_vret (pc := 26) C hr dX1_tell_26 ⟨rfl, hI5, hF5, (by subst qm5 qm4 qm3 qm2 qm1; rfl)⟩

set_option maxRecDepth 100000 in
set_option maxHeartbeats 4000000 in
theorem x_X1_copy (d : Nat) (f : zM) (m0 : Nat) (h0 : m0 < zcnt 8) (m1 : Nat) (h1 : m1 < zcnt 8) (hp0 : m0 ≠ m1) (hI : zInv f) : ZM (d + 1) yX1_copy cX1_copy 2 none [zr 8 m0, zr 8 m1] f (fun r g => r = none ∧ zInv g ∧ zFr [(8, some 0), (8, some 1), (8, some 2), (8, some 3), (8, some 4)] f g ∧ (∀ j, j < 5 → g 8 m0 j = f 8 m1 j) ∧ (∀ n j, n ≠ m0 → g 8 n j = f 8 n j)) := by
  refine ZM.intro (by decide +kernel) (Nat.le_of_ble_eq_true rfl) ?_
  intro X C hr hn
  have hF : zFr [(8, some 0), (8, some 1), (8, some 2), (8, some 3), (8, some 4)] f f := zFr.rf _ _
  show Z X 0 [some (zr 8 m0), some (zr 8 m1)] [] f
  refine z_aload_n (pc := 0) C dX1_copy_0 rfl ?_
  refine z_aload_n (pc := 1) C dX1_copy_1 rfl ?_
  refine z_getI (pc := 2) C zf_X1_18 rfl rfl h1 dX1_copy_2 ?_
  refine w_gp (fun v => v = f 8 m1 0) rfl (fun v2 q2 => ?_)
  have b2x : zB v2 0 63 := by rw [q2]; exact (hI 8 m1 0)
  refine z_aload_n (pc := 5) C dX1_copy_5 rfl ?_
  refine z_getI (pc := 6) C zf_X1_22 rfl rfl h1 dX1_copy_6 ?_
  refine w_gp (fun v => v = f 8 m1 1) rfl (fun v4 q4 => ?_)
  have b4x : zB v4 0 63 := by rw [q4]; exact (hI 8 m1 1)
  refine z_aload_n (pc := 9) C dX1_copy_9 rfl ?_
  refine z_getI (pc := 10) C zf_X1_25 rfl rfl h1 dX1_copy_10 ?_
  refine w_gp (fun v => v = f 8 m1 2) rfl (fun v6 q6 => ?_)
  have b6x : zB v6 0 5 := by rw [q6]; exact (hI 8 m1 2)
  refine z_aload_n (pc := 13) C dX1_copy_13 rfl ?_
  refine z_getI (pc := 14) C zf_X1_28 rfl rfl h1 dX1_copy_14 ?_
  refine w_gp (fun v => v = f 8 m1 3) rfl (fun v8 q8 => ?_)
  have b8x : zB v8 0 99 := by rw [q8]; exact (hI 8 m1 3)
  refine z_callV (pc := 17) C zk_X1_35 (x_X1_tell _ _ m0 h0 v2 b2x v4 b4x v6 b6x v8 b8x hI) rfl rfl h0 rfl rfl (Nat.le_of_ble_eq_true rfl) dX1_copy_17 (fun r9 g9 q9 => ?_)
  obtain ⟨rfl, hI9, hF9q, hp9_0⟩ := q9
  have hF9 := zFr.tr hF hF9q (by decide)
  simp only [Option.toList, List.cons_append, List.nil_append]
  refine z_aload_n (pc := 20) C dX1_copy_20 rfl ?_
  refine z_aload_n (pc := 21) C dX1_copy_21 rfl ?_
  refine z_getI (pc := 22) C zf_X1_31 rfl rfl h1 dX1_copy_22 ?_
  refine w_gp (fun v => v = g9 8 m1 4) rfl (fun v11 q11 => ?_)
  have b11x : zB v11 0 1 := by rw [q11]; exact (hI9 8 m1 4)
  refine z_putZ (pc := 25) C zf_X1_31 zp_1_4 (z01 b11x) rfl rfl h0 dX1_copy_25 ?_
  refine w_memy hI9 hF9 b11x rfl (fun g12 qm12 hI12 hF12 => ?_)
  exact z_vret (pc := 28) C hr dX1_copy_28 ⟨rfl, hI12, hF12, (by have hs := Ne.symm hp0; intro j hj; subst_vars; rcases (show j = 0 ∨ j = 1 ∨ j = 2 ∨ j = 3 ∨ j = 4 by omega) with rfl | rfl | rfl | rfl | rfl <;> simp [zup, hs]), (by intro n j hn; subst_vars; simp [zup, hn])⟩

set_option maxRecDepth 100000 in
set_option maxHeartbeats 4000000 in
theorem x_X4_lead (d : Nat) (f : zM) (m0 : Nat) (h0 : m0 < zcnt 11) (a1 : Int32) (b1 : zB a1 0 5) (a2 : Int32) (b2 : zB a2 0 5) (hI : zInv f) : ZM d yX4_lead cX4_lead 3 none [zr 11 m0, zi a1, zi a2] f (fun r g => r = none ∧ zInv g ∧ zFr [(11, some 1), (11, some 2)] f g ∧ (g = zup (zup f 11 m0 1 a1) 11 m0 2 a2)) := by
  refine ZM.intro (by decide +kernel) (Nat.le_of_ble_eq_true rfl) ?_
  intro X C hr hn
  have hF : zFr [(11, some 1), (11, some 2)] f f := zFr.rf _ _
  show Z X 0 [some (zr 11 m0), some (zi a1), some (zi a2)] [] f
  refine z_aload_n (pc := 0) C dX4_lead_0 rfl ?_
  refine z_iload_n (pc := 1) C dX4_lead_1 rfl ?_
  refine z_putI (pc := 2) C zf_X4_9 zp_4_1 rfl rfl h0 dX4_lead_2 ?_
  refine w_memy hI hF b1 rfl (fun g1 qm1 hI1 hF1 => ?_)
  refine z_aload_n (pc := 5) C dX4_lead_5 rfl ?_
  refine z_iload_n (pc := 6) C dX4_lead_6 rfl ?_
  refine z_putI (pc := 7) C zf_X4_15 zp_4_2 rfl rfl h0 dX4_lead_7 ?_
  refine w_memy hI1 hF1 b2 rfl (fun g2 qm2 hI2 hF2 => ?_)
  exact z_vret (pc := 10) C hr dX4_lead_10 ⟨rfl, hI2, hF2, (by subst qm2 qm1; rfl)⟩

set_option maxRecDepth 100000 in
set_option maxHeartbeats 4000000 in
theorem x_X4_become (d : Nat) (f : zM) (m0 : Nat) (h0 : m0 < zcnt 11) (a1 : Int32) (b1 : zB a1 0 2) (a2 : Int32) (b2 : zB a2 0 40) (a3 : Int32) (b3 : zB a3 (-2147483648) 2147483647) (hI : zInv f) : ZM d yX4_become cX4_become 4 none [zr 11 m0, zi a1, zi a2, zi a3] f (fun r g => r = none ∧ zInv g ∧ zFr [(11, some 0), (11, some 3), (11, some 4)] f g ∧ (g = zup (zup (zup f 11 m0 0 a1) 11 m0 3 a2) 11 m0 4 a3)) := by
  refine ZM.intro (by decide +kernel) (Nat.le_of_ble_eq_true rfl) ?_
  intro X C hr hn
  have hF : zFr [(11, some 0), (11, some 3), (11, some 4)] f f := zFr.rf _ _
  show Z X 0 [some (zr 11 m0), some (zi a1), some (zi a2), some (zi a3)] [] f
  refine z_aload_n (pc := 0) C dX4_become_0 rfl ?_
  refine z_iload_n (pc := 1) C dX4_become_1 rfl ?_
  refine z_putI (pc := 2) C zf_X4_18 zp_4_0 rfl rfl h0 dX4_become_2 ?_
  refine w_memy hI hF b1 rfl (fun g1 qm1 hI1 hF1 => ?_)
  refine z_aload_n (pc := 5) C dX4_become_5 rfl ?_
  refine z_iload_n (pc := 6) C dX4_become_6 rfl ?_
  refine z_putI (pc := 7) C zf_X4_21 zp_4_3 rfl rfl h0 dX4_become_7 ?_
  refine w_memy hI1 hF1 b2 rfl (fun g2 qm2 hI2 hF2 => ?_)
  refine z_aload_n (pc := 10) C dX4_become_10 rfl ?_
  refine z_iload_n (pc := 11) C dX4_become_11 rfl ?_
  refine z_putI (pc := 12) C zf_X4_24 zp_4_4 rfl rfl h0 dX4_become_12 ?_
  refine w_memy hI2 hF2 b3 rfl (fun g3 qm3 hI3 hF3 => ?_)
  exact z_vret (pc := 15) C hr dX4_become_15 ⟨rfl, hI3, hF3, (by subst qm3 qm2 qm1; rfl)⟩

set_option maxRecDepth 100000 in
set_option maxHeartbeats 4000000 in
theorem x_X4_rule (d : Nat) (f : zM) (m0 : Nat) (h0 : m0 < zcnt 11) (a1 : Int32) (b1 : zB a1 0 31) (a2 : Int32) (b2 : zB a2 0 99) (a3 : Int32) (b3 : zB a3 0 7) (hI : zInv f) : ZM d yX4_rule cX4_rule 4 none [zr 11 m0, zi a1, zi a2, zi a3] f (fun r g => r = none ∧ zInv g ∧ zFr [(11, some 5), (11, some 6), (11, some 7)] f g ∧ (g = zup (zup (zup f 11 m0 5 a1) 11 m0 6 a2) 11 m0 7 a3)) := by
  refine ZM.intro (by decide +kernel) (Nat.le_of_ble_eq_true rfl) ?_
  intro X C hr hn
  have hF : zFr [(11, some 5), (11, some 6), (11, some 7)] f f := zFr.rf _ _
  show Z X 0 [some (zr 11 m0), some (zi a1), some (zi a2), some (zi a3)] [] f
  refine z_aload_n (pc := 0) C dX4_rule_0 rfl ?_
  refine z_iload_n (pc := 1) C dX4_rule_1 rfl ?_
  refine z_putI (pc := 2) C zf_X4_27 zp_4_5 rfl rfl h0 dX4_rule_2 ?_
  refine w_memy hI hF b1 rfl (fun g1 qm1 hI1 hF1 => ?_)
  refine z_aload_n (pc := 5) C dX4_rule_5 rfl ?_
  refine z_iload_n (pc := 6) C dX4_rule_6 rfl ?_
  refine z_putI (pc := 7) C zf_X4_30 zp_4_6 rfl rfl h0 dX4_rule_7 ?_
  refine w_memy hI1 hF1 b2 rfl (fun g2 qm2 hI2 hF2 => ?_)
  refine z_aload_n (pc := 10) C dX4_rule_10 rfl ?_
  refine z_iload_n (pc := 11) C dX4_rule_11 rfl ?_
  refine z_putI (pc := 12) C zf_X4_33 zp_4_7 rfl rfl h0 dX4_rule_12 ?_
  refine w_memy hI2 hF2 b3 rfl (fun g3 qm3 hI3 hF3 => ?_)
  exact z_vret (pc := 15) C hr dX4_rule_15 ⟨rfl, hI3, hF3, (by subst qm3 qm2 qm1; rfl)⟩

set_option maxRecDepth 100000 in
set_option maxHeartbeats 4000000 in
theorem x_X4_copy (d : Nat) (f : zM) (m0 : Nat) (h0 : m0 < zcnt 11) (m1 : Nat) (h1 : m1 < zcnt 11) (hp0 : m0 ≠ m1) (hI : zInv f) : ZM (d + 1) yX4_copy cX4_copy 2 none [zr 11 m0, zr 11 m1] f (fun r g => r = none ∧ zInv g ∧ zFr [(11, some 0), (11, some 1), (11, some 2), (11, some 3), (11, some 4), (11, some 5), (11, some 6), (11, some 7)] f g ∧ (∀ j, j < 8 → g 11 m0 j = f 11 m1 j) ∧ (∀ n j, n ≠ m0 → g 11 n j = f 11 n j)) := by
  refine ZM.intro (by decide +kernel) (Nat.le_of_ble_eq_true rfl) ?_
  intro X C hr hn
  have hF : zFr [(11, some 0), (11, some 1), (11, some 2), (11, some 3), (11, some 4), (11, some 5), (11, some 6), (11, some 7)] f f := zFr.rf _ _
  show Z X 0 [some (zr 11 m0), some (zr 11 m1)] [] f
  refine z_aload_n (pc := 0) C dX4_copy_0 rfl ?_
  refine z_aload_n (pc := 1) C dX4_copy_1 rfl ?_
  refine z_getI (pc := 2) C zf_X4_9 rfl rfl h1 dX4_copy_2 ?_
  refine w_gp (fun v => v = f 11 m1 1) rfl (fun v2 q2 => ?_)
  have b2x : zB v2 0 5 := by rw [q2]; exact (hI 11 m1 1)
  refine z_aload_n (pc := 5) C dX4_copy_5 rfl ?_
  refine z_getI (pc := 6) C zf_X4_15 rfl rfl h1 dX4_copy_6 ?_
  refine w_gp (fun v => v = f 11 m1 2) rfl (fun v4 q4 => ?_)
  have b4x : zB v4 0 5 := by rw [q4]; exact (hI 11 m1 2)
  refine z_callV (pc := 9) C zk_X4_36 (x_X4_lead _ _ m0 h0 v2 b2x v4 b4x hI) rfl rfl h0 rfl rfl (Nat.le_of_ble_eq_true rfl) dX4_copy_9 (fun r5 g5 q5 => ?_)
  obtain ⟨rfl, hI5, hF5q, hp5_0⟩ := q5
  have hF5 := zFr.tr hF hF5q (by decide)
  simp only [Option.toList, List.cons_append, List.nil_append]
  refine z_aload_n (pc := 12) C dX4_copy_12 rfl ?_
  refine z_aload_n (pc := 13) C dX4_copy_13 rfl ?_
  refine z_getI (pc := 14) C zf_X4_18 rfl rfl h1 dX4_copy_14 ?_
  refine w_gp (fun v => v = g5 11 m1 0) rfl (fun v7 q7 => ?_)
  have b7x : zB v7 0 2 := by rw [q7]; exact (hI5 11 m1 0)
  refine z_aload_n (pc := 17) C dX4_copy_17 rfl ?_
  refine z_getI (pc := 18) C zf_X4_21 rfl rfl h1 dX4_copy_18 ?_
  refine w_gp (fun v => v = g5 11 m1 3) rfl (fun v9 q9 => ?_)
  have b9x : zB v9 0 40 := by rw [q9]; exact (hI5 11 m1 3)
  refine z_aload_n (pc := 21) C dX4_copy_21 rfl ?_
  refine z_getI (pc := 22) C zf_X4_24 rfl rfl h1 dX4_copy_22 ?_
  refine w_gp (fun v => v = g5 11 m1 4) rfl (fun v11 q11 => ?_)
  have b11x : zB v11 (-2147483648) 2147483647 := by rw [q11]; exact (hI5 11 m1 4)
  refine z_callV (pc := 25) C zk_X4_40 (x_X4_become _ _ m0 h0 v7 b7x v9 b9x v11 b11x hI5) rfl rfl h0 rfl rfl (Nat.le_of_ble_eq_true rfl) dX4_copy_25 (fun r12 g12 q12 => ?_)
  obtain ⟨rfl, hI12, hF12q, hp12_0⟩ := q12
  have hF12 := zFr.tr hF5 hF12q (by decide)
  simp only [Option.toList, List.cons_append, List.nil_append]
  refine z_aload_n (pc := 28) C dX4_copy_28 rfl ?_
  refine z_aload_n (pc := 29) C dX4_copy_29 rfl ?_
  refine z_getI (pc := 30) C zf_X4_27 rfl rfl h1 dX4_copy_30 ?_
  refine w_gp (fun v => v = g12 11 m1 5) rfl (fun v14 q14 => ?_)
  have b14x : zB v14 0 31 := by rw [q14]; exact (hI12 11 m1 5)
  refine z_aload_n (pc := 33) C dX4_copy_33 rfl ?_
  refine z_getI (pc := 34) C zf_X4_30 rfl rfl h1 dX4_copy_34 ?_
  refine w_gp (fun v => v = g12 11 m1 6) rfl (fun v16 q16 => ?_)
  have b16x : zB v16 0 99 := by rw [q16]; exact (hI12 11 m1 6)
  refine z_aload_n (pc := 37) C dX4_copy_37 rfl ?_
  refine z_getI (pc := 38) C zf_X4_33 rfl rfl h1 dX4_copy_38 ?_
  refine w_gp (fun v => v = g12 11 m1 7) rfl (fun v18 q18 => ?_)
  have b18x : zB v18 0 7 := by rw [q18]; exact (hI12 11 m1 7)
  refine z_callV (pc := 41) C zk_X4_44 (x_X4_rule _ _ m0 h0 v14 b14x v16 b16x v18 b18x hI12) rfl rfl h0 rfl rfl (Nat.le_of_ble_eq_true rfl) dX4_copy_41 (fun r19 g19 q19 => ?_)
  obtain ⟨rfl, hI19, hF19q, hp19_0⟩ := q19
  have hF19 := zFr.tr hF12 hF19q (by decide)
  simp only [Option.toList, List.cons_append, List.nil_append]
  exact z_vret (pc := 44) C hr dX4_copy_44 ⟨rfl, hI19, hF19, (by have hs := Ne.symm hp0; intro j hj; subst_vars; rcases (show j = 0 ∨ j = 1 ∨ j = 2 ∨ j = 3 ∨ j = 4 ∨ j = 5 ∨ j = 6 ∨ j = 7 by omega) with rfl | rfl | rfl | rfl | rfl | rfl | rfl | rfl <;> simp [zup, hs]), (by intro n j hn; subst_vars; simp [zup, hn])⟩

set_option maxRecDepth 100000 in
set_option maxHeartbeats 4000000 in
theorem x_X2_tell (d : Nat) (f : zM) (m0 : Nat) (h0 : m0 < zcnt 12) (a1 : Int32) (b1 : zB a1 0 5) (a2 : Int32) (b2 : zB a2 0 255) (a3 : Int32) (b3 : zB a3 0 99) (hI : zInv f) : ZM d yX2_tell cX2_tell 4 none [zr 12 m0, zi a1, zi a2, zi a3] f (fun r g => r = none ∧ zInv g ∧ zFr [(12, some 0), (12, some 1), (12, some 2)] f g ∧ (g = zup (zup (zup f 12 m0 0 a1) 12 m0 1 a2) 12 m0 2 a3)) := by
  refine ZM.intro (by decide +kernel) (Nat.le_of_ble_eq_true rfl) ?_
  intro X C hr hn
  have hF : zFr [(12, some 0), (12, some 1), (12, some 2)] f f := zFr.rf _ _
  show Z X 0 [some (zr 12 m0), some (zi a1), some (zi a2), some (zi a3)] [] f
  refine z_aload_n (pc := 0) C dX2_tell_0 rfl ?_
  refine z_iload_n (pc := 1) C dX2_tell_1 rfl ?_
  refine z_putI (pc := 2) C zf_X2_7 zp_2_0 rfl rfl h0 dX2_tell_2 ?_
  refine w_memy hI hF b1 rfl (fun g1 qm1 hI1 hF1 => ?_)
  refine z_aload_n (pc := 5) C dX2_tell_5 rfl ?_
  refine z_iload_n (pc := 6) C dX2_tell_6 rfl ?_
  refine z_putI (pc := 7) C zf_X2_13 zp_2_1 rfl rfl h0 dX2_tell_7 ?_
  refine w_memy hI1 hF1 b2 rfl (fun g2 qm2 hI2 hF2 => ?_)
  refine z_aload_n (pc := 10) C dX2_tell_10 rfl ?_
  refine z_iload_n (pc := 11) C dX2_tell_11 rfl ?_
  refine z_putI (pc := 12) C zf_X2_16 zp_2_2 rfl rfl h0 dX2_tell_12 ?_
  refine w_memy hI2 hF2 b3 rfl (fun g3 qm3 hI3 hF3 => ?_)
  exact z_vret (pc := 15) C hr dX2_tell_15 ⟨rfl, hI3, hF3, (by subst qm3 qm2 qm1; rfl)⟩

set_option maxRecDepth 100000 in
set_option maxHeartbeats 4000000 in
theorem x_X3_stand (d : Nat) (f : zM) (m0 : Nat) (h0 : m0 < zcnt 6) (m1 : Nat) (h1 : m1 < zcnt 6) (hp0 : m0 ≠ m1) (hI : zInv f) : ZM d yX3_stand cX3_stand 2 none [zr 6 m0, zr 6 m1] f (fun r g => r = none ∧ zInv g ∧ zFr [(6, some 1), (6, some 4), (6, some 5), (6, some 6)] f g ∧ (g 6 m0 1 = f 6 m1 1 ∧ g 6 m0 4 = f 6 m1 4 ∧ g 6 m0 5 = f 6 m1 5 ∧ g 6 m0 6 = f 6 m1 6) ∧ (∀ n j, n ≠ m0 → g 6 n j = f 6 n j)) := by
  refine ZM.intro (by decide +kernel) (Nat.le_of_ble_eq_true rfl) ?_
  intro X C hr hn
  have hF : zFr [(6, some 1), (6, some 4), (6, some 5), (6, some 6)] f f := zFr.rf _ _
  show Z X 0 [some (zr 6 m0), some (zr 6 m1)] [] f
  refine z_aload_n (pc := 0) C dX3_stand_0 rfl ?_
  refine z_aload_n (pc := 1) C dX3_stand_1 rfl ?_
  refine z_getI (pc := 2) C zf_X3_18 rfl rfl h1 dX3_stand_2 ?_
  refine w_gp (fun v => v = f 6 m1 1) rfl (fun v2 q2 => ?_)
  have b2x : zB v2 0 5 := by rw [q2]; exact (hI 6 m1 1)
  refine z_putI (pc := 5) C zf_X3_18 zp_3_1 rfl rfl h0 dX3_stand_5 ?_
  refine w_memy hI hF b2x rfl (fun g3 qm3 hI3 hF3 => ?_)
  refine z_aload_n (pc := 8) C dX3_stand_8 rfl ?_
  refine z_aload_n (pc := 9) C dX3_stand_9 rfl ?_
  refine z_getI (pc := 10) C zf_X3_21 rfl rfl h1 dX3_stand_10 ?_
  refine w_gp (fun v => v = g3 6 m1 4) rfl (fun v5 q5 => ?_)
  have b5x : zB v5 0 1 := by rw [q5]; exact (hI3 6 m1 4)
  refine z_putZ (pc := 13) C zf_X3_21 zp_3_4 (z01 b5x) rfl rfl h0 dX3_stand_13 ?_
  refine w_memy hI3 hF3 b5x rfl (fun g6 qm6 hI6 hF6 => ?_)
  refine z_aload_n (pc := 16) C dX3_stand_16 rfl ?_
  refine z_aload_n (pc := 17) C dX3_stand_17 rfl ?_
  refine z_getI (pc := 18) C zf_X3_9 rfl rfl h1 dX3_stand_18 ?_
  refine w_gp (fun v => v = g6 6 m1 5) rfl (fun v8 q8 => ?_)
  have b8x : zB v8 (-4) 5 := by rw [q8]; exact (hI6 6 m1 5)
  refine z_putI (pc := 21) C zf_X3_9 zp_3_5 rfl rfl h0 dX3_stand_21 ?_
  refine w_memy hI6 hF6 b8x rfl (fun g9 qm9 hI9 hF9 => ?_)
  refine z_aload_n (pc := 24) C dX3_stand_24 rfl ?_
  refine z_aload_n (pc := 25) C dX3_stand_25 rfl ?_
  refine z_getI (pc := 26) C zf_X3_15 rfl rfl h1 dX3_stand_26 ?_
  refine w_gp (fun v => v = g9 6 m1 6) rfl (fun v11 q11 => ?_)
  have b11x : zB v11 0 255 := by rw [q11]; exact (hI9 6 m1 6)
  refine z_putI (pc := 29) C zf_X3_15 zp_3_6 rfl rfl h0 dX3_stand_29 ?_
  refine w_memy hI9 hF9 b11x rfl (fun g12 qm12 hI12 hF12 => ?_)
  exact z_vret (pc := 32) C hr dX3_stand_32 ⟨rfl, hI12, hF12, (by have hs := Ne.symm hp0; subst_vars; simp [zup, hs]), (by intro n j hn; subst_vars; simp [zup, hn])⟩

set_option maxRecDepth 100000 in
set_option maxHeartbeats 4000000 in
theorem x_X3_copy (d : Nat) (f : zM) (m0 : Nat) (h0 : m0 < zcnt 6) (m1 : Nat) (h1 : m1 < zcnt 6) (hp0 : m0 ≠ m1) (hI : zInv f) : ZM (d + 1) yX3_copy cX3_copy 2 none [zr 6 m0, zr 6 m1] f (fun r g => r = none ∧ zInv g ∧ zFr [(6, some 0), (6, some 1), (6, some 2), (6, some 3), (6, some 4), (6, some 5), (6, some 6)] f g ∧ (∀ j, j < 7 → g 6 m0 j = f 6 m1 j) ∧ (∀ n j, n ≠ m0 → g 6 n j = f 6 n j)) := by
  refine ZM.intro (by decide +kernel) (Nat.le_of_ble_eq_true rfl) ?_
  intro X C hr hn
  have hF : zFr [(6, some 0), (6, some 1), (6, some 2), (6, some 3), (6, some 4), (6, some 5), (6, some 6)] f f := zFr.rf _ _
  show Z X 0 [some (zr 6 m0), some (zr 6 m1)] [] f
  refine z_aload_n (pc := 0) C dX3_copy_0 rfl ?_
  refine z_aload_n (pc := 1) C dX3_copy_1 rfl ?_
  refine z_callV (pc := 2) C zk_X3_25 (x_X3_stand _ _ m0 h0 m1 h1 (by exact hp0) hI) rfl rfl h0 rfl rfl (Nat.le_of_ble_eq_true rfl) dX3_copy_2 (fun r1 g1 q1 => ?_)
  obtain ⟨rfl, hI1, hF1q, hp1_0, hp1_1⟩ := q1
  have hF1 := zFr.tr hF hF1q (by decide)
  simp only [Option.toList, List.cons_append, List.nil_append]
  refine z_aload_n (pc := 5) C dX3_copy_5 rfl ?_
  refine z_aload_n (pc := 6) C dX3_copy_6 rfl ?_
  refine z_getI (pc := 7) C zf_X3_29 rfl rfl h1 dX3_copy_7 ?_
  refine w_gp (fun v => v = g1 6 m1 0) rfl (fun v3 q3 => ?_)
  have b3x : zB v3 0 5 := by rw [q3]; exact (hI1 6 m1 0)
  refine z_putI (pc := 10) C zf_X3_29 zp_3_0 rfl rfl h0 dX3_copy_10 ?_
  refine w_memy hI1 hF1 b3x rfl (fun g4 qm4 hI4 hF4 => ?_)
  refine z_aload_n (pc := 13) C dX3_copy_13 rfl ?_
  refine z_aload_n (pc := 14) C dX3_copy_14 rfl ?_
  refine z_getI (pc := 15) C zf_X3_32 rfl rfl h1 dX3_copy_15 ?_
  refine w_gp (fun v => v = g4 6 m1 2) rfl (fun v6 q6 => ?_)
  have b6x : zB v6 0 99 := by rw [q6]; exact (hI4 6 m1 2)
  refine z_putI (pc := 18) C zf_X3_32 zp_3_2 rfl rfl h0 dX3_copy_18 ?_
  refine w_memy hI4 hF4 b6x rfl (fun g7 qm7 hI7 hF7 => ?_)
  refine z_aload_n (pc := 21) C dX3_copy_21 rfl ?_
  refine z_aload_n (pc := 22) C dX3_copy_22 rfl ?_
  refine z_getI (pc := 23) C zf_X3_35 rfl rfl h1 dX3_copy_23 ?_
  refine w_gp (fun v => v = g7 6 m1 3) rfl (fun v9 q9 => ?_)
  have b9x : zB v9 (-2147483648) 2147483647 := by rw [q9]; exact (hI7 6 m1 3)
  refine z_putI (pc := 26) C zf_X3_35 zp_3_3 rfl rfl h0 dX3_copy_26 ?_
  refine w_memy hI7 hF7 b9x rfl (fun g10 qm10 hI10 hF10 => ?_)
  exact z_vret (pc := 29) C hr dX3_copy_29 ⟨rfl, hI10, hF10, (by
                                                                                          have hs := Ne.symm hp0
                                                                                          have h1 := hp1_0
                                                                                          have h2 := hp1_1
                                                                                          intro j hj
                                                                                          rcases (show j = 0 ∨ j = 1 ∨ j = 2 ∨ j = 3 ∨ j = 4 ∨ j = 5 ∨ j = 6 by omega) with rfl | rfl | rfl | rfl | rfl | rfl | rfl <;> subst_vars <;> simp [zup, hs, h1, h2]), (by have h2 := hp1_1; intro n j hn; subst_vars; simp [zup, hn, h2])⟩

set_option maxRecDepth 100000 in
set_option maxHeartbeats 4000000 in
theorem x_X8_copy_1 (d : Nat) (f : zM)  (hI : zInv f) : ZM (d + 3) yX8_copy cX8_copy 3 none [zr 1 1, zr 1 0] f (fun r g => r = none ∧ zInv g ∧ zFr [(1, some 5), (1, some 6), (1, some 7), (1, some 8), (6, some 0), (6, some 1), (6, some 2), (6, some 3), (6, some 4), (6, some 5), (6, some 6), (7, some 0), (7, some 1), (7, some 2), (7, some 3), (7, some 4), (7, some 5), (8, some 0), (8, some 1), (8, some 2), (8, some 3), (8, some 4), (8, some 5), (8, some 6), (8, some 7), (9, none), (10, none), (11, some 0), (11, some 1), (11, some 2), (11, some 3), (11, some 4), (11, some 5), (11, some 6), (11, some 7), (12, some 0), (12, some 1), (12, some 2)] f g ∧ (g 1 1 5 = f 1 0 5) ∧ (g 1 1 6 = f 1 0 6) ∧ (g 1 1 7 = f 1 0 7) ∧ (g 1 1 8 = f 1 0 8) ∧ (g 1 0 5 = f 1 0 5) ∧ (g 1 0 6 = f 1 0 6) ∧ (g 1 0 7 = f 1 0 7) ∧ (g 1 0 8 = f 1 0 8) ∧ (zcpd f g 7 24 0 (f 1 0 5).toInt.toNat 6 24) ∧ (zcpd f g 8 8 0 (f 1 0 6).toInt.toNat 5 8) ∧ (zcpd f g 11 12 0 (f 1 0 7).toInt.toNat 8 12) ∧ (zcpd f g 12 8 0 (f 1 0 8).toInt.toNat 3 8) ∧ (∀ j, j < 7 → g 6 1 j = f 6 0 j) ∧ (∀ j, j < 7 → g 6 0 j = f 6 0 j)) := by
  refine ZM.intro (by decide +kernel) (Nat.le_of_ble_eq_true rfl) ?_
  intro X C hr hn
  have hF : zFr [(1, some 5), (1, some 6), (1, some 7), (1, some 8), (6, some 0), (6, some 1), (6, some 2), (6, some 3), (6, some 4), (6, some 5), (6, some 6), (7, some 0), (7, some 1), (7, some 2), (7, some 3), (7, some 4), (7, some 5), (8, some 0), (8, some 1), (8, some 2), (8, some 3), (8, some 4), (8, some 5), (8, some 6), (8, some 7), (9, none), (10, none), (11, some 0), (11, some 1), (11, some 2), (11, some 3), (11, some 4), (11, some 5), (11, some 6), (11, some 7), (12, some 0), (12, some 1), (12, some 2)] f f := zFr.rf _ _
  have ct1_1_5 : zB (f 1 1 5) 0 24 := hI 1 1 5
  have ct1_1_6 : zB (f 1 1 6) 0 8 := hI 1 1 6
  have ct1_1_7 : zB (f 1 1 7) 0 12 := hI 1 1 7
  have ct1_1_8 : zB (f 1 1 8) 0 8 := hI 1 1 8
  have ct1_0_5 : zB (f 1 0 5) 0 24 := hI 1 0 5
  have ct1_0_6 : zB (f 1 0 6) 0 8 := hI 1 0 6
  have ct1_0_7 : zB (f 1 0 7) 0 12 := hI 1 0 7
  have ct1_0_8 : zB (f 1 0 8) 0 8 := hI 1 0 8
  have J : ∀ t : Nat, (∀ a10_2 : Int32, zB a10_2 0 24 → ∀ g : zM, zInv g → zFr [(1, some 5), (1, some 6), (1, some 7), (1, some 8), (6, some 0), (6, some 1), (6, some 2), (6, some 3), (6, some 4), (6, some 5), (6, some 6), (7, some 0), (7, some 1), (7, some 2), (7, some 3), (7, some 4), (7, some 5), (8, some 0), (8, some 1), (8, some 2), (8, some 3), (8, some 4), (8, some 5), (8, some 6), (8, some 7), (9, none), (10, none), (11, some 0), (11, some 1), (11, some 2), (11, some 3), (11, some 4), (11, some 5), (11, some 6), (11, some 7), (12, some 0), (12, some 1), (12, some 2)] f g → zB (g 1 0 5) 0 24 → zB (g 1 0 6) 0 8 → zB (g 1 0 7) 0 12 → zB (g 1 0 8) 0 8 → zB (g 1 1 5) 0 24 → zB (g 1 1 6) 0 8 → zB (g 1 1 7) 0 12 → zB (g 1 1 8) 0 8 → ((g 1 1 5).toInt = (f 1 0 5).toInt) → ((g 1 0 5).toInt = (f 1 0 5).toInt) → ((g 1 0 6).toInt = (f 1 0 6).toInt) → ((g 1 0 7).toInt = (f 1 0 7).toInt) → ((g 1 0 8).toInt = (f 1 0 8).toInt) → (a10_2.toInt ≤ (f 1 0 5).toInt) → (zcpd f g 7 24 0 a10_2.toInt.toNat 6 24) → (zcpd f g 8 8 0 0 5 8) → (zcpd f g 11 12 0 0 8 12) → (zcpd f g 12 8 0 0 3 8) → (∀ n j, g 6 n j = f 6 n j) → (8397 + 8400 * (24 - a10_2.toInt) : Int) < t → Z X 10 [some (zr 1 1), some (zr 1 0), some (zi a10_2)] [] g) ∧ (∀ a49_2 : Int32, zB a49_2 0 8 → ∀ g : zM, zInv g → zFr [(1, some 5), (1, some 6), (1, some 7), (1, some 8), (6, some 0), (6, some 1), (6, some 2), (6, some 3), (6, some 4), (6, some 5), (6, some 6), (7, some 0), (7, some 1), (7, some 2), (7, some 3), (7, some 4), (7, some 5), (8, some 0), (8, some 1), (8, some 2), (8, some 3), (8, some 4), (8, some 5), (8, some 6), (8, some 7), (9, none), (10, none), (11, some 0), (11, some 1), (11, some 2), (11, some 3), (11, some 4), (11, some 5), (11, some 6), (11, some 7), (12, some 0), (12, some 1), (12, some 2)] f g → zB (g 1 0 5) 0 24 → zB (g 1 0 6) 0 8 → zB (g 1 0 7) 0 12 → zB (g 1 0 8) 0 8 → zB (g 1 1 5) 0 24 → zB (g 1 1 6) 0 8 → zB (g 1 1 7) 0 12 → zB (g 1 1 8) 0 8 → ((g 1 1 5).toInt = (f 1 0 5).toInt) → ((g 1 0 5).toInt = (f 1 0 5).toInt) → ((g 1 1 6).toInt = (f 1 0 6).toInt) → ((g 1 0 6).toInt = (f 1 0 6).toInt) → ((g 1 0 7).toInt = (f 1 0 7).toInt) → ((g 1 0 8).toInt = (f 1 0 8).toInt) → (a49_2.toInt ≤ (f 1 0 6).toInt) → (zcpd f g 7 24 0 (f 1 0 5).toInt.toNat 6 24) → (zcpd f g 8 8 0 a49_2.toInt.toNat 5 8) → (zcpd f g 11 12 0 0 8 12) → (zcpd f g 12 8 0 0 3 8) → (∀ n j, g 6 n j = f 6 n j) → (836 + 840 * (8 - a49_2.toInt) : Int) < t → Z X 49 [some (zr 1 1), some (zr 1 0), some (zi a49_2)] [] g) ∧ (∀ a93_2 : Int32, zB a93_2 0 12 → ∀ g : zM, zInv g → zFr [(1, some 5), (1, some 6), (1, some 7), (1, some 8), (6, some 0), (6, some 1), (6, some 2), (6, some 3), (6, some 4), (6, some 5), (6, some 6), (7, some 0), (7, some 1), (7, some 2), (7, some 3), (7, some 4), (7, some 5), (8, some 0), (8, some 1), (8, some 2), (8, some 3), (8, some 4), (8, some 5), (8, some 6), (8, some 7), (9, none), (10, none), (11, some 0), (11, some 1), (11, some 2), (11, some 3), (11, some 4), (11, some 5), (11, some 6), (11, some 7), (12, some 0), (12, some 1), (12, some 2)] f g → zB (g 1 0 5) 0 24 → zB (g 1 0 6) 0 8 → zB (g 1 0 7) 0 12 → zB (g 1 0 8) 0 8 → zB (g 1 1 5) 0 24 → zB (g 1 1 6) 0 8 → zB (g 1 1 7) 0 12 → zB (g 1 1 8) 0 8 → ((g 1 1 5).toInt = (f 1 0 5).toInt) → ((g 1 0 5).toInt = (f 1 0 5).toInt) → ((g 1 1 6).toInt = (f 1 0 6).toInt) → ((g 1 0 6).toInt = (f 1 0 6).toInt) → ((g 1 1 7).toInt = (f 1 0 7).toInt) → ((g 1 0 7).toInt = (f 1 0 7).toInt) → ((g 1 0 8).toInt = (f 1 0 8).toInt) → (a93_2.toInt ≤ (f 1 0 7).toInt) → (zcpd f g 7 24 0 (f 1 0 5).toInt.toNat 6 24) → (zcpd f g 8 8 0 (f 1 0 6).toInt.toNat 5 8) → (zcpd f g 11 12 0 a93_2.toInt.toNat 8 12) → (zcpd f g 12 8 0 0 3 8) → (∀ n j, g 6 n j = f 6 n j) → (55 + 60 * (12 - a93_2.toInt) : Int) < t → Z X 93 [some (zr 1 1), some (zr 1 0), some (zi a93_2)] [] g) ∧ (∀ a132_2 : Int32, zB a132_2 0 8 → ∀ g : zM, zInv g → zFr [(1, some 5), (1, some 6), (1, some 7), (1, some 8), (6, some 0), (6, some 1), (6, some 2), (6, some 3), (6, some 4), (6, some 5), (6, some 6), (7, some 0), (7, some 1), (7, some 2), (7, some 3), (7, some 4), (7, some 5), (8, some 0), (8, some 1), (8, some 2), (8, some 3), (8, some 4), (8, some 5), (8, some 6), (8, some 7), (9, none), (10, none), (11, some 0), (11, some 1), (11, some 2), (11, some 3), (11, some 4), (11, some 5), (11, some 6), (11, some 7), (12, some 0), (12, some 1), (12, some 2)] f g → zB (g 1 0 5) 0 24 → zB (g 1 0 6) 0 8 → zB (g 1 0 7) 0 12 → zB (g 1 0 8) 0 8 → zB (g 1 1 5) 0 24 → zB (g 1 1 6) 0 8 → zB (g 1 1 7) 0 12 → zB (g 1 1 8) 0 8 → ((g 1 1 5).toInt = (f 1 0 5).toInt) → ((g 1 0 5).toInt = (f 1 0 5).toInt) → ((g 1 1 6).toInt = (f 1 0 6).toInt) → ((g 1 0 6).toInt = (f 1 0 6).toInt) → ((g 1 1 7).toInt = (f 1 0 7).toInt) → ((g 1 0 7).toInt = (f 1 0 7).toInt) → ((g 1 1 8).toInt = (f 1 0 8).toInt) → ((g 1 0 8).toInt = (f 1 0 8).toInt) → (a132_2.toInt ≤ (f 1 0 8).toInt) → (zcpd f g 7 24 0 (f 1 0 5).toInt.toNat 6 24) → (zcpd f g 8 8 0 (f 1 0 6).toInt.toNat 5 8) → (zcpd f g 11 12 0 (f 1 0 7).toInt.toNat 8 12) → (zcpd f g 12 8 0 a132_2.toInt.toNat 3 8) → (∀ n j, g 6 n j = f 6 n j) → (0 + 6 * (8 - a132_2.toInt) : Int) < t → Z X 132 [some (zr 1 1), some (zr 1 0), some (zi a132_2)] [] g) := by
    intro t
    induction t with
    | zero =>
      refine ⟨?_, ?_, ?_, ?_⟩ <;> (intros; exfalso; omega)
    | succ t ih =>
      obtain ⟨ih0, ih1, ih2, ih3⟩ := ih
      refine ⟨?_, ?_, ?_, ?_⟩
      · skip
        intro a10_2 b10_2 g10_ hI10_ hF10_ f10_1_0_5 f10_1_0_6 f10_1_0_7 f10_1_0_8 f10_1_1_5 f10_1_1_6 f10_1_1_7 f10_1_1_8 hR10_0 hR10_1 hR10_2 hR10_3 hR10_4 hR10_5 hR10_6 hR10_7 hR10_8 hR10_9 hR10_10 hM10_
        refine z_iload_n (pc := 10) C dX8_copy_10 rfl ?_
        refine z_aload_n (pc := 11) C dX8_copy_11 rfl ?_
        refine z_getI (pc := 12) C zf_X8_46 rfl rfl (by decide) dX8_copy_12 ?_
        refine w_gp (fun v => v = g10_ 1 1 5) rfl (fun v1 q1 => ?_)
        have e1 : v1.toInt = (g10_ 1 1 5).toInt := by rw [q1]
        have b1x : zB v1 0 24 := by first | exact zB.eqv e1 f10_1_1_5 | (have q9 := f10_1_1_5; constructor <;> omega)
        refine z_icmp_ge (pc := 15) 39 C dX8_copy_15 (by decide) (fun h15_1 => ?_) (fun h15_1 => ?_)
        · skip
          have rr3 : a10_2.toInt ≥ v1.toInt := by simp only [z32lt, z32le, z32eq] at h15_1; omega
          refine z_aload_n (pc := 39) C dX8_copy_39 rfl ?_
          refine z_aload_n (pc := 40) C dX8_copy_40 rfl ?_
          refine z_getI (pc := 41) C zf_X8_54 rfl rfl (by decide) dX8_copy_41 ?_
          refine w_gp (fun v => v = g10_ 1 0 6) rfl (fun v4 q4 => ?_)
          have e4 : v4.toInt = (g10_ 1 0 6).toInt := by rw [q4]
          have b4x : zB v4 0 8 := by first | exact zB.eqv e4 f10_1_0_6 | (have q9 := f10_1_0_6; constructor <;> omega)
          refine z_putI (pc := 44) C zf_X8_54 zp_8_6 rfl rfl (by decide) dX8_copy_44 ?_
          refine w_memx hI10_ hF10_ b4x rfl (fun g5 qm5 hI5 hF5 hq5 hx5 => ?_)
          have ek5_1_1_5 : (g5 1 1 5).toInt = (g10_ 1 1 5).toInt := by rw [hq5 1 1 5 (by omega)]
          have c5_1_1_5x : zB (g5 1 1 5) 0 24 := by first | exact zB.eqv ek5_1_1_5 f10_1_1_5 | (have q9 := f10_1_1_5; constructor <;> omega)
          have ec5 : (g5 1 1 6).toInt = v4.toInt := by rw [hx5]
          have c5x : zB (g5 1 1 6) 0 8 := by first | exact zB.eqv ec5 b4x | (have q9 := b4x; constructor <;> omega)
          have ek5_1_1_7 : (g5 1 1 7).toInt = (g10_ 1 1 7).toInt := by rw [hq5 1 1 7 (by omega)]
          have c5_1_1_7x : zB (g5 1 1 7) 0 12 := by first | exact zB.eqv ek5_1_1_7 f10_1_1_7 | (have q9 := f10_1_1_7; constructor <;> omega)
          have ek5_1_1_8 : (g5 1 1 8).toInt = (g10_ 1 1 8).toInt := by rw [hq5 1 1 8 (by omega)]
          have c5_1_1_8x : zB (g5 1 1 8) 0 8 := by first | exact zB.eqv ek5_1_1_8 f10_1_1_8 | (have q9 := f10_1_1_8; constructor <;> omega)
          have ek5_1_0_5 : (g5 1 0 5).toInt = (g10_ 1 0 5).toInt := by rw [hq5 1 0 5 (by omega)]
          have c5_1_0_5x : zB (g5 1 0 5) 0 24 := by first | exact zB.eqv ek5_1_0_5 f10_1_0_5 | (have q9 := f10_1_0_5; constructor <;> omega)
          have ek5_1_0_6 : (g5 1 0 6).toInt = (g10_ 1 0 6).toInt := by rw [(show g5 1 0 6 = g10_ 1 0 6 by rw [qm5]; exact zup_ne _ _ (by omega))]
          have c5_1_0_6x : zB (g5 1 0 6) 0 8 := by first | exact zB.eqv ek5_1_0_6 f10_1_0_6 | (have q9 := f10_1_0_6; constructor <;> omega)
          have ek5_1_0_7 : (g5 1 0 7).toInt = (g10_ 1 0 7).toInt := by rw [hq5 1 0 7 (by omega)]
          have c5_1_0_7x : zB (g5 1 0 7) 0 12 := by first | exact zB.eqv ek5_1_0_7 f10_1_0_7 | (have q9 := f10_1_0_7; constructor <;> omega)
          have ek5_1_0_8 : (g5 1 0 8).toInt = (g10_ 1 0 8).toInt := by rw [hq5 1 0 8 (by omega)]
          have c5_1_0_8x : zB (g5 1 0 8) 0 8 := by first | exact zB.eqv ek5_1_0_8 f10_1_0_8 | (have q9 := f10_1_0_8; constructor <;> omega)
          refine z_iconst (pc := 47) (v := 0) C dX8_copy_47 (by decide) ?_
          refine z_istore_n (pc := 48) C dX8_copy_48 (by rw [hn]; decide) rfl ?_
          exact ih1 0 (zB.wk (a' := 0) (b' := 8) (zB.of (x := 0) 0 (by decide)) (by decide) (by decide)) g5 hI5 hF5 c5_1_0_5x c5_1_0_6x c5_1_0_7x c5_1_0_8x c5_1_1_5x c5x c5_1_1_7x c5_1_1_8x (by have qc0 : (0 : Int32).toInt = 0 := (by decide); omega) (by have qc0 : (0 : Int32).toInt = 0 := (by decide); omega) (by have qc0 : (0 : Int32).toInt = 0 := (by decide); omega) (by have qc0 : (0 : Int32).toInt = 0 := (by decide); omega) (by have qc0 : (0 : Int32).toInt = 0 := (by decide); omega) (by have qc0 : (0 : Int32).toInt = 0 := (by decide); omega) (by have qc0 : (0 : Int32).toInt = 0 := (by decide); omega) (by
                                                                                          have hz : (f 1 0 5).toInt.toNat = a10_2.toInt.toNat := by omega
                                                                                          rw [hz]
                                                                                          exact zcpd_keep hR10_6 (fun x j hj => by subst qm5; exact zup_ne _ _ (by omega))) (by
                                                                                          show zcpd f g5 8 8 0 0 5 8
                                                                                          exact zcpd_keep hR10_7 (fun x j hj => by subst qm5; exact zup_ne _ _ (by omega))) (by
                                                                                          exact zcpd_keep hR10_8 (fun x j hj => by subst qm5; exact zup_ne _ _ (by omega))) (by
                                                                                          exact zcpd_keep hR10_9 (fun x j hj => by subst qm5; exact zup_ne _ _ (by omega))) (by intro n j; subst qm5; exact (zup_ne _ _ (by omega)).trans (hR10_10 n j)) (by have qc0 : (0 : Int32).toInt = 0 := (by decide); omega)
        · skip
          have rr6 : a10_2.toInt < v1.toInt := by simp only [z32lt, z32le, z32eq] at h15_1; omega
          have b7x : zB a10_2 0 23 := by have q1 := b10_2; have q2 := b1x; simp only [z32lt, z32le, z32eq, Int32.reduceToInt, Int32.toInt_zero] at h15_1; constructor <;> omega
          have b8x : zB v1 1 24 := by have q1 := b10_2; have q2 := b1x; simp only [z32lt, z32le, z32eq, Int32.reduceToInt, Int32.toInt_zero] at h15_1; constructor <;> omega
          have c9x : zB (g10_ 1 1 5) 1 24 := by first | assumption | (constructor <;> omega)
          refine z_aload_n (pc := 18) C dX8_copy_18 rfl ?_
          refine z_getR (pc := 19) C zf_X8_11 rfl rfl (by decide) dX8_copy_19 ?_
          refine z_iload_n (pc := 22) C dX8_copy_22 rfl ?_
          refine z_aald (pc := 23) C rfl ⟨rfl, by decide⟩ (by decide) (zIx b7x (by decide) (by decide)) dX8_copy_23 ?_
          refine w_grx (by have hq := zN b7x (by decide); show 24 * 1 + a10_2.toNatClampNeg < 60; omega) (fun m10 q10r h10x => ?_)
          have q10r : m10 = 24 * 1 + a10_2.toNatClampNeg := q10r
          have k10r : a10_2.toNatClampNeg = a10_2.toInt.toNat := rfl
          refine z_aload_n (pc := 24) C dX8_copy_24 rfl ?_
          refine z_getR (pc := 25) C zf_X8_11 rfl rfl (by decide) dX8_copy_25 ?_
          refine z_iload_n (pc := 28) C dX8_copy_28 rfl ?_
          refine z_aald (pc := 29) C rfl ⟨rfl, by decide⟩ (by decide) (zIx b7x (by decide) (by decide)) dX8_copy_29 ?_
          refine w_grx (by have hq := zN b7x (by decide); show 24 * 0 + a10_2.toNatClampNeg < 60; omega) (fun m11 q11r h11x => ?_)
          have q11r : m11 = 24 * 0 + a10_2.toNatClampNeg := q11r
          have k11r : a10_2.toNatClampNeg = a10_2.toInt.toNat := rfl
          refine z_callV (pc := 30) C zk_X8_50 (x_X0_copy _ _ m10 h10x m11 h11x hI10_) rfl rfl h10x rfl rfl (Nat.le_of_ble_eq_true rfl) dX8_copy_30 (fun r12 g12 q12 => ?_)
          obtain ⟨rfl, hI12, hF12q, hp12_0, hp12_1⟩ := q12
          have hF12 := zFr.tr hF10_ hF12q (by decide)
          simp only [Option.toList, List.cons_append, List.nil_append]
          have ek12_1_1_5 : (g12 1 1 5).toInt = (g10_ 1 1 5).toInt := by rw [hF12q 1 1 5 rfl]
          have c12_1_1_5x : zB (g12 1 1 5) 1 24 := by first | exact zB.eqv ek12_1_1_5 c9x | (have q9 := c9x; constructor <;> omega)
          have ek12_1_1_6 : (g12 1 1 6).toInt = (g10_ 1 1 6).toInt := by rw [hF12q 1 1 6 rfl]
          have c12_1_1_6x : zB (g12 1 1 6) 0 8 := by first | exact zB.eqv ek12_1_1_6 f10_1_1_6 | (have q9 := f10_1_1_6; constructor <;> omega)
          have ek12_1_1_7 : (g12 1 1 7).toInt = (g10_ 1 1 7).toInt := by rw [hF12q 1 1 7 rfl]
          have c12_1_1_7x : zB (g12 1 1 7) 0 12 := by first | exact zB.eqv ek12_1_1_7 f10_1_1_7 | (have q9 := f10_1_1_7; constructor <;> omega)
          have ek12_1_1_8 : (g12 1 1 8).toInt = (g10_ 1 1 8).toInt := by rw [hF12q 1 1 8 rfl]
          have c12_1_1_8x : zB (g12 1 1 8) 0 8 := by first | exact zB.eqv ek12_1_1_8 f10_1_1_8 | (have q9 := f10_1_1_8; constructor <;> omega)
          have ek12_1_0_5 : (g12 1 0 5).toInt = (g10_ 1 0 5).toInt := by rw [hF12q 1 0 5 rfl]
          have c12_1_0_5x : zB (g12 1 0 5) 0 24 := by first | exact zB.eqv ek12_1_0_5 f10_1_0_5 | (have q9 := f10_1_0_5; constructor <;> omega)
          have ek12_1_0_6 : (g12 1 0 6).toInt = (g10_ 1 0 6).toInt := by rw [hF12q 1 0 6 rfl]
          have c12_1_0_6x : zB (g12 1 0 6) 0 8 := by first | exact zB.eqv ek12_1_0_6 f10_1_0_6 | (have q9 := f10_1_0_6; constructor <;> omega)
          have ek12_1_0_7 : (g12 1 0 7).toInt = (g10_ 1 0 7).toInt := by rw [hF12q 1 0 7 rfl]
          have c12_1_0_7x : zB (g12 1 0 7) 0 12 := by first | exact zB.eqv ek12_1_0_7 f10_1_0_7 | (have q9 := f10_1_0_7; constructor <;> omega)
          have ek12_1_0_8 : (g12 1 0 8).toInt = (g10_ 1 0 8).toInt := by rw [hF12q 1 0 8 rfl]
          have c12_1_0_8x : zB (g12 1 0 8) 0 8 := by first | exact zB.eqv ek12_1_0_8 f10_1_0_8 | (have q9 := f10_1_0_8; constructor <;> omega)
          refine z_iinc (pc := 33) (v := 1) C dX8_copy_33 rfl (by decide) (by rw [hn]; decide) rfl ?_
          obtain ⟨v13, hv13, e13⟩ : ∃ v : Int32, v = a10_2 + 1 ∧ v.toInt = a10_2.toInt + 1 := ⟨_, rfl, zadd_eb b7x (zB.of (x := 1) 1 (by decide)) (by decide) (by decide)⟩
          rw [← hv13]
          have b13x : zB v13 1 24 := by have q9 := b7x; constructor <;> omega
          refine z_goto (pc := 36) 10 C dX8_copy_36 (by decide) ?_
          exact ih0 v13 (zB.wk (a' := 0) (b' := 24) b13x (by decide) (by decide)) g12 hI12 hF12 c12_1_0_5x c12_1_0_6x c12_1_0_7x c12_1_0_8x (zB.wk c12_1_1_5x (by decide) (by decide)) c12_1_1_6x c12_1_1_7x c12_1_1_8x (by omega) (by omega) (by omega) (by omega) (by omega) (by omega) (by
                                                                                          have hn : (v13).toInt.toNat = a10_2.toInt.toNat + 1 := by omega
                                                                                          rw [hn]
                                                                                          have hm0 : m10 = 24 + a10_2.toInt.toNat := by omega
                                                                                          have hm1 : m11 = 0 + a10_2.toInt.toNat := by omega
                                                                                          refine zcpd_s hR10_6 (by omega) (by omega) (fun j hj => ?_) (fun x j hx hj => ?_)
                                                                                          · rw [← hm0, ← hm1]; exact hp12_0 j hj
                                                                                          · exact hp12_1 x j (by omega)) (by
                                                                                          exact zcpd_keep hR10_7 (fun x j hj => hF12q 8 x j rfl)) (by
                                                                                          exact zcpd_keep hR10_8 (fun x j hj => hF12q 11 x j rfl)) (by
                                                                                          exact zcpd_keep hR10_9 (fun x j hj => hF12q 12 x j rfl)) (by intro n j; exact (hF12q 6 n j rfl).trans (hR10_10 n j)) (by omega)
      · skip
        intro a49_2 b49_2 g49_ hI49_ hF49_ f49_1_0_5 f49_1_0_6 f49_1_0_7 f49_1_0_8 f49_1_1_5 f49_1_1_6 f49_1_1_7 f49_1_1_8 hR49_0 hR49_1 hR49_2 hR49_3 hR49_4 hR49_5 hR49_6 hR49_7 hR49_8 hR49_9 hR49_10 hR49_11 hM49_
        refine z_iload_n (pc := 49) C dX8_copy_49 rfl ?_
        refine z_aload_n (pc := 50) C dX8_copy_50 rfl ?_
        refine z_getI (pc := 51) C zf_X8_54 rfl rfl (by decide) dX8_copy_51 ?_
        refine w_gp (fun v => v = g49_ 1 1 6) rfl (fun v14 q14 => ?_)
        have e14 : v14.toInt = (g49_ 1 1 6).toInt := by rw [q14]
        have b14x : zB v14 0 8 := by first | exact zB.eqv e14 f49_1_1_6 | (have q9 := f49_1_1_6; constructor <;> omega)
        refine z_icmp_ge (pc := 54) 83 C dX8_copy_54 (by decide) (fun h54_14 => ?_) (fun h54_14 => ?_)
        · skip
          have rr16 : a49_2.toInt ≥ v14.toInt := by simp only [z32lt, z32le, z32eq] at h54_14; omega
          refine z_aload_n (pc := 83) C dX8_copy_83 rfl ?_
          refine z_aload_n (pc := 84) C dX8_copy_84 rfl ?_
          refine z_getI (pc := 85) C zf_X8_64 rfl rfl (by decide) dX8_copy_85 ?_
          refine w_gp (fun v => v = g49_ 1 0 7) rfl (fun v17 q17 => ?_)
          have e17 : v17.toInt = (g49_ 1 0 7).toInt := by rw [q17]
          have b17x : zB v17 0 12 := by first | exact zB.eqv e17 f49_1_0_7 | (have q9 := f49_1_0_7; constructor <;> omega)
          refine z_putI (pc := 88) C zf_X8_64 zp_8_7 rfl rfl (by decide) dX8_copy_88 ?_
          refine w_memx hI49_ hF49_ b17x rfl (fun g18 qm18 hI18 hF18 hq18 hx18 => ?_)
          have ek18_1_1_5 : (g18 1 1 5).toInt = (g49_ 1 1 5).toInt := by rw [hq18 1 1 5 (by omega)]
          have c18_1_1_5x : zB (g18 1 1 5) 0 24 := by first | exact zB.eqv ek18_1_1_5 f49_1_1_5 | (have q9 := f49_1_1_5; constructor <;> omega)
          have ek18_1_1_6 : (g18 1 1 6).toInt = (g49_ 1 1 6).toInt := by rw [hq18 1 1 6 (by omega)]
          have c18_1_1_6x : zB (g18 1 1 6) 0 8 := by first | exact zB.eqv ek18_1_1_6 f49_1_1_6 | (have q9 := f49_1_1_6; constructor <;> omega)
          have ec18 : (g18 1 1 7).toInt = v17.toInt := by rw [hx18]
          have c18x : zB (g18 1 1 7) 0 12 := by first | exact zB.eqv ec18 b17x | (have q9 := b17x; constructor <;> omega)
          have ek18_1_1_8 : (g18 1 1 8).toInt = (g49_ 1 1 8).toInt := by rw [hq18 1 1 8 (by omega)]
          have c18_1_1_8x : zB (g18 1 1 8) 0 8 := by first | exact zB.eqv ek18_1_1_8 f49_1_1_8 | (have q9 := f49_1_1_8; constructor <;> omega)
          have ek18_1_0_5 : (g18 1 0 5).toInt = (g49_ 1 0 5).toInt := by rw [hq18 1 0 5 (by omega)]
          have c18_1_0_5x : zB (g18 1 0 5) 0 24 := by first | exact zB.eqv ek18_1_0_5 f49_1_0_5 | (have q9 := f49_1_0_5; constructor <;> omega)
          have ek18_1_0_6 : (g18 1 0 6).toInt = (g49_ 1 0 6).toInt := by rw [hq18 1 0 6 (by omega)]
          have c18_1_0_6x : zB (g18 1 0 6) 0 8 := by first | exact zB.eqv ek18_1_0_6 f49_1_0_6 | (have q9 := f49_1_0_6; constructor <;> omega)
          have ek18_1_0_7 : (g18 1 0 7).toInt = (g49_ 1 0 7).toInt := by rw [(show g18 1 0 7 = g49_ 1 0 7 by rw [qm18]; exact zup_ne _ _ (by omega))]
          have c18_1_0_7x : zB (g18 1 0 7) 0 12 := by first | exact zB.eqv ek18_1_0_7 f49_1_0_7 | (have q9 := f49_1_0_7; constructor <;> omega)
          have ek18_1_0_8 : (g18 1 0 8).toInt = (g49_ 1 0 8).toInt := by rw [hq18 1 0 8 (by omega)]
          have c18_1_0_8x : zB (g18 1 0 8) 0 8 := by first | exact zB.eqv ek18_1_0_8 f49_1_0_8 | (have q9 := f49_1_0_8; constructor <;> omega)
          refine z_iconst (pc := 91) (v := 0) C dX8_copy_91 (by decide) ?_
          refine z_istore_n (pc := 92) C dX8_copy_92 (by rw [hn]; decide) rfl ?_
          exact ih2 0 (zB.wk (a' := 0) (b' := 12) (zB.of (x := 0) 0 (by decide)) (by decide) (by decide)) g18 hI18 hF18 c18_1_0_5x c18_1_0_6x c18_1_0_7x c18_1_0_8x c18_1_1_5x c18_1_1_6x c18x c18_1_1_8x (by have qc0 : (0 : Int32).toInt = 0 := (by decide); omega) (by have qc0 : (0 : Int32).toInt = 0 := (by decide); omega) (by have qc0 : (0 : Int32).toInt = 0 := (by decide); omega) (by have qc0 : (0 : Int32).toInt = 0 := (by decide); omega) (by have qc0 : (0 : Int32).toInt = 0 := (by decide); omega) (by have qc0 : (0 : Int32).toInt = 0 := (by decide); omega) (by have qc0 : (0 : Int32).toInt = 0 := (by decide); omega) (by have qc0 : (0 : Int32).toInt = 0 := (by decide); omega) (by
                                                                                          exact zcpd_keep hR49_7 (fun x j hj => by subst qm18; exact zup_ne _ _ (by omega))) (by
                                                                                          have hz : (f 1 0 6).toInt.toNat = a49_2.toInt.toNat := by omega
                                                                                          rw [hz]
                                                                                          exact zcpd_keep hR49_8 (fun x j hj => by subst qm18; exact zup_ne _ _ (by omega))) (by
                                                                                          show zcpd f g18 11 12 0 0 8 12
                                                                                          exact zcpd_keep hR49_9 (fun x j hj => by subst qm18; exact zup_ne _ _ (by omega))) (by
                                                                                          exact zcpd_keep hR49_10 (fun x j hj => by subst qm18; exact zup_ne _ _ (by omega))) (by intro n j; subst qm18; exact (zup_ne _ _ (by omega)).trans (hR49_11 n j)) (by have qc0 : (0 : Int32).toInt = 0 := (by decide); omega)
        · skip
          have rr19 : a49_2.toInt < v14.toInt := by simp only [z32lt, z32le, z32eq] at h54_14; omega
          have b20x : zB a49_2 0 7 := by have q1 := b49_2; have q2 := b14x; simp only [z32lt, z32le, z32eq, Int32.reduceToInt, Int32.toInt_zero] at h54_14; constructor <;> omega
          have b21x : zB v14 1 8 := by have q1 := b49_2; have q2 := b14x; simp only [z32lt, z32le, z32eq, Int32.reduceToInt, Int32.toInt_zero] at h54_14; constructor <;> omega
          have c22x : zB (g49_ 1 1 6) 1 8 := by first | assumption | (constructor <;> omega)
          refine z_aload_n (pc := 57) C dX8_copy_57 rfl ?_
          refine z_getR (pc := 58) C zf_X8_19 rfl rfl (by decide) dX8_copy_58 ?_
          refine z_iload_n (pc := 61) C dX8_copy_61 rfl ?_
          refine z_aald (pc := 62) C rfl ⟨rfl, by decide⟩ (by decide) (zIx b20x (by decide) (by decide)) dX8_copy_62 ?_
          refine w_grx (by have hq := zN b20x (by decide); show 8 * 1 + a49_2.toNatClampNeg < 16; omega) (fun m23 q23r h23x => ?_)
          have q23r : m23 = 8 * 1 + a49_2.toNatClampNeg := q23r
          have k23r : a49_2.toNatClampNeg = a49_2.toInt.toNat := rfl
          refine z_aload_n (pc := 63) C dX8_copy_63 rfl ?_
          refine z_getR (pc := 64) C zf_X8_19 rfl rfl (by decide) dX8_copy_64 ?_
          refine z_iload_n (pc := 67) C dX8_copy_67 rfl ?_
          refine z_aald (pc := 68) C rfl ⟨rfl, by decide⟩ (by decide) (zIx b20x (by decide) (by decide)) dX8_copy_68 ?_
          refine w_grx (by have hq := zN b20x (by decide); show 8 * 0 + a49_2.toNatClampNeg < 16; omega) (fun m24 q24r h24x => ?_)
          have q24r : m24 = 8 * 0 + a49_2.toNatClampNeg := q24r
          have k24r : a49_2.toNatClampNeg = a49_2.toInt.toNat := rfl
          refine z_callV (pc := 69) C zk_X8_57 (x_X1_copy _ _ m23 h23x m24 h24x (by omega) hI49_) rfl rfl h23x rfl rfl (Nat.le_of_ble_eq_true rfl) dX8_copy_69 (fun r25 g25 q25 => ?_)
          obtain ⟨rfl, hI25, hF25q, hp25_0, hp25_1⟩ := q25
          have hF25 := zFr.tr hF49_ hF25q (by decide)
          simp only [Option.toList, List.cons_append, List.nil_append]
          have ek25_1_1_5 : (g25 1 1 5).toInt = (g49_ 1 1 5).toInt := by rw [hF25q 1 1 5 rfl]
          have c25_1_1_5x : zB (g25 1 1 5) 0 24 := by first | exact zB.eqv ek25_1_1_5 f49_1_1_5 | (have q9 := f49_1_1_5; constructor <;> omega)
          have ek25_1_1_6 : (g25 1 1 6).toInt = (g49_ 1 1 6).toInt := by rw [hF25q 1 1 6 rfl]
          have c25_1_1_6x : zB (g25 1 1 6) 1 8 := by first | exact zB.eqv ek25_1_1_6 c22x | (have q9 := c22x; constructor <;> omega)
          have ek25_1_1_7 : (g25 1 1 7).toInt = (g49_ 1 1 7).toInt := by rw [hF25q 1 1 7 rfl]
          have c25_1_1_7x : zB (g25 1 1 7) 0 12 := by first | exact zB.eqv ek25_1_1_7 f49_1_1_7 | (have q9 := f49_1_1_7; constructor <;> omega)
          have ek25_1_1_8 : (g25 1 1 8).toInt = (g49_ 1 1 8).toInt := by rw [hF25q 1 1 8 rfl]
          have c25_1_1_8x : zB (g25 1 1 8) 0 8 := by first | exact zB.eqv ek25_1_1_8 f49_1_1_8 | (have q9 := f49_1_1_8; constructor <;> omega)
          have ek25_1_0_5 : (g25 1 0 5).toInt = (g49_ 1 0 5).toInt := by rw [hF25q 1 0 5 rfl]
          have c25_1_0_5x : zB (g25 1 0 5) 0 24 := by first | exact zB.eqv ek25_1_0_5 f49_1_0_5 | (have q9 := f49_1_0_5; constructor <;> omega)
          have ek25_1_0_6 : (g25 1 0 6).toInt = (g49_ 1 0 6).toInt := by rw [hF25q 1 0 6 rfl]
          have c25_1_0_6x : zB (g25 1 0 6) 0 8 := by first | exact zB.eqv ek25_1_0_6 f49_1_0_6 | (have q9 := f49_1_0_6; constructor <;> omega)
          have ek25_1_0_7 : (g25 1 0 7).toInt = (g49_ 1 0 7).toInt := by rw [hF25q 1 0 7 rfl]
          have c25_1_0_7x : zB (g25 1 0 7) 0 12 := by first | exact zB.eqv ek25_1_0_7 f49_1_0_7 | (have q9 := f49_1_0_7; constructor <;> omega)
          have ek25_1_0_8 : (g25 1 0 8).toInt = (g49_ 1 0 8).toInt := by rw [hF25q 1 0 8 rfl]
          have c25_1_0_8x : zB (g25 1 0 8) 0 8 := by first | exact zB.eqv ek25_1_0_8 f49_1_0_8 | (have q9 := f49_1_0_8; constructor <;> omega)
          refine z_aload_n (pc := 72) C dX8_copy_72 rfl ?_
          refine z_iload_n (pc := 73) C dX8_copy_73 rfl ?_
          refine z_callV (pc := 74) C zk_X8_60 (w_X8_learnAgain_1 _ _ a49_2 b20x hI25) rfl rfl (by decide) rfl rfl (Nat.le_of_ble_eq_true rfl) dX8_copy_74 (fun r26 g26 q26 => ?_)
          obtain ⟨rfl, hI26, hF26q⟩ := q26
          have hF26 := zFr.tr hF25 hF26q (by decide)
          simp only [Option.toList, List.cons_append, List.nil_append]
          have ek26_1_1_5 : (g26 1 1 5).toInt = (g25 1 1 5).toInt := by rw [hF26q 1 1 5 rfl]
          have c26_1_1_5x : zB (g26 1 1 5) 0 24 := by first | exact zB.eqv ek26_1_1_5 c25_1_1_5x | (have q9 := c25_1_1_5x; constructor <;> omega)
          have ek26_1_1_6 : (g26 1 1 6).toInt = (g25 1 1 6).toInt := by rw [hF26q 1 1 6 rfl]
          have c26_1_1_6x : zB (g26 1 1 6) 1 8 := by first | exact zB.eqv ek26_1_1_6 c25_1_1_6x | (have q9 := c25_1_1_6x; constructor <;> omega)
          have ek26_1_1_7 : (g26 1 1 7).toInt = (g25 1 1 7).toInt := by rw [hF26q 1 1 7 rfl]
          have c26_1_1_7x : zB (g26 1 1 7) 0 12 := by first | exact zB.eqv ek26_1_1_7 c25_1_1_7x | (have q9 := c25_1_1_7x; constructor <;> omega)
          have ek26_1_1_8 : (g26 1 1 8).toInt = (g25 1 1 8).toInt := by rw [hF26q 1 1 8 rfl]
          have c26_1_1_8x : zB (g26 1 1 8) 0 8 := by first | exact zB.eqv ek26_1_1_8 c25_1_1_8x | (have q9 := c25_1_1_8x; constructor <;> omega)
          have ek26_1_0_5 : (g26 1 0 5).toInt = (g25 1 0 5).toInt := by rw [hF26q 1 0 5 rfl]
          have c26_1_0_5x : zB (g26 1 0 5) 0 24 := by first | exact zB.eqv ek26_1_0_5 c25_1_0_5x | (have q9 := c25_1_0_5x; constructor <;> omega)
          have ek26_1_0_6 : (g26 1 0 6).toInt = (g25 1 0 6).toInt := by rw [hF26q 1 0 6 rfl]
          have c26_1_0_6x : zB (g26 1 0 6) 0 8 := by first | exact zB.eqv ek26_1_0_6 c25_1_0_6x | (have q9 := c25_1_0_6x; constructor <;> omega)
          have ek26_1_0_7 : (g26 1 0 7).toInt = (g25 1 0 7).toInt := by rw [hF26q 1 0 7 rfl]
          have c26_1_0_7x : zB (g26 1 0 7) 0 12 := by first | exact zB.eqv ek26_1_0_7 c25_1_0_7x | (have q9 := c25_1_0_7x; constructor <;> omega)
          have ek26_1_0_8 : (g26 1 0 8).toInt = (g25 1 0 8).toInt := by rw [hF26q 1 0 8 rfl]
          have c26_1_0_8x : zB (g26 1 0 8) 0 8 := by first | exact zB.eqv ek26_1_0_8 c25_1_0_8x | (have q9 := c25_1_0_8x; constructor <;> omega)
          refine z_iinc (pc := 77) (v := 1) C dX8_copy_77 rfl (by decide) (by rw [hn]; decide) rfl ?_
          obtain ⟨v27, hv27, e27⟩ : ∃ v : Int32, v = a49_2 + 1 ∧ v.toInt = a49_2.toInt + 1 := ⟨_, rfl, zadd_eb b20x (zB.of (x := 1) 1 (by decide)) (by decide) (by decide)⟩
          rw [← hv27]
          have b27x : zB v27 1 8 := by have q9 := b20x; constructor <;> omega
          refine z_goto (pc := 80) 49 C dX8_copy_80 (by decide) ?_
          exact ih1 v27 (zB.wk (a' := 0) (b' := 8) b27x (by decide) (by decide)) g26 hI26 hF26 c26_1_0_5x c26_1_0_6x c26_1_0_7x c26_1_0_8x c26_1_1_5x (zB.wk c26_1_1_6x (by decide) (by decide)) c26_1_1_7x c26_1_1_8x (by omega) (by omega) (by omega) (by omega) (by omega) (by omega) (by omega) (by
                                                                                          exact zcpd_keep hR49_7 (fun x j hj => (hF26q 7 x j rfl).trans (hF25q 7 x j rfl))) (by
                                                                                          have hn : (v27).toInt.toNat = a49_2.toInt.toNat + 1 := by omega
                                                                                          rw [hn]
                                                                                          have hm0 : m23 = 8 + a49_2.toInt.toNat := by omega
                                                                                          have hm1 : m24 = 0 + a49_2.toInt.toNat := by omega
                                                                                          have e0 : ∀ x j, j < 5 → g26 8 x j = g25 8 x j := fun x j hj => hF26q 8 x j (by rcases (show j = 0 ∨ j = 1 ∨ j = 2 ∨ j = 3 ∨ j = 4 by omega) with rfl | rfl | rfl | rfl | rfl <;> rfl)
                                                                                          refine zcpd_s hR49_8 (by omega) (by omega) (fun j hj => ?_) (fun x j hx hj => ?_)
                                                                                          · rw [e0 _ j hj, ← hm0, ← hm1]; exact hp25_0 j hj
                                                                                          · rw [e0 _ j hj]; exact hp25_1 x j (by omega)) (by
                                                                                          exact zcpd_keep hR49_9 (fun x j hj => (hF26q 11 x j rfl).trans (hF25q 11 x j rfl))) (by
                                                                                          exact zcpd_keep hR49_10 (fun x j hj => (hF26q 12 x j rfl).trans (hF25q 12 x j rfl))) (by intro n j; exact ((hF26q 6 n j rfl).trans (hF25q 6 n j rfl)).trans (hR49_11 n j)) (by omega)
      · skip
        intro a93_2 b93_2 g93_ hI93_ hF93_ f93_1_0_5 f93_1_0_6 f93_1_0_7 f93_1_0_8 f93_1_1_5 f93_1_1_6 f93_1_1_7 f93_1_1_8 hR93_0 hR93_1 hR93_2 hR93_3 hR93_4 hR93_5 hR93_6 hR93_7 hR93_8 hR93_9 hR93_10 hR93_11 hR93_12 hM93_
        refine z_iload_n (pc := 93) C dX8_copy_93 rfl ?_
        refine z_aload_n (pc := 94) C dX8_copy_94 rfl ?_
        refine z_getI (pc := 95) C zf_X8_64 rfl rfl (by decide) dX8_copy_95 ?_
        refine w_gp (fun v => v = g93_ 1 1 7) rfl (fun v28 q28 => ?_)
        have e28 : v28.toInt = (g93_ 1 1 7).toInt := by rw [q28]
        have b28x : zB v28 0 12 := by first | exact zB.eqv e28 f93_1_1_7 | (have q9 := f93_1_1_7; constructor <;> omega)
        refine z_icmp_ge (pc := 98) 122 C dX8_copy_98 (by decide) (fun h98_28 => ?_) (fun h98_28 => ?_)
        · skip
          have rr30 : a93_2.toInt ≥ v28.toInt := by simp only [z32lt, z32le, z32eq] at h98_28; omega
          refine z_aload_n (pc := 122) C dX8_copy_122 rfl ?_
          refine z_aload_n (pc := 123) C dX8_copy_123 rfl ?_
          refine z_getI (pc := 124) C zf_X8_70 rfl rfl (by decide) dX8_copy_124 ?_
          refine w_gp (fun v => v = g93_ 1 0 8) rfl (fun v31 q31 => ?_)
          have e31 : v31.toInt = (g93_ 1 0 8).toInt := by rw [q31]
          have b31x : zB v31 0 8 := by first | exact zB.eqv e31 f93_1_0_8 | (have q9 := f93_1_0_8; constructor <;> omega)
          refine z_putI (pc := 127) C zf_X8_70 zp_8_8 rfl rfl (by decide) dX8_copy_127 ?_
          refine w_memx hI93_ hF93_ b31x rfl (fun g32 qm32 hI32 hF32 hq32 hx32 => ?_)
          have ek32_1_1_5 : (g32 1 1 5).toInt = (g93_ 1 1 5).toInt := by rw [hq32 1 1 5 (by omega)]
          have c32_1_1_5x : zB (g32 1 1 5) 0 24 := by first | exact zB.eqv ek32_1_1_5 f93_1_1_5 | (have q9 := f93_1_1_5; constructor <;> omega)
          have ek32_1_1_6 : (g32 1 1 6).toInt = (g93_ 1 1 6).toInt := by rw [hq32 1 1 6 (by omega)]
          have c32_1_1_6x : zB (g32 1 1 6) 0 8 := by first | exact zB.eqv ek32_1_1_6 f93_1_1_6 | (have q9 := f93_1_1_6; constructor <;> omega)
          have ek32_1_1_7 : (g32 1 1 7).toInt = (g93_ 1 1 7).toInt := by rw [hq32 1 1 7 (by omega)]
          have c32_1_1_7x : zB (g32 1 1 7) 0 12 := by first | exact zB.eqv ek32_1_1_7 f93_1_1_7 | (have q9 := f93_1_1_7; constructor <;> omega)
          have ec32 : (g32 1 1 8).toInt = v31.toInt := by rw [hx32]
          have c32x : zB (g32 1 1 8) 0 8 := by first | exact zB.eqv ec32 b31x | (have q9 := b31x; constructor <;> omega)
          have ek32_1_0_5 : (g32 1 0 5).toInt = (g93_ 1 0 5).toInt := by rw [hq32 1 0 5 (by omega)]
          have c32_1_0_5x : zB (g32 1 0 5) 0 24 := by first | exact zB.eqv ek32_1_0_5 f93_1_0_5 | (have q9 := f93_1_0_5; constructor <;> omega)
          have ek32_1_0_6 : (g32 1 0 6).toInt = (g93_ 1 0 6).toInt := by rw [hq32 1 0 6 (by omega)]
          have c32_1_0_6x : zB (g32 1 0 6) 0 8 := by first | exact zB.eqv ek32_1_0_6 f93_1_0_6 | (have q9 := f93_1_0_6; constructor <;> omega)
          have ek32_1_0_7 : (g32 1 0 7).toInt = (g93_ 1 0 7).toInt := by rw [hq32 1 0 7 (by omega)]
          have c32_1_0_7x : zB (g32 1 0 7) 0 12 := by first | exact zB.eqv ek32_1_0_7 f93_1_0_7 | (have q9 := f93_1_0_7; constructor <;> omega)
          have ek32_1_0_8 : (g32 1 0 8).toInt = (g93_ 1 0 8).toInt := by rw [(show g32 1 0 8 = g93_ 1 0 8 by rw [qm32]; exact zup_ne _ _ (by omega))]
          have c32_1_0_8x : zB (g32 1 0 8) 0 8 := by first | exact zB.eqv ek32_1_0_8 f93_1_0_8 | (have q9 := f93_1_0_8; constructor <;> omega)
          refine z_iconst (pc := 130) (v := 0) C dX8_copy_130 (by decide) ?_
          refine z_istore_n (pc := 131) C dX8_copy_131 (by rw [hn]; decide) rfl ?_
          exact ih3 0 (zB.wk (a' := 0) (b' := 8) (zB.of (x := 0) 0 (by decide)) (by decide) (by decide)) g32 hI32 hF32 c32_1_0_5x c32_1_0_6x c32_1_0_7x c32_1_0_8x c32_1_1_5x c32_1_1_6x c32_1_1_7x c32x (by have qc0 : (0 : Int32).toInt = 0 := (by decide); omega) (by have qc0 : (0 : Int32).toInt = 0 := (by decide); omega) (by have qc0 : (0 : Int32).toInt = 0 := (by decide); omega) (by have qc0 : (0 : Int32).toInt = 0 := (by decide); omega) (by have qc0 : (0 : Int32).toInt = 0 := (by decide); omega) (by have qc0 : (0 : Int32).toInt = 0 := (by decide); omega) (by have qc0 : (0 : Int32).toInt = 0 := (by decide); omega) (by have qc0 : (0 : Int32).toInt = 0 := (by decide); omega) (by have qc0 : (0 : Int32).toInt = 0 := (by decide); omega) (by
                                                                                          exact zcpd_keep hR93_8 (fun x j hj => by subst qm32; exact zup_ne _ _ (by omega))) (by
                                                                                          exact zcpd_keep hR93_9 (fun x j hj => by subst qm32; exact zup_ne _ _ (by omega))) (by
                                                                                          have hz : (f 1 0 7).toInt.toNat = a93_2.toInt.toNat := by omega
                                                                                          rw [hz]
                                                                                          exact zcpd_keep hR93_10 (fun x j hj => by subst qm32; exact zup_ne _ _ (by omega))) (by
                                                                                          show zcpd f g32 12 8 0 0 3 8
                                                                                          exact zcpd_keep hR93_11 (fun x j hj => by subst qm32; exact zup_ne _ _ (by omega))) (by intro n j; subst qm32; exact (zup_ne _ _ (by omega)).trans (hR93_12 n j)) (by have qc0 : (0 : Int32).toInt = 0 := (by decide); omega)
        · skip
          have rr33 : a93_2.toInt < v28.toInt := by simp only [z32lt, z32le, z32eq] at h98_28; omega
          have b34x : zB a93_2 0 11 := by have q1 := b93_2; have q2 := b28x; simp only [z32lt, z32le, z32eq, Int32.reduceToInt, Int32.toInt_zero] at h98_28; constructor <;> omega
          have b35x : zB v28 1 12 := by have q1 := b93_2; have q2 := b28x; simp only [z32lt, z32le, z32eq, Int32.reduceToInt, Int32.toInt_zero] at h98_28; constructor <;> omega
          have c36x : zB (g93_ 1 1 7) 1 12 := by first | assumption | (constructor <;> omega)
          refine z_aload_n (pc := 101) C dX8_copy_101 rfl ?_
          refine z_getR (pc := 102) C zf_X8_25 rfl rfl (by decide) dX8_copy_102 ?_
          refine z_iload_n (pc := 105) C dX8_copy_105 rfl ?_
          refine z_aald (pc := 106) C rfl ⟨rfl, by decide⟩ (by decide) (zIx b34x (by decide) (by decide)) dX8_copy_106 ?_
          refine w_grx (by have hq := zN b34x (by decide); show 12 * 1 + a93_2.toNatClampNeg < 36; omega) (fun m37 q37r h37x => ?_)
          have q37r : m37 = 12 * 1 + a93_2.toNatClampNeg := q37r
          have k37r : a93_2.toNatClampNeg = a93_2.toInt.toNat := rfl
          refine z_aload_n (pc := 107) C dX8_copy_107 rfl ?_
          refine z_getR (pc := 108) C zf_X8_25 rfl rfl (by decide) dX8_copy_108 ?_
          refine z_iload_n (pc := 111) C dX8_copy_111 rfl ?_
          refine z_aald (pc := 112) C rfl ⟨rfl, by decide⟩ (by decide) (zIx b34x (by decide) (by decide)) dX8_copy_112 ?_
          refine w_grx (by have hq := zN b34x (by decide); show 12 * 0 + a93_2.toNatClampNeg < 36; omega) (fun m38 q38r h38x => ?_)
          have q38r : m38 = 12 * 0 + a93_2.toNatClampNeg := q38r
          have k38r : a93_2.toNatClampNeg = a93_2.toInt.toNat := rfl
          refine z_callV (pc := 113) C zk_X8_67 (x_X4_copy _ _ m37 h37x m38 h38x (by omega) hI93_) rfl rfl h37x rfl rfl (Nat.le_of_ble_eq_true rfl) dX8_copy_113 (fun r39 g39 q39 => ?_)
          obtain ⟨rfl, hI39, hF39q, hp39_0, hp39_1⟩ := q39
          have hF39 := zFr.tr hF93_ hF39q (by decide)
          simp only [Option.toList, List.cons_append, List.nil_append]
          have ek39_1_1_5 : (g39 1 1 5).toInt = (g93_ 1 1 5).toInt := by rw [hF39q 1 1 5 rfl]
          have c39_1_1_5x : zB (g39 1 1 5) 0 24 := by first | exact zB.eqv ek39_1_1_5 f93_1_1_5 | (have q9 := f93_1_1_5; constructor <;> omega)
          have ek39_1_1_6 : (g39 1 1 6).toInt = (g93_ 1 1 6).toInt := by rw [hF39q 1 1 6 rfl]
          have c39_1_1_6x : zB (g39 1 1 6) 0 8 := by first | exact zB.eqv ek39_1_1_6 f93_1_1_6 | (have q9 := f93_1_1_6; constructor <;> omega)
          have ek39_1_1_7 : (g39 1 1 7).toInt = (g93_ 1 1 7).toInt := by rw [hF39q 1 1 7 rfl]
          have c39_1_1_7x : zB (g39 1 1 7) 1 12 := by first | exact zB.eqv ek39_1_1_7 c36x | (have q9 := c36x; constructor <;> omega)
          have ek39_1_1_8 : (g39 1 1 8).toInt = (g93_ 1 1 8).toInt := by rw [hF39q 1 1 8 rfl]
          have c39_1_1_8x : zB (g39 1 1 8) 0 8 := by first | exact zB.eqv ek39_1_1_8 f93_1_1_8 | (have q9 := f93_1_1_8; constructor <;> omega)
          have ek39_1_0_5 : (g39 1 0 5).toInt = (g93_ 1 0 5).toInt := by rw [hF39q 1 0 5 rfl]
          have c39_1_0_5x : zB (g39 1 0 5) 0 24 := by first | exact zB.eqv ek39_1_0_5 f93_1_0_5 | (have q9 := f93_1_0_5; constructor <;> omega)
          have ek39_1_0_6 : (g39 1 0 6).toInt = (g93_ 1 0 6).toInt := by rw [hF39q 1 0 6 rfl]
          have c39_1_0_6x : zB (g39 1 0 6) 0 8 := by first | exact zB.eqv ek39_1_0_6 f93_1_0_6 | (have q9 := f93_1_0_6; constructor <;> omega)
          have ek39_1_0_7 : (g39 1 0 7).toInt = (g93_ 1 0 7).toInt := by rw [hF39q 1 0 7 rfl]
          have c39_1_0_7x : zB (g39 1 0 7) 0 12 := by first | exact zB.eqv ek39_1_0_7 f93_1_0_7 | (have q9 := f93_1_0_7; constructor <;> omega)
          have ek39_1_0_8 : (g39 1 0 8).toInt = (g93_ 1 0 8).toInt := by rw [hF39q 1 0 8 rfl]
          have c39_1_0_8x : zB (g39 1 0 8) 0 8 := by first | exact zB.eqv ek39_1_0_8 f93_1_0_8 | (have q9 := f93_1_0_8; constructor <;> omega)
          refine z_iinc (pc := 116) (v := 1) C dX8_copy_116 rfl (by decide) (by rw [hn]; decide) rfl ?_
          obtain ⟨v40, hv40, e40⟩ : ∃ v : Int32, v = a93_2 + 1 ∧ v.toInt = a93_2.toInt + 1 := ⟨_, rfl, zadd_eb b34x (zB.of (x := 1) 1 (by decide)) (by decide) (by decide)⟩
          rw [← hv40]
          have b40x : zB v40 1 12 := by have q9 := b34x; constructor <;> omega
          refine z_goto (pc := 119) 93 C dX8_copy_119 (by decide) ?_
          exact ih2 v40 (zB.wk (a' := 0) (b' := 12) b40x (by decide) (by decide)) g39 hI39 hF39 c39_1_0_5x c39_1_0_6x c39_1_0_7x c39_1_0_8x c39_1_1_5x c39_1_1_6x (zB.wk c39_1_1_7x (by decide) (by decide)) c39_1_1_8x (by omega) (by omega) (by omega) (by omega) (by omega) (by omega) (by omega) (by omega) (by
                                                                                          exact zcpd_keep hR93_8 (fun x j hj => hF39q 7 x j rfl)) (by
                                                                                          exact zcpd_keep hR93_9 (fun x j hj => hF39q 8 x j rfl)) (by
                                                                                          have hn : (v40).toInt.toNat = a93_2.toInt.toNat + 1 := by omega
                                                                                          rw [hn]
                                                                                          have hm0 : m37 = 12 + a93_2.toInt.toNat := by omega
                                                                                          have hm1 : m38 = 0 + a93_2.toInt.toNat := by omega
                                                                                          refine zcpd_s hR93_10 (by omega) (by omega) (fun j hj => ?_) (fun x j hx hj => ?_)
                                                                                          · rw [← hm0, ← hm1]; exact hp39_0 j hj
                                                                                          · exact hp39_1 x j (by omega)) (by
                                                                                          exact zcpd_keep hR93_11 (fun x j hj => hF39q 12 x j rfl)) (by intro n j; exact (hF39q 6 n j rfl).trans (hR93_12 n j)) (by omega)
      · skip
        intro a132_2 b132_2 g132_ hI132_ hF132_ f132_1_0_5 f132_1_0_6 f132_1_0_7 f132_1_0_8 f132_1_1_5 f132_1_1_6 f132_1_1_7 f132_1_1_8 hR132_0 hR132_1 hR132_2 hR132_3 hR132_4 hR132_5 hR132_6 hR132_7 hR132_8 hR132_9 hR132_10 hR132_11 hR132_12 hR132_13 hM132_
        refine z_iload_n (pc := 132) C dX8_copy_132 rfl ?_
        refine z_aload_n (pc := 133) C dX8_copy_133 rfl ?_
        refine z_getI (pc := 134) C zf_X8_70 rfl rfl (by decide) dX8_copy_134 ?_
        refine w_gp (fun v => v = g132_ 1 1 8) rfl (fun v41 q41 => ?_)
        have e41 : v41.toInt = (g132_ 1 1 8).toInt := by rw [q41]
        have b41x : zB v41 0 8 := by first | exact zB.eqv e41 f132_1_1_8 | (have q9 := f132_1_1_8; constructor <;> omega)
        refine z_icmp_ge (pc := 137) 182 C dX8_copy_137 (by decide) (fun h137_41 => ?_) (fun h137_41 => ?_)
        · skip
          have rr43 : a132_2.toInt ≥ v41.toInt := by simp only [z32lt, z32le, z32eq] at h137_41; omega
          refine z_aload_n (pc := 182) C dX8_copy_182 rfl ?_
          refine z_getR (pc := 183) C zf_X8_38 rfl rfl (by decide) dX8_copy_183 ?_
          refine z_aload_n (pc := 186) C dX8_copy_186 rfl ?_
          refine z_getR (pc := 187) C zf_X8_38 rfl rfl (by decide) dX8_copy_187 ?_
          refine z_callV (pc := 190) C zk_X8_85 (x_X3_copy _ _ 1 (by decide) 0 (by decide) (by decide) hI132_) rfl rfl (by decide) rfl rfl (Nat.le_of_ble_eq_true rfl) dX8_copy_190 (fun r44 g44 q44 => ?_)
          obtain ⟨rfl, hI44, hF44q, hp44_0, hp44_1⟩ := q44
          have hF44 := zFr.tr hF132_ hF44q (by decide)
          simp only [Option.toList, List.cons_append, List.nil_append]
          have ek44_1_1_5 : (g44 1 1 5).toInt = (g132_ 1 1 5).toInt := by rw [hF44q 1 1 5 rfl]
          have c44_1_1_5x : zB (g44 1 1 5) 0 24 := by first | exact zB.eqv ek44_1_1_5 f132_1_1_5 | (have q9 := f132_1_1_5; constructor <;> omega)
          have ek44_1_1_6 : (g44 1 1 6).toInt = (g132_ 1 1 6).toInt := by rw [hF44q 1 1 6 rfl]
          have c44_1_1_6x : zB (g44 1 1 6) 0 8 := by first | exact zB.eqv ek44_1_1_6 f132_1_1_6 | (have q9 := f132_1_1_6; constructor <;> omega)
          have ek44_1_1_7 : (g44 1 1 7).toInt = (g132_ 1 1 7).toInt := by rw [hF44q 1 1 7 rfl]
          have c44_1_1_7x : zB (g44 1 1 7) 0 12 := by first | exact zB.eqv ek44_1_1_7 f132_1_1_7 | (have q9 := f132_1_1_7; constructor <;> omega)
          have ek44_1_1_8 : (g44 1 1 8).toInt = (g132_ 1 1 8).toInt := by rw [hF44q 1 1 8 rfl]
          have c44_1_1_8x : zB (g44 1 1 8) 0 8 := by first | exact zB.eqv ek44_1_1_8 f132_1_1_8 | (have q9 := f132_1_1_8; constructor <;> omega)
          have ek44_1_0_5 : (g44 1 0 5).toInt = (g132_ 1 0 5).toInt := by rw [hF44q 1 0 5 rfl]
          have c44_1_0_5x : zB (g44 1 0 5) 0 24 := by first | exact zB.eqv ek44_1_0_5 f132_1_0_5 | (have q9 := f132_1_0_5; constructor <;> omega)
          have ek44_1_0_6 : (g44 1 0 6).toInt = (g132_ 1 0 6).toInt := by rw [hF44q 1 0 6 rfl]
          have c44_1_0_6x : zB (g44 1 0 6) 0 8 := by first | exact zB.eqv ek44_1_0_6 f132_1_0_6 | (have q9 := f132_1_0_6; constructor <;> omega)
          have ek44_1_0_7 : (g44 1 0 7).toInt = (g132_ 1 0 7).toInt := by rw [hF44q 1 0 7 rfl]
          have c44_1_0_7x : zB (g44 1 0 7) 0 12 := by first | exact zB.eqv ek44_1_0_7 f132_1_0_7 | (have q9 := f132_1_0_7; constructor <;> omega)
          have ek44_1_0_8 : (g44 1 0 8).toInt = (g132_ 1 0 8).toInt := by rw [hF44q 1 0 8 rfl]
          have c44_1_0_8x : zB (g44 1 0 8) 0 8 := by first | exact zB.eqv ek44_1_0_8 f132_1_0_8 | (have q9 := f132_1_0_8; constructor <;> omega)
          exact z_vret (pc := 193) C hr dX8_copy_193 ⟨rfl, hI44, hF44, (by rw [z32eq]; omega), (by rw [z32eq]; omega), (by rw [z32eq]; omega), (by rw [z32eq]; omega), (by rw [z32eq]; omega), (by rw [z32eq]; omega), (by rw [z32eq]; omega), (by rw [z32eq]; omega), (by
                                                                                          exact zcpd_keep hR132_9 (fun x j hj => hF44q 7 x j rfl)), (by
                                                                                          exact zcpd_keep hR132_10 (fun x j hj => hF44q 8 x j rfl)), (by
                                                                                          exact zcpd_keep hR132_11 (fun x j hj => hF44q 11 x j rfl)), (by
                                                                                          have hz : (f 1 0 8).toInt.toNat = a132_2.toInt.toNat := by omega
                                                                                          rw [hz]
                                                                                          exact zcpd_keep hR132_12 (fun x j hj => hF44q 12 x j rfl)), (by
                                                                                          intro j hj
                                                                                          rw [hp44_0 j hj]
                                                                                          exact hR132_13 0 j), (by
                                                                                          intro j hj
                                                                                          rw [hp44_1 0 j (by decide)]
                                                                                          exact hR132_13 0 j)⟩
        · skip
          have rr45 : a132_2.toInt < v41.toInt := by simp only [z32lt, z32le, z32eq] at h137_41; omega
          have b46x : zB a132_2 0 7 := by have q1 := b132_2; have q2 := b41x; simp only [z32lt, z32le, z32eq, Int32.reduceToInt, Int32.toInt_zero] at h137_41; constructor <;> omega
          have b47x : zB v41 1 8 := by have q1 := b132_2; have q2 := b41x; simp only [z32lt, z32le, z32eq, Int32.reduceToInt, Int32.toInt_zero] at h137_41; constructor <;> omega
          have c48x : zB (g132_ 1 1 8) 1 8 := by first | assumption | (constructor <;> omega)
          refine z_aload_n (pc := 140) C dX8_copy_140 rfl ?_
          refine z_getR (pc := 141) C zf_X8_31 rfl rfl (by decide) dX8_copy_141 ?_
          refine z_iload_n (pc := 144) C dX8_copy_144 rfl ?_
          refine z_aald (pc := 145) C rfl ⟨rfl, by decide⟩ (by decide) (zIx b46x (by decide) (by decide)) dX8_copy_145 ?_
          refine w_grx (by have hq := zN b46x (by decide); show 8 * 1 + a132_2.toNatClampNeg < 16; omega) (fun m49 q49r h49x => ?_)
          have q49r : m49 = 8 * 1 + a132_2.toNatClampNeg := q49r
          have k49r : a132_2.toNatClampNeg = a132_2.toInt.toNat := rfl
          refine z_aload_n (pc := 146) C dX8_copy_146 rfl ?_
          refine z_getR (pc := 147) C zf_X8_31 rfl rfl (by decide) dX8_copy_147 ?_
          refine z_iload_n (pc := 150) C dX8_copy_150 rfl ?_
          refine z_aald (pc := 151) C rfl ⟨rfl, by decide⟩ (by decide) (zIx b46x (by decide) (by decide)) dX8_copy_151 ?_
          refine w_grx (by have hq := zN b46x (by decide); show 8 * 0 + a132_2.toNatClampNeg < 16; omega) (fun m50 q50r h50x => ?_)
          have q50r : m50 = 8 * 0 + a132_2.toNatClampNeg := q50r
          have k50r : a132_2.toNatClampNeg = a132_2.toInt.toNat := rfl
          refine z_getI (pc := 152) C zf_X8_73 rfl rfl h50x dX8_copy_152 ?_
          refine w_gp (fun v => v = g132_ 12 m50 0) rfl (fun v52 q52 => ?_)
          have b52x : zB v52 0 5 := by rw [q52]; exact (hI132_ 12 m50 0)
          refine z_aload_n (pc := 155) C dX8_copy_155 rfl ?_
          refine z_getR (pc := 156) C zf_X8_31 rfl rfl (by decide) dX8_copy_156 ?_
          refine z_iload_n (pc := 159) C dX8_copy_159 rfl ?_
          refine z_aald (pc := 160) C rfl ⟨rfl, by decide⟩ (by decide) (zIx b46x (by decide) (by decide)) dX8_copy_160 ?_
          refine w_grx (by have hq := zN b46x (by decide); show 8 * 0 + a132_2.toNatClampNeg < 16; omega) (fun m53 q53r h53x => ?_)
          have q53r : m53 = 8 * 0 + a132_2.toNatClampNeg := q53r
          have k53r : a132_2.toNatClampNeg = a132_2.toInt.toNat := rfl
          refine z_getI (pc := 161) C zf_X8_76 rfl rfl h53x dX8_copy_161 ?_
          refine w_gp (fun v => v = g132_ 12 m53 1) rfl (fun v55 q55 => ?_)
          have b55x : zB v55 0 255 := by rw [q55]; exact (hI132_ 12 m53 1)
          refine z_aload_n (pc := 164) C dX8_copy_164 rfl ?_
          refine z_getR (pc := 165) C zf_X8_31 rfl rfl (by decide) dX8_copy_165 ?_
          refine z_iload_n (pc := 168) C dX8_copy_168 rfl ?_
          refine z_aald (pc := 169) C rfl ⟨rfl, by decide⟩ (by decide) (zIx b46x (by decide) (by decide)) dX8_copy_169 ?_
          refine w_grx (by have hq := zN b46x (by decide); show 8 * 0 + a132_2.toNatClampNeg < 16; omega) (fun m56 q56r h56x => ?_)
          have q56r : m56 = 8 * 0 + a132_2.toNatClampNeg := q56r
          have k56r : a132_2.toNatClampNeg = a132_2.toInt.toNat := rfl
          refine z_getI (pc := 170) C zf_X8_78 rfl rfl h56x dX8_copy_170 ?_
          refine w_gp (fun v => v = g132_ 12 m56 2) rfl (fun v58 q58 => ?_)
          have b58x : zB v58 0 99 := by rw [q58]; exact (hI132_ 12 m56 2)
          refine z_callV (pc := 173) C zk_X8_81 (x_X2_tell _ _ m49 h49x v52 b52x v55 b55x v58 b58x hI132_) rfl rfl h49x rfl rfl (Nat.le_of_ble_eq_true rfl) dX8_copy_173 (fun r59 g59 q59 => ?_)
          obtain ⟨rfl, hI59, hF59q, hp59_0⟩ := q59
          have hF59 := zFr.tr hF132_ hF59q (by decide)
          simp only [Option.toList, List.cons_append, List.nil_append]
          have ek59_1_1_5 : (g59 1 1 5).toInt = (g132_ 1 1 5).toInt := by rw [hF59q 1 1 5 rfl]
          have c59_1_1_5x : zB (g59 1 1 5) 0 24 := by first | exact zB.eqv ek59_1_1_5 f132_1_1_5 | (have q9 := f132_1_1_5; constructor <;> omega)
          have ek59_1_1_6 : (g59 1 1 6).toInt = (g132_ 1 1 6).toInt := by rw [hF59q 1 1 6 rfl]
          have c59_1_1_6x : zB (g59 1 1 6) 0 8 := by first | exact zB.eqv ek59_1_1_6 f132_1_1_6 | (have q9 := f132_1_1_6; constructor <;> omega)
          have ek59_1_1_7 : (g59 1 1 7).toInt = (g132_ 1 1 7).toInt := by rw [hF59q 1 1 7 rfl]
          have c59_1_1_7x : zB (g59 1 1 7) 0 12 := by first | exact zB.eqv ek59_1_1_7 f132_1_1_7 | (have q9 := f132_1_1_7; constructor <;> omega)
          have ek59_1_1_8 : (g59 1 1 8).toInt = (g132_ 1 1 8).toInt := by rw [hF59q 1 1 8 rfl]
          have c59_1_1_8x : zB (g59 1 1 8) 1 8 := by first | exact zB.eqv ek59_1_1_8 c48x | (have q9 := c48x; constructor <;> omega)
          have ek59_1_0_5 : (g59 1 0 5).toInt = (g132_ 1 0 5).toInt := by rw [hF59q 1 0 5 rfl]
          have c59_1_0_5x : zB (g59 1 0 5) 0 24 := by first | exact zB.eqv ek59_1_0_5 f132_1_0_5 | (have q9 := f132_1_0_5; constructor <;> omega)
          have ek59_1_0_6 : (g59 1 0 6).toInt = (g132_ 1 0 6).toInt := by rw [hF59q 1 0 6 rfl]
          have c59_1_0_6x : zB (g59 1 0 6) 0 8 := by first | exact zB.eqv ek59_1_0_6 f132_1_0_6 | (have q9 := f132_1_0_6; constructor <;> omega)
          have ek59_1_0_7 : (g59 1 0 7).toInt = (g132_ 1 0 7).toInt := by rw [hF59q 1 0 7 rfl]
          have c59_1_0_7x : zB (g59 1 0 7) 0 12 := by first | exact zB.eqv ek59_1_0_7 f132_1_0_7 | (have q9 := f132_1_0_7; constructor <;> omega)
          have ek59_1_0_8 : (g59 1 0 8).toInt = (g132_ 1 0 8).toInt := by rw [hF59q 1 0 8 rfl]
          have c59_1_0_8x : zB (g59 1 0 8) 0 8 := by first | exact zB.eqv ek59_1_0_8 f132_1_0_8 | (have q9 := f132_1_0_8; constructor <;> omega)
          refine z_iinc (pc := 176) (v := 1) C dX8_copy_176 rfl (by decide) (by rw [hn]; decide) rfl ?_
          obtain ⟨v60, hv60, e60⟩ : ∃ v : Int32, v = a132_2 + 1 ∧ v.toInt = a132_2.toInt + 1 := ⟨_, rfl, zadd_eb b46x (zB.of (x := 1) 1 (by decide)) (by decide) (by decide)⟩
          rw [← hv60]
          have b60x : zB v60 1 8 := by have q9 := b46x; constructor <;> omega
          refine z_goto (pc := 179) 132 C dX8_copy_179 (by decide) ?_
          exact ih3 v60 (zB.wk (a' := 0) (b' := 8) b60x (by decide) (by decide)) g59 hI59 hF59 c59_1_0_5x c59_1_0_6x c59_1_0_7x c59_1_0_8x c59_1_1_5x c59_1_1_6x c59_1_1_7x (zB.wk c59_1_1_8x (by decide) (by decide)) (by omega) (by omega) (by omega) (by omega) (by omega) (by omega) (by omega) (by omega) (by omega) (by
                                                                                          exact zcpd_keep hR132_9 (fun x j hj => hF59q 7 x j rfl)) (by
                                                                                          exact zcpd_keep hR132_10 (fun x j hj => hF59q 8 x j rfl)) (by
                                                                                          exact zcpd_keep hR132_11 (fun x j hj => hF59q 11 x j rfl)) (by
                                                                                          have hn : (v60).toInt.toNat = a132_2.toInt.toNat + 1 := by omega
                                                                                          rw [hn]
                                                                                          have hm0 : m49 = 8 + a132_2.toInt.toNat := by omega
                                                                                          have hg := hp59_0
                                                                                          have w1 : m50 = 0 + a132_2.toInt.toNat := by omega
                                                                                          have w2 : m53 = 0 + a132_2.toInt.toNat := by omega
                                                                                          have w3 : m56 = 0 + a132_2.toInt.toNat := by omega
                                                                                          have q1 := q52
                                                                                          have q2 := q55
                                                                                          have q3 := q58
                                                                                          rw [w1] at q1
                                                                                          rw [w2] at q2
                                                                                          rw [w3] at q3
                                                                                          refine zcpd_s hR132_12 (by omega) (by omega) (fun j hj => ?_) (fun x j hx hj => ?_)
                                                                                          · rw [← hm0, hg]
                                                                                            rcases (show j = 0 ∨ j = 1 ∨ j = 2 by omega) with rfl | rfl | rfl
                                                                                            · simpa [zup] using q1
                                                                                            · simpa [zup] using q2
                                                                                            · simpa [zup] using q3
                                                                                          · rw [hg, zup_ne _ _ (by omega), zup_ne _ _ (by omega), zup_ne _ _ (by omega)]) (by intro n j; exact (hF59q 6 n j rfl).trans (hR132_13 n j)) (by omega)
  obtain ⟨J0, J1, J2, J3⟩ := J 218409
  show Z X 0 [some (zr 1 1), some (zr 1 0), none] [] f
  refine z_aload_n (pc := 0) C dX8_copy_0 rfl ?_
  refine z_aload_n (pc := 1) C dX8_copy_1 rfl ?_
  refine z_getI (pc := 2) C zf_X8_46 rfl rfl (by decide) dX8_copy_2 ?_
  refine w_gp (fun v => v = f 1 0 5) rfl (fun v61 q61 => ?_)
  have e61 : v61.toInt = (f 1 0 5).toInt := by rw [q61]
  have b61x : zB v61 0 24 := by first | exact zB.eqv e61 ct1_0_5 | (have q9 := ct1_0_5; constructor <;> omega)
  refine z_putI (pc := 5) C zf_X8_46 zp_8_5 rfl rfl (by decide) dX8_copy_5 ?_
  refine w_memx hI hF b61x rfl (fun g62 qm62 hI62 hF62 hq62 hx62 => ?_)
  have ec62 : (g62 1 1 5).toInt = v61.toInt := by rw [hx62]
  have c62x : zB (g62 1 1 5) 0 24 := by first | exact zB.eqv ec62 b61x | (have q9 := b61x; constructor <;> omega)
  have ek62_1_1_6 : (g62 1 1 6).toInt = (f 1 1 6).toInt := by rw [hq62 1 1 6 (by omega)]
  have c62_1_1_6x : zB (g62 1 1 6) 0 8 := by first | exact zB.eqv ek62_1_1_6 ct1_1_6 | (have q9 := ct1_1_6; constructor <;> omega)
  have ek62_1_1_7 : (g62 1 1 7).toInt = (f 1 1 7).toInt := by rw [hq62 1 1 7 (by omega)]
  have c62_1_1_7x : zB (g62 1 1 7) 0 12 := by first | exact zB.eqv ek62_1_1_7 ct1_1_7 | (have q9 := ct1_1_7; constructor <;> omega)
  have ek62_1_1_8 : (g62 1 1 8).toInt = (f 1 1 8).toInt := by rw [hq62 1 1 8 (by omega)]
  have c62_1_1_8x : zB (g62 1 1 8) 0 8 := by first | exact zB.eqv ek62_1_1_8 ct1_1_8 | (have q9 := ct1_1_8; constructor <;> omega)
  have ek62_1_0_5 : (g62 1 0 5).toInt = (f 1 0 5).toInt := by rw [(show g62 1 0 5 = f 1 0 5 by rw [qm62]; exact zup_ne _ _ (by omega))]
  have c62_1_0_5x : zB (g62 1 0 5) 0 24 := by first | exact zB.eqv ek62_1_0_5 ct1_0_5 | (have q9 := ct1_0_5; constructor <;> omega)
  have ek62_1_0_6 : (g62 1 0 6).toInt = (f 1 0 6).toInt := by rw [hq62 1 0 6 (by omega)]
  have c62_1_0_6x : zB (g62 1 0 6) 0 8 := by first | exact zB.eqv ek62_1_0_6 ct1_0_6 | (have q9 := ct1_0_6; constructor <;> omega)
  have ek62_1_0_7 : (g62 1 0 7).toInt = (f 1 0 7).toInt := by rw [hq62 1 0 7 (by omega)]
  have c62_1_0_7x : zB (g62 1 0 7) 0 12 := by first | exact zB.eqv ek62_1_0_7 ct1_0_7 | (have q9 := ct1_0_7; constructor <;> omega)
  have ek62_1_0_8 : (g62 1 0 8).toInt = (f 1 0 8).toInt := by rw [hq62 1 0 8 (by omega)]
  have c62_1_0_8x : zB (g62 1 0 8) 0 8 := by first | exact zB.eqv ek62_1_0_8 ct1_0_8 | (have q9 := ct1_0_8; constructor <;> omega)
  refine z_iconst (pc := 8) (v := 0) C dX8_copy_8 (by decide) ?_
  refine z_istore_n (pc := 9) C dX8_copy_9 (by rw [hn]; decide) rfl ?_
  exact J0 0 (zB.wk (a' := 0) (b' := 24) (zB.of (x := 0) 0 (by decide)) (by decide) (by decide)) g62 hI62 hF62 c62_1_0_5x c62_1_0_6x c62_1_0_7x c62_1_0_8x c62x c62_1_1_6x c62_1_1_7x c62_1_1_8x (by have qc0 : (0 : Int32).toInt = 0 := (by decide); omega) (by have qc0 : (0 : Int32).toInt = 0 := (by decide); omega) (by have qc0 : (0 : Int32).toInt = 0 := (by decide); omega) (by have qc0 : (0 : Int32).toInt = 0 := (by decide); omega) (by have qc0 : (0 : Int32).toInt = 0 := (by decide); omega) (by have qc0 : (0 : Int32).toInt = 0 := (by decide); omega) (by exact zcpd_0 (fun x j hj => by subst qm62; exact zup_ne _ _ (by omega))) (by exact zcpd_0 (fun x j hj => by subst qm62; exact zup_ne _ _ (by omega))) (by exact zcpd_0 (fun x j hj => by subst qm62; exact zup_ne _ _ (by omega))) (by exact zcpd_0 (fun x j hj => by subst qm62; exact zup_ne _ _ (by omega))) (by intro n j; subst qm62; exact zup_ne _ _ (by omega)) (by have qc0 : (0 : Int32).toInt = 0 := (by decide); omega)

set_option maxRecDepth 100000 in
set_option maxHeartbeats 4000000 in
theorem x_X8_copy (d : Nat) (f : zM)  (hI : zInv f) : ZM (d + 3) yX8_copy cX8_copy 3 none [zr 1 0, zr 1 1] f (fun r g => r = none ∧ zInv g ∧ zFr [(1, some 5), (1, some 6), (1, some 7), (1, some 8), (6, some 0), (6, some 1), (6, some 2), (6, some 3), (6, some 4), (6, some 5), (6, some 6), (7, some 0), (7, some 1), (7, some 2), (7, some 3), (7, some 4), (7, some 5), (8, some 0), (8, some 1), (8, some 2), (8, some 3), (8, some 4), (8, some 5), (8, some 6), (8, some 7), (9, none), (10, none), (11, some 0), (11, some 1), (11, some 2), (11, some 3), (11, some 4), (11, some 5), (11, some 6), (11, some 7), (12, some 0), (12, some 1), (12, some 2)] f g ∧ (g 1 0 5 = f 1 1 5) ∧ (g 1 0 6 = f 1 1 6) ∧ (g 1 0 7 = f 1 1 7) ∧ (g 1 0 8 = f 1 1 8) ∧ (g 1 1 5 = f 1 1 5) ∧ (g 1 1 6 = f 1 1 6) ∧ (g 1 1 7 = f 1 1 7) ∧ (g 1 1 8 = f 1 1 8) ∧ (zcpd f g 7 0 24 (f 1 1 5).toInt.toNat 6 24) ∧ (zcpd f g 8 0 8 (f 1 1 6).toInt.toNat 5 8) ∧ (zcpd f g 11 0 12 (f 1 1 7).toInt.toNat 8 12) ∧ (zcpd f g 12 0 8 (f 1 1 8).toInt.toNat 3 8) ∧ (∀ j, j < 7 → g 6 0 j = f 6 1 j) ∧ (∀ j, j < 7 → g 6 1 j = f 6 1 j)) := by
  refine ZM.intro (by decide +kernel) (Nat.le_of_ble_eq_true rfl) ?_
  intro X C hr hn
  have hF : zFr [(1, some 5), (1, some 6), (1, some 7), (1, some 8), (6, some 0), (6, some 1), (6, some 2), (6, some 3), (6, some 4), (6, some 5), (6, some 6), (7, some 0), (7, some 1), (7, some 2), (7, some 3), (7, some 4), (7, some 5), (8, some 0), (8, some 1), (8, some 2), (8, some 3), (8, some 4), (8, some 5), (8, some 6), (8, some 7), (9, none), (10, none), (11, some 0), (11, some 1), (11, some 2), (11, some 3), (11, some 4), (11, some 5), (11, some 6), (11, some 7), (12, some 0), (12, some 1), (12, some 2)] f f := zFr.rf _ _
  have ct1_0_5 : zB (f 1 0 5) 0 24 := hI 1 0 5
  have ct1_0_6 : zB (f 1 0 6) 0 8 := hI 1 0 6
  have ct1_0_7 : zB (f 1 0 7) 0 12 := hI 1 0 7
  have ct1_0_8 : zB (f 1 0 8) 0 8 := hI 1 0 8
  have ct1_1_5 : zB (f 1 1 5) 0 24 := hI 1 1 5
  have ct1_1_6 : zB (f 1 1 6) 0 8 := hI 1 1 6
  have ct1_1_7 : zB (f 1 1 7) 0 12 := hI 1 1 7
  have ct1_1_8 : zB (f 1 1 8) 0 8 := hI 1 1 8
  have J : ∀ t : Nat, (∀ a10_2 : Int32, zB a10_2 0 24 → ∀ g : zM, zInv g → zFr [(1, some 5), (1, some 6), (1, some 7), (1, some 8), (6, some 0), (6, some 1), (6, some 2), (6, some 3), (6, some 4), (6, some 5), (6, some 6), (7, some 0), (7, some 1), (7, some 2), (7, some 3), (7, some 4), (7, some 5), (8, some 0), (8, some 1), (8, some 2), (8, some 3), (8, some 4), (8, some 5), (8, some 6), (8, some 7), (9, none), (10, none), (11, some 0), (11, some 1), (11, some 2), (11, some 3), (11, some 4), (11, some 5), (11, some 6), (11, some 7), (12, some 0), (12, some 1), (12, some 2)] f g → zB (g 1 0 5) 0 24 → zB (g 1 0 6) 0 8 → zB (g 1 0 7) 0 12 → zB (g 1 0 8) 0 8 → zB (g 1 1 5) 0 24 → zB (g 1 1 6) 0 8 → zB (g 1 1 7) 0 12 → zB (g 1 1 8) 0 8 → ((g 1 0 5).toInt = (f 1 1 5).toInt) → ((g 1 1 5).toInt = (f 1 1 5).toInt) → ((g 1 1 6).toInt = (f 1 1 6).toInt) → ((g 1 1 7).toInt = (f 1 1 7).toInt) → ((g 1 1 8).toInt = (f 1 1 8).toInt) → (a10_2.toInt ≤ (f 1 1 5).toInt) → (zcpd f g 7 0 24 a10_2.toInt.toNat 6 24) → (zcpd f g 8 0 8 0 5 8) → (zcpd f g 11 0 12 0 8 12) → (zcpd f g 12 0 8 0 3 8) → (∀ n j, g 6 n j = f 6 n j) → (8397 + 8400 * (24 - a10_2.toInt) : Int) < t → Z X 10 [some (zr 1 0), some (zr 1 1), some (zi a10_2)] [] g) ∧ (∀ a49_2 : Int32, zB a49_2 0 8 → ∀ g : zM, zInv g → zFr [(1, some 5), (1, some 6), (1, some 7), (1, some 8), (6, some 0), (6, some 1), (6, some 2), (6, some 3), (6, some 4), (6, some 5), (6, some 6), (7, some 0), (7, some 1), (7, some 2), (7, some 3), (7, some 4), (7, some 5), (8, some 0), (8, some 1), (8, some 2), (8, some 3), (8, some 4), (8, some 5), (8, some 6), (8, some 7), (9, none), (10, none), (11, some 0), (11, some 1), (11, some 2), (11, some 3), (11, some 4), (11, some 5), (11, some 6), (11, some 7), (12, some 0), (12, some 1), (12, some 2)] f g → zB (g 1 0 5) 0 24 → zB (g 1 0 6) 0 8 → zB (g 1 0 7) 0 12 → zB (g 1 0 8) 0 8 → zB (g 1 1 5) 0 24 → zB (g 1 1 6) 0 8 → zB (g 1 1 7) 0 12 → zB (g 1 1 8) 0 8 → ((g 1 0 5).toInt = (f 1 1 5).toInt) → ((g 1 1 5).toInt = (f 1 1 5).toInt) → ((g 1 0 6).toInt = (f 1 1 6).toInt) → ((g 1 1 6).toInt = (f 1 1 6).toInt) → ((g 1 1 7).toInt = (f 1 1 7).toInt) → ((g 1 1 8).toInt = (f 1 1 8).toInt) → (a49_2.toInt ≤ (f 1 1 6).toInt) → (zcpd f g 7 0 24 (f 1 1 5).toInt.toNat 6 24) → (zcpd f g 8 0 8 a49_2.toInt.toNat 5 8) → (zcpd f g 11 0 12 0 8 12) → (zcpd f g 12 0 8 0 3 8) → (∀ n j, g 6 n j = f 6 n j) → (836 + 840 * (8 - a49_2.toInt) : Int) < t → Z X 49 [some (zr 1 0), some (zr 1 1), some (zi a49_2)] [] g) ∧ (∀ a93_2 : Int32, zB a93_2 0 12 → ∀ g : zM, zInv g → zFr [(1, some 5), (1, some 6), (1, some 7), (1, some 8), (6, some 0), (6, some 1), (6, some 2), (6, some 3), (6, some 4), (6, some 5), (6, some 6), (7, some 0), (7, some 1), (7, some 2), (7, some 3), (7, some 4), (7, some 5), (8, some 0), (8, some 1), (8, some 2), (8, some 3), (8, some 4), (8, some 5), (8, some 6), (8, some 7), (9, none), (10, none), (11, some 0), (11, some 1), (11, some 2), (11, some 3), (11, some 4), (11, some 5), (11, some 6), (11, some 7), (12, some 0), (12, some 1), (12, some 2)] f g → zB (g 1 0 5) 0 24 → zB (g 1 0 6) 0 8 → zB (g 1 0 7) 0 12 → zB (g 1 0 8) 0 8 → zB (g 1 1 5) 0 24 → zB (g 1 1 6) 0 8 → zB (g 1 1 7) 0 12 → zB (g 1 1 8) 0 8 → ((g 1 0 5).toInt = (f 1 1 5).toInt) → ((g 1 1 5).toInt = (f 1 1 5).toInt) → ((g 1 0 6).toInt = (f 1 1 6).toInt) → ((g 1 1 6).toInt = (f 1 1 6).toInt) → ((g 1 0 7).toInt = (f 1 1 7).toInt) → ((g 1 1 7).toInt = (f 1 1 7).toInt) → ((g 1 1 8).toInt = (f 1 1 8).toInt) → (a93_2.toInt ≤ (f 1 1 7).toInt) → (zcpd f g 7 0 24 (f 1 1 5).toInt.toNat 6 24) → (zcpd f g 8 0 8 (f 1 1 6).toInt.toNat 5 8) → (zcpd f g 11 0 12 a93_2.toInt.toNat 8 12) → (zcpd f g 12 0 8 0 3 8) → (∀ n j, g 6 n j = f 6 n j) → (55 + 60 * (12 - a93_2.toInt) : Int) < t → Z X 93 [some (zr 1 0), some (zr 1 1), some (zi a93_2)] [] g) ∧ (∀ a132_2 : Int32, zB a132_2 0 8 → ∀ g : zM, zInv g → zFr [(1, some 5), (1, some 6), (1, some 7), (1, some 8), (6, some 0), (6, some 1), (6, some 2), (6, some 3), (6, some 4), (6, some 5), (6, some 6), (7, some 0), (7, some 1), (7, some 2), (7, some 3), (7, some 4), (7, some 5), (8, some 0), (8, some 1), (8, some 2), (8, some 3), (8, some 4), (8, some 5), (8, some 6), (8, some 7), (9, none), (10, none), (11, some 0), (11, some 1), (11, some 2), (11, some 3), (11, some 4), (11, some 5), (11, some 6), (11, some 7), (12, some 0), (12, some 1), (12, some 2)] f g → zB (g 1 0 5) 0 24 → zB (g 1 0 6) 0 8 → zB (g 1 0 7) 0 12 → zB (g 1 0 8) 0 8 → zB (g 1 1 5) 0 24 → zB (g 1 1 6) 0 8 → zB (g 1 1 7) 0 12 → zB (g 1 1 8) 0 8 → ((g 1 0 5).toInt = (f 1 1 5).toInt) → ((g 1 1 5).toInt = (f 1 1 5).toInt) → ((g 1 0 6).toInt = (f 1 1 6).toInt) → ((g 1 1 6).toInt = (f 1 1 6).toInt) → ((g 1 0 7).toInt = (f 1 1 7).toInt) → ((g 1 1 7).toInt = (f 1 1 7).toInt) → ((g 1 0 8).toInt = (f 1 1 8).toInt) → ((g 1 1 8).toInt = (f 1 1 8).toInt) → (a132_2.toInt ≤ (f 1 1 8).toInt) → (zcpd f g 7 0 24 (f 1 1 5).toInt.toNat 6 24) → (zcpd f g 8 0 8 (f 1 1 6).toInt.toNat 5 8) → (zcpd f g 11 0 12 (f 1 1 7).toInt.toNat 8 12) → (zcpd f g 12 0 8 a132_2.toInt.toNat 3 8) → (∀ n j, g 6 n j = f 6 n j) → (0 + 6 * (8 - a132_2.toInt) : Int) < t → Z X 132 [some (zr 1 0), some (zr 1 1), some (zi a132_2)] [] g) := by
    intro t
    induction t with
    | zero =>
      refine ⟨?_, ?_, ?_, ?_⟩ <;> (intros; exfalso; omega)
    | succ t ih =>
      obtain ⟨ih0, ih1, ih2, ih3⟩ := ih
      refine ⟨?_, ?_, ?_, ?_⟩
      · skip
        intro a10_2 b10_2 g10_ hI10_ hF10_ f10_1_0_5 f10_1_0_6 f10_1_0_7 f10_1_0_8 f10_1_1_5 f10_1_1_6 f10_1_1_7 f10_1_1_8 hR10_0 hR10_1 hR10_2 hR10_3 hR10_4 hR10_5 hR10_6 hR10_7 hR10_8 hR10_9 hR10_10 hM10_
        refine z_iload_n (pc := 10) C dX8_copy_10 rfl ?_
        refine z_aload_n (pc := 11) C dX8_copy_11 rfl ?_
        refine z_getI (pc := 12) C zf_X8_46 rfl rfl (by decide) dX8_copy_12 ?_
        refine w_gp (fun v => v = g10_ 1 0 5) rfl (fun v1 q1 => ?_)
        have e1 : v1.toInt = (g10_ 1 0 5).toInt := by rw [q1]
        have b1x : zB v1 0 24 := by first | exact zB.eqv e1 f10_1_0_5 | (have q9 := f10_1_0_5; constructor <;> omega)
        refine z_icmp_ge (pc := 15) 39 C dX8_copy_15 (by decide) (fun h15_1 => ?_) (fun h15_1 => ?_)
        · skip
          have rr3 : a10_2.toInt ≥ v1.toInt := by simp only [z32lt, z32le, z32eq] at h15_1; omega
          refine z_aload_n (pc := 39) C dX8_copy_39 rfl ?_
          refine z_aload_n (pc := 40) C dX8_copy_40 rfl ?_
          refine z_getI (pc := 41) C zf_X8_54 rfl rfl (by decide) dX8_copy_41 ?_
          refine w_gp (fun v => v = g10_ 1 1 6) rfl (fun v4 q4 => ?_)
          have e4 : v4.toInt = (g10_ 1 1 6).toInt := by rw [q4]
          have b4x : zB v4 0 8 := by first | exact zB.eqv e4 f10_1_1_6 | (have q9 := f10_1_1_6; constructor <;> omega)
          refine z_putI (pc := 44) C zf_X8_54 zp_8_6 rfl rfl (by decide) dX8_copy_44 ?_
          refine w_memx hI10_ hF10_ b4x rfl (fun g5 qm5 hI5 hF5 hq5 hx5 => ?_)
          have ek5_1_0_5 : (g5 1 0 5).toInt = (g10_ 1 0 5).toInt := by rw [hq5 1 0 5 (by omega)]
          have c5_1_0_5x : zB (g5 1 0 5) 0 24 := by first | exact zB.eqv ek5_1_0_5 f10_1_0_5 | (have q9 := f10_1_0_5; constructor <;> omega)
          have ec5 : (g5 1 0 6).toInt = v4.toInt := by rw [hx5]
          have c5x : zB (g5 1 0 6) 0 8 := by first | exact zB.eqv ec5 b4x | (have q9 := b4x; constructor <;> omega)
          have ek5_1_0_7 : (g5 1 0 7).toInt = (g10_ 1 0 7).toInt := by rw [hq5 1 0 7 (by omega)]
          have c5_1_0_7x : zB (g5 1 0 7) 0 12 := by first | exact zB.eqv ek5_1_0_7 f10_1_0_7 | (have q9 := f10_1_0_7; constructor <;> omega)
          have ek5_1_0_8 : (g5 1 0 8).toInt = (g10_ 1 0 8).toInt := by rw [hq5 1 0 8 (by omega)]
          have c5_1_0_8x : zB (g5 1 0 8) 0 8 := by first | exact zB.eqv ek5_1_0_8 f10_1_0_8 | (have q9 := f10_1_0_8; constructor <;> omega)
          have ek5_1_1_5 : (g5 1 1 5).toInt = (g10_ 1 1 5).toInt := by rw [hq5 1 1 5 (by omega)]
          have c5_1_1_5x : zB (g5 1 1 5) 0 24 := by first | exact zB.eqv ek5_1_1_5 f10_1_1_5 | (have q9 := f10_1_1_5; constructor <;> omega)
          have ek5_1_1_6 : (g5 1 1 6).toInt = (g10_ 1 1 6).toInt := by rw [(show g5 1 1 6 = g10_ 1 1 6 by rw [qm5]; exact zup_ne _ _ (by omega))]
          have c5_1_1_6x : zB (g5 1 1 6) 0 8 := by first | exact zB.eqv ek5_1_1_6 f10_1_1_6 | (have q9 := f10_1_1_6; constructor <;> omega)
          have ek5_1_1_7 : (g5 1 1 7).toInt = (g10_ 1 1 7).toInt := by rw [hq5 1 1 7 (by omega)]
          have c5_1_1_7x : zB (g5 1 1 7) 0 12 := by first | exact zB.eqv ek5_1_1_7 f10_1_1_7 | (have q9 := f10_1_1_7; constructor <;> omega)
          have ek5_1_1_8 : (g5 1 1 8).toInt = (g10_ 1 1 8).toInt := by rw [hq5 1 1 8 (by omega)]
          have c5_1_1_8x : zB (g5 1 1 8) 0 8 := by first | exact zB.eqv ek5_1_1_8 f10_1_1_8 | (have q9 := f10_1_1_8; constructor <;> omega)
          refine z_iconst (pc := 47) (v := 0) C dX8_copy_47 (by decide) ?_
          refine z_istore_n (pc := 48) C dX8_copy_48 (by rw [hn]; decide) rfl ?_
          exact ih1 0 (zB.wk (a' := 0) (b' := 8) (zB.of (x := 0) 0 (by decide)) (by decide) (by decide)) g5 hI5 hF5 c5_1_0_5x c5x c5_1_0_7x c5_1_0_8x c5_1_1_5x c5_1_1_6x c5_1_1_7x c5_1_1_8x (by have qc0 : (0 : Int32).toInt = 0 := (by decide); omega) (by have qc0 : (0 : Int32).toInt = 0 := (by decide); omega) (by have qc0 : (0 : Int32).toInt = 0 := (by decide); omega) (by have qc0 : (0 : Int32).toInt = 0 := (by decide); omega) (by have qc0 : (0 : Int32).toInt = 0 := (by decide); omega) (by have qc0 : (0 : Int32).toInt = 0 := (by decide); omega) (by have qc0 : (0 : Int32).toInt = 0 := (by decide); omega) (by
                                                                                          have hz : (f 1 1 5).toInt.toNat = a10_2.toInt.toNat := by omega
                                                                                          rw [hz]
                                                                                          exact zcpd_keep hR10_6 (fun x j hj => by subst qm5; exact zup_ne _ _ (by omega))) (by
                                                                                          show zcpd f g5 8 0 8 0 5 8
                                                                                          exact zcpd_keep hR10_7 (fun x j hj => by subst qm5; exact zup_ne _ _ (by omega))) (by
                                                                                          exact zcpd_keep hR10_8 (fun x j hj => by subst qm5; exact zup_ne _ _ (by omega))) (by
                                                                                          exact zcpd_keep hR10_9 (fun x j hj => by subst qm5; exact zup_ne _ _ (by omega))) (by intro n j; subst qm5; exact (zup_ne _ _ (by omega)).trans (hR10_10 n j)) (by have qc0 : (0 : Int32).toInt = 0 := (by decide); omega)
        · skip
          have rr6 : a10_2.toInt < v1.toInt := by simp only [z32lt, z32le, z32eq] at h15_1; omega
          have b7x : zB a10_2 0 23 := by have q1 := b10_2; have q2 := b1x; simp only [z32lt, z32le, z32eq, Int32.reduceToInt, Int32.toInt_zero] at h15_1; constructor <;> omega
          have b8x : zB v1 1 24 := by have q1 := b10_2; have q2 := b1x; simp only [z32lt, z32le, z32eq, Int32.reduceToInt, Int32.toInt_zero] at h15_1; constructor <;> omega
          have c9x : zB (g10_ 1 0 5) 1 24 := by first | assumption | (constructor <;> omega)
          refine z_aload_n (pc := 18) C dX8_copy_18 rfl ?_
          refine z_getR (pc := 19) C zf_X8_11 rfl rfl (by decide) dX8_copy_19 ?_
          refine z_iload_n (pc := 22) C dX8_copy_22 rfl ?_
          refine z_aald (pc := 23) C rfl ⟨rfl, by decide⟩ (by decide) (zIx b7x (by decide) (by decide)) dX8_copy_23 ?_
          refine w_grx (by have hq := zN b7x (by decide); show 24 * 0 + a10_2.toNatClampNeg < 60; omega) (fun m10 q10r h10x => ?_)
          have q10r : m10 = 24 * 0 + a10_2.toNatClampNeg := q10r
          have k10r : a10_2.toNatClampNeg = a10_2.toInt.toNat := rfl
          refine z_aload_n (pc := 24) C dX8_copy_24 rfl ?_
          refine z_getR (pc := 25) C zf_X8_11 rfl rfl (by decide) dX8_copy_25 ?_
          refine z_iload_n (pc := 28) C dX8_copy_28 rfl ?_
          refine z_aald (pc := 29) C rfl ⟨rfl, by decide⟩ (by decide) (zIx b7x (by decide) (by decide)) dX8_copy_29 ?_
          refine w_grx (by have hq := zN b7x (by decide); show 24 * 1 + a10_2.toNatClampNeg < 60; omega) (fun m11 q11r h11x => ?_)
          have q11r : m11 = 24 * 1 + a10_2.toNatClampNeg := q11r
          have k11r : a10_2.toNatClampNeg = a10_2.toInt.toNat := rfl
          refine z_callV (pc := 30) C zk_X8_50 (x_X0_copy _ _ m10 h10x m11 h11x hI10_) rfl rfl h10x rfl rfl (Nat.le_of_ble_eq_true rfl) dX8_copy_30 (fun r12 g12 q12 => ?_)
          obtain ⟨rfl, hI12, hF12q, hp12_0, hp12_1⟩ := q12
          have hF12 := zFr.tr hF10_ hF12q (by decide)
          simp only [Option.toList, List.cons_append, List.nil_append]
          have ek12_1_0_5 : (g12 1 0 5).toInt = (g10_ 1 0 5).toInt := by rw [hF12q 1 0 5 rfl]
          have c12_1_0_5x : zB (g12 1 0 5) 1 24 := by first | exact zB.eqv ek12_1_0_5 c9x | (have q9 := c9x; constructor <;> omega)
          have ek12_1_0_6 : (g12 1 0 6).toInt = (g10_ 1 0 6).toInt := by rw [hF12q 1 0 6 rfl]
          have c12_1_0_6x : zB (g12 1 0 6) 0 8 := by first | exact zB.eqv ek12_1_0_6 f10_1_0_6 | (have q9 := f10_1_0_6; constructor <;> omega)
          have ek12_1_0_7 : (g12 1 0 7).toInt = (g10_ 1 0 7).toInt := by rw [hF12q 1 0 7 rfl]
          have c12_1_0_7x : zB (g12 1 0 7) 0 12 := by first | exact zB.eqv ek12_1_0_7 f10_1_0_7 | (have q9 := f10_1_0_7; constructor <;> omega)
          have ek12_1_0_8 : (g12 1 0 8).toInt = (g10_ 1 0 8).toInt := by rw [hF12q 1 0 8 rfl]
          have c12_1_0_8x : zB (g12 1 0 8) 0 8 := by first | exact zB.eqv ek12_1_0_8 f10_1_0_8 | (have q9 := f10_1_0_8; constructor <;> omega)
          have ek12_1_1_5 : (g12 1 1 5).toInt = (g10_ 1 1 5).toInt := by rw [hF12q 1 1 5 rfl]
          have c12_1_1_5x : zB (g12 1 1 5) 0 24 := by first | exact zB.eqv ek12_1_1_5 f10_1_1_5 | (have q9 := f10_1_1_5; constructor <;> omega)
          have ek12_1_1_6 : (g12 1 1 6).toInt = (g10_ 1 1 6).toInt := by rw [hF12q 1 1 6 rfl]
          have c12_1_1_6x : zB (g12 1 1 6) 0 8 := by first | exact zB.eqv ek12_1_1_6 f10_1_1_6 | (have q9 := f10_1_1_6; constructor <;> omega)
          have ek12_1_1_7 : (g12 1 1 7).toInt = (g10_ 1 1 7).toInt := by rw [hF12q 1 1 7 rfl]
          have c12_1_1_7x : zB (g12 1 1 7) 0 12 := by first | exact zB.eqv ek12_1_1_7 f10_1_1_7 | (have q9 := f10_1_1_7; constructor <;> omega)
          have ek12_1_1_8 : (g12 1 1 8).toInt = (g10_ 1 1 8).toInt := by rw [hF12q 1 1 8 rfl]
          have c12_1_1_8x : zB (g12 1 1 8) 0 8 := by first | exact zB.eqv ek12_1_1_8 f10_1_1_8 | (have q9 := f10_1_1_8; constructor <;> omega)
          refine z_iinc (pc := 33) (v := 1) C dX8_copy_33 rfl (by decide) (by rw [hn]; decide) rfl ?_
          obtain ⟨v13, hv13, e13⟩ : ∃ v : Int32, v = a10_2 + 1 ∧ v.toInt = a10_2.toInt + 1 := ⟨_, rfl, zadd_eb b7x (zB.of (x := 1) 1 (by decide)) (by decide) (by decide)⟩
          rw [← hv13]
          have b13x : zB v13 1 24 := by have q9 := b7x; constructor <;> omega
          refine z_goto (pc := 36) 10 C dX8_copy_36 (by decide) ?_
          exact ih0 v13 (zB.wk (a' := 0) (b' := 24) b13x (by decide) (by decide)) g12 hI12 hF12 (zB.wk c12_1_0_5x (by decide) (by decide)) c12_1_0_6x c12_1_0_7x c12_1_0_8x c12_1_1_5x c12_1_1_6x c12_1_1_7x c12_1_1_8x (by omega) (by omega) (by omega) (by omega) (by omega) (by omega) (by
                                                                                          have hn : (v13).toInt.toNat = a10_2.toInt.toNat + 1 := by omega
                                                                                          rw [hn]
                                                                                          have hm0 : m10 = 0 + a10_2.toInt.toNat := by omega
                                                                                          have hm1 : m11 = 24 + a10_2.toInt.toNat := by omega
                                                                                          refine zcpd_s hR10_6 (by omega) (by omega) (fun j hj => ?_) (fun x j hx hj => ?_)
                                                                                          · rw [← hm0, ← hm1]; exact hp12_0 j hj
                                                                                          · exact hp12_1 x j (by omega)) (by
                                                                                          exact zcpd_keep hR10_7 (fun x j hj => hF12q 8 x j rfl)) (by
                                                                                          exact zcpd_keep hR10_8 (fun x j hj => hF12q 11 x j rfl)) (by
                                                                                          exact zcpd_keep hR10_9 (fun x j hj => hF12q 12 x j rfl)) (by intro n j; exact (hF12q 6 n j rfl).trans (hR10_10 n j)) (by omega)
      · skip
        intro a49_2 b49_2 g49_ hI49_ hF49_ f49_1_0_5 f49_1_0_6 f49_1_0_7 f49_1_0_8 f49_1_1_5 f49_1_1_6 f49_1_1_7 f49_1_1_8 hR49_0 hR49_1 hR49_2 hR49_3 hR49_4 hR49_5 hR49_6 hR49_7 hR49_8 hR49_9 hR49_10 hR49_11 hM49_
        refine z_iload_n (pc := 49) C dX8_copy_49 rfl ?_
        refine z_aload_n (pc := 50) C dX8_copy_50 rfl ?_
        refine z_getI (pc := 51) C zf_X8_54 rfl rfl (by decide) dX8_copy_51 ?_
        refine w_gp (fun v => v = g49_ 1 0 6) rfl (fun v14 q14 => ?_)
        have e14 : v14.toInt = (g49_ 1 0 6).toInt := by rw [q14]
        have b14x : zB v14 0 8 := by first | exact zB.eqv e14 f49_1_0_6 | (have q9 := f49_1_0_6; constructor <;> omega)
        refine z_icmp_ge (pc := 54) 83 C dX8_copy_54 (by decide) (fun h54_14 => ?_) (fun h54_14 => ?_)
        · skip
          have rr16 : a49_2.toInt ≥ v14.toInt := by simp only [z32lt, z32le, z32eq] at h54_14; omega
          refine z_aload_n (pc := 83) C dX8_copy_83 rfl ?_
          refine z_aload_n (pc := 84) C dX8_copy_84 rfl ?_
          refine z_getI (pc := 85) C zf_X8_64 rfl rfl (by decide) dX8_copy_85 ?_
          refine w_gp (fun v => v = g49_ 1 1 7) rfl (fun v17 q17 => ?_)
          have e17 : v17.toInt = (g49_ 1 1 7).toInt := by rw [q17]
          have b17x : zB v17 0 12 := by first | exact zB.eqv e17 f49_1_1_7 | (have q9 := f49_1_1_7; constructor <;> omega)
          refine z_putI (pc := 88) C zf_X8_64 zp_8_7 rfl rfl (by decide) dX8_copy_88 ?_
          refine w_memx hI49_ hF49_ b17x rfl (fun g18 qm18 hI18 hF18 hq18 hx18 => ?_)
          have ek18_1_0_5 : (g18 1 0 5).toInt = (g49_ 1 0 5).toInt := by rw [hq18 1 0 5 (by omega)]
          have c18_1_0_5x : zB (g18 1 0 5) 0 24 := by first | exact zB.eqv ek18_1_0_5 f49_1_0_5 | (have q9 := f49_1_0_5; constructor <;> omega)
          have ek18_1_0_6 : (g18 1 0 6).toInt = (g49_ 1 0 6).toInt := by rw [hq18 1 0 6 (by omega)]
          have c18_1_0_6x : zB (g18 1 0 6) 0 8 := by first | exact zB.eqv ek18_1_0_6 f49_1_0_6 | (have q9 := f49_1_0_6; constructor <;> omega)
          have ec18 : (g18 1 0 7).toInt = v17.toInt := by rw [hx18]
          have c18x : zB (g18 1 0 7) 0 12 := by first | exact zB.eqv ec18 b17x | (have q9 := b17x; constructor <;> omega)
          have ek18_1_0_8 : (g18 1 0 8).toInt = (g49_ 1 0 8).toInt := by rw [hq18 1 0 8 (by omega)]
          have c18_1_0_8x : zB (g18 1 0 8) 0 8 := by first | exact zB.eqv ek18_1_0_8 f49_1_0_8 | (have q9 := f49_1_0_8; constructor <;> omega)
          have ek18_1_1_5 : (g18 1 1 5).toInt = (g49_ 1 1 5).toInt := by rw [hq18 1 1 5 (by omega)]
          have c18_1_1_5x : zB (g18 1 1 5) 0 24 := by first | exact zB.eqv ek18_1_1_5 f49_1_1_5 | (have q9 := f49_1_1_5; constructor <;> omega)
          have ek18_1_1_6 : (g18 1 1 6).toInt = (g49_ 1 1 6).toInt := by rw [hq18 1 1 6 (by omega)]
          have c18_1_1_6x : zB (g18 1 1 6) 0 8 := by first | exact zB.eqv ek18_1_1_6 f49_1_1_6 | (have q9 := f49_1_1_6; constructor <;> omega)
          have ek18_1_1_7 : (g18 1 1 7).toInt = (g49_ 1 1 7).toInt := by rw [(show g18 1 1 7 = g49_ 1 1 7 by rw [qm18]; exact zup_ne _ _ (by omega))]
          have c18_1_1_7x : zB (g18 1 1 7) 0 12 := by first | exact zB.eqv ek18_1_1_7 f49_1_1_7 | (have q9 := f49_1_1_7; constructor <;> omega)
          have ek18_1_1_8 : (g18 1 1 8).toInt = (g49_ 1 1 8).toInt := by rw [hq18 1 1 8 (by omega)]
          have c18_1_1_8x : zB (g18 1 1 8) 0 8 := by first | exact zB.eqv ek18_1_1_8 f49_1_1_8 | (have q9 := f49_1_1_8; constructor <;> omega)
          refine z_iconst (pc := 91) (v := 0) C dX8_copy_91 (by decide) ?_
          refine z_istore_n (pc := 92) C dX8_copy_92 (by rw [hn]; decide) rfl ?_
          exact ih2 0 (zB.wk (a' := 0) (b' := 12) (zB.of (x := 0) 0 (by decide)) (by decide) (by decide)) g18 hI18 hF18 c18_1_0_5x c18_1_0_6x c18x c18_1_0_8x c18_1_1_5x c18_1_1_6x c18_1_1_7x c18_1_1_8x (by have qc0 : (0 : Int32).toInt = 0 := (by decide); omega) (by have qc0 : (0 : Int32).toInt = 0 := (by decide); omega) (by have qc0 : (0 : Int32).toInt = 0 := (by decide); omega) (by have qc0 : (0 : Int32).toInt = 0 := (by decide); omega) (by have qc0 : (0 : Int32).toInt = 0 := (by decide); omega) (by have qc0 : (0 : Int32).toInt = 0 := (by decide); omega) (by have qc0 : (0 : Int32).toInt = 0 := (by decide); omega) (by have qc0 : (0 : Int32).toInt = 0 := (by decide); omega) (by
                                                                                          exact zcpd_keep hR49_7 (fun x j hj => by subst qm18; exact zup_ne _ _ (by omega))) (by
                                                                                          have hz : (f 1 1 6).toInt.toNat = a49_2.toInt.toNat := by omega
                                                                                          rw [hz]
                                                                                          exact zcpd_keep hR49_8 (fun x j hj => by subst qm18; exact zup_ne _ _ (by omega))) (by
                                                                                          show zcpd f g18 11 0 12 0 8 12
                                                                                          exact zcpd_keep hR49_9 (fun x j hj => by subst qm18; exact zup_ne _ _ (by omega))) (by
                                                                                          exact zcpd_keep hR49_10 (fun x j hj => by subst qm18; exact zup_ne _ _ (by omega))) (by intro n j; subst qm18; exact (zup_ne _ _ (by omega)).trans (hR49_11 n j)) (by have qc0 : (0 : Int32).toInt = 0 := (by decide); omega)
        · skip
          have rr19 : a49_2.toInt < v14.toInt := by simp only [z32lt, z32le, z32eq] at h54_14; omega
          have b20x : zB a49_2 0 7 := by have q1 := b49_2; have q2 := b14x; simp only [z32lt, z32le, z32eq, Int32.reduceToInt, Int32.toInt_zero] at h54_14; constructor <;> omega
          have b21x : zB v14 1 8 := by have q1 := b49_2; have q2 := b14x; simp only [z32lt, z32le, z32eq, Int32.reduceToInt, Int32.toInt_zero] at h54_14; constructor <;> omega
          have c22x : zB (g49_ 1 0 6) 1 8 := by first | assumption | (constructor <;> omega)
          refine z_aload_n (pc := 57) C dX8_copy_57 rfl ?_
          refine z_getR (pc := 58) C zf_X8_19 rfl rfl (by decide) dX8_copy_58 ?_
          refine z_iload_n (pc := 61) C dX8_copy_61 rfl ?_
          refine z_aald (pc := 62) C rfl ⟨rfl, by decide⟩ (by decide) (zIx b20x (by decide) (by decide)) dX8_copy_62 ?_
          refine w_grx (by have hq := zN b20x (by decide); show 8 * 0 + a49_2.toNatClampNeg < 16; omega) (fun m23 q23r h23x => ?_)
          have q23r : m23 = 8 * 0 + a49_2.toNatClampNeg := q23r
          have k23r : a49_2.toNatClampNeg = a49_2.toInt.toNat := rfl
          refine z_aload_n (pc := 63) C dX8_copy_63 rfl ?_
          refine z_getR (pc := 64) C zf_X8_19 rfl rfl (by decide) dX8_copy_64 ?_
          refine z_iload_n (pc := 67) C dX8_copy_67 rfl ?_
          refine z_aald (pc := 68) C rfl ⟨rfl, by decide⟩ (by decide) (zIx b20x (by decide) (by decide)) dX8_copy_68 ?_
          refine w_grx (by have hq := zN b20x (by decide); show 8 * 1 + a49_2.toNatClampNeg < 16; omega) (fun m24 q24r h24x => ?_)
          have q24r : m24 = 8 * 1 + a49_2.toNatClampNeg := q24r
          have k24r : a49_2.toNatClampNeg = a49_2.toInt.toNat := rfl
          refine z_callV (pc := 69) C zk_X8_57 (x_X1_copy _ _ m23 h23x m24 h24x (by omega) hI49_) rfl rfl h23x rfl rfl (Nat.le_of_ble_eq_true rfl) dX8_copy_69 (fun r25 g25 q25 => ?_)
          obtain ⟨rfl, hI25, hF25q, hp25_0, hp25_1⟩ := q25
          have hF25 := zFr.tr hF49_ hF25q (by decide)
          simp only [Option.toList, List.cons_append, List.nil_append]
          have ek25_1_0_5 : (g25 1 0 5).toInt = (g49_ 1 0 5).toInt := by rw [hF25q 1 0 5 rfl]
          have c25_1_0_5x : zB (g25 1 0 5) 0 24 := by first | exact zB.eqv ek25_1_0_5 f49_1_0_5 | (have q9 := f49_1_0_5; constructor <;> omega)
          have ek25_1_0_6 : (g25 1 0 6).toInt = (g49_ 1 0 6).toInt := by rw [hF25q 1 0 6 rfl]
          have c25_1_0_6x : zB (g25 1 0 6) 1 8 := by first | exact zB.eqv ek25_1_0_6 c22x | (have q9 := c22x; constructor <;> omega)
          have ek25_1_0_7 : (g25 1 0 7).toInt = (g49_ 1 0 7).toInt := by rw [hF25q 1 0 7 rfl]
          have c25_1_0_7x : zB (g25 1 0 7) 0 12 := by first | exact zB.eqv ek25_1_0_7 f49_1_0_7 | (have q9 := f49_1_0_7; constructor <;> omega)
          have ek25_1_0_8 : (g25 1 0 8).toInt = (g49_ 1 0 8).toInt := by rw [hF25q 1 0 8 rfl]
          have c25_1_0_8x : zB (g25 1 0 8) 0 8 := by first | exact zB.eqv ek25_1_0_8 f49_1_0_8 | (have q9 := f49_1_0_8; constructor <;> omega)
          have ek25_1_1_5 : (g25 1 1 5).toInt = (g49_ 1 1 5).toInt := by rw [hF25q 1 1 5 rfl]
          have c25_1_1_5x : zB (g25 1 1 5) 0 24 := by first | exact zB.eqv ek25_1_1_5 f49_1_1_5 | (have q9 := f49_1_1_5; constructor <;> omega)
          have ek25_1_1_6 : (g25 1 1 6).toInt = (g49_ 1 1 6).toInt := by rw [hF25q 1 1 6 rfl]
          have c25_1_1_6x : zB (g25 1 1 6) 0 8 := by first | exact zB.eqv ek25_1_1_6 f49_1_1_6 | (have q9 := f49_1_1_6; constructor <;> omega)
          have ek25_1_1_7 : (g25 1 1 7).toInt = (g49_ 1 1 7).toInt := by rw [hF25q 1 1 7 rfl]
          have c25_1_1_7x : zB (g25 1 1 7) 0 12 := by first | exact zB.eqv ek25_1_1_7 f49_1_1_7 | (have q9 := f49_1_1_7; constructor <;> omega)
          have ek25_1_1_8 : (g25 1 1 8).toInt = (g49_ 1 1 8).toInt := by rw [hF25q 1 1 8 rfl]
          have c25_1_1_8x : zB (g25 1 1 8) 0 8 := by first | exact zB.eqv ek25_1_1_8 f49_1_1_8 | (have q9 := f49_1_1_8; constructor <;> omega)
          refine z_aload_n (pc := 72) C dX8_copy_72 rfl ?_
          refine z_iload_n (pc := 73) C dX8_copy_73 rfl ?_
          refine z_callV (pc := 74) C zk_X8_60 (w_X8_learnAgain _ _ a49_2 b20x hI25) rfl rfl (by decide) rfl rfl (Nat.le_of_ble_eq_true rfl) dX8_copy_74 (fun r26 g26 q26 => ?_)
          obtain ⟨rfl, hI26, hF26q⟩ := q26
          have hF26 := zFr.tr hF25 hF26q (by decide)
          simp only [Option.toList, List.cons_append, List.nil_append]
          have ek26_1_0_5 : (g26 1 0 5).toInt = (g25 1 0 5).toInt := by rw [hF26q 1 0 5 rfl]
          have c26_1_0_5x : zB (g26 1 0 5) 0 24 := by first | exact zB.eqv ek26_1_0_5 c25_1_0_5x | (have q9 := c25_1_0_5x; constructor <;> omega)
          have ek26_1_0_6 : (g26 1 0 6).toInt = (g25 1 0 6).toInt := by rw [hF26q 1 0 6 rfl]
          have c26_1_0_6x : zB (g26 1 0 6) 1 8 := by first | exact zB.eqv ek26_1_0_6 c25_1_0_6x | (have q9 := c25_1_0_6x; constructor <;> omega)
          have ek26_1_0_7 : (g26 1 0 7).toInt = (g25 1 0 7).toInt := by rw [hF26q 1 0 7 rfl]
          have c26_1_0_7x : zB (g26 1 0 7) 0 12 := by first | exact zB.eqv ek26_1_0_7 c25_1_0_7x | (have q9 := c25_1_0_7x; constructor <;> omega)
          have ek26_1_0_8 : (g26 1 0 8).toInt = (g25 1 0 8).toInt := by rw [hF26q 1 0 8 rfl]
          have c26_1_0_8x : zB (g26 1 0 8) 0 8 := by first | exact zB.eqv ek26_1_0_8 c25_1_0_8x | (have q9 := c25_1_0_8x; constructor <;> omega)
          have ek26_1_1_5 : (g26 1 1 5).toInt = (g25 1 1 5).toInt := by rw [hF26q 1 1 5 rfl]
          have c26_1_1_5x : zB (g26 1 1 5) 0 24 := by first | exact zB.eqv ek26_1_1_5 c25_1_1_5x | (have q9 := c25_1_1_5x; constructor <;> omega)
          have ek26_1_1_6 : (g26 1 1 6).toInt = (g25 1 1 6).toInt := by rw [hF26q 1 1 6 rfl]
          have c26_1_1_6x : zB (g26 1 1 6) 0 8 := by first | exact zB.eqv ek26_1_1_6 c25_1_1_6x | (have q9 := c25_1_1_6x; constructor <;> omega)
          have ek26_1_1_7 : (g26 1 1 7).toInt = (g25 1 1 7).toInt := by rw [hF26q 1 1 7 rfl]
          have c26_1_1_7x : zB (g26 1 1 7) 0 12 := by first | exact zB.eqv ek26_1_1_7 c25_1_1_7x | (have q9 := c25_1_1_7x; constructor <;> omega)
          have ek26_1_1_8 : (g26 1 1 8).toInt = (g25 1 1 8).toInt := by rw [hF26q 1 1 8 rfl]
          have c26_1_1_8x : zB (g26 1 1 8) 0 8 := by first | exact zB.eqv ek26_1_1_8 c25_1_1_8x | (have q9 := c25_1_1_8x; constructor <;> omega)
          refine z_iinc (pc := 77) (v := 1) C dX8_copy_77 rfl (by decide) (by rw [hn]; decide) rfl ?_
          obtain ⟨v27, hv27, e27⟩ : ∃ v : Int32, v = a49_2 + 1 ∧ v.toInt = a49_2.toInt + 1 := ⟨_, rfl, zadd_eb b20x (zB.of (x := 1) 1 (by decide)) (by decide) (by decide)⟩
          rw [← hv27]
          have b27x : zB v27 1 8 := by have q9 := b20x; constructor <;> omega
          refine z_goto (pc := 80) 49 C dX8_copy_80 (by decide) ?_
          exact ih1 v27 (zB.wk (a' := 0) (b' := 8) b27x (by decide) (by decide)) g26 hI26 hF26 c26_1_0_5x (zB.wk c26_1_0_6x (by decide) (by decide)) c26_1_0_7x c26_1_0_8x c26_1_1_5x c26_1_1_6x c26_1_1_7x c26_1_1_8x (by omega) (by omega) (by omega) (by omega) (by omega) (by omega) (by omega) (by
                                                                                          exact zcpd_keep hR49_7 (fun x j hj => (hF26q 7 x j rfl).trans (hF25q 7 x j rfl))) (by
                                                                                          have hn : (v27).toInt.toNat = a49_2.toInt.toNat + 1 := by omega
                                                                                          rw [hn]
                                                                                          have hm0 : m23 = 0 + a49_2.toInt.toNat := by omega
                                                                                          have hm1 : m24 = 8 + a49_2.toInt.toNat := by omega
                                                                                          have e0 : ∀ x j, j < 5 → g26 8 x j = g25 8 x j := fun x j hj => hF26q 8 x j (by rcases (show j = 0 ∨ j = 1 ∨ j = 2 ∨ j = 3 ∨ j = 4 by omega) with rfl | rfl | rfl | rfl | rfl <;> rfl)
                                                                                          refine zcpd_s hR49_8 (by omega) (by omega) (fun j hj => ?_) (fun x j hx hj => ?_)
                                                                                          · rw [e0 _ j hj, ← hm0, ← hm1]; exact hp25_0 j hj
                                                                                          · rw [e0 _ j hj]; exact hp25_1 x j (by omega)) (by
                                                                                          exact zcpd_keep hR49_9 (fun x j hj => (hF26q 11 x j rfl).trans (hF25q 11 x j rfl))) (by
                                                                                          exact zcpd_keep hR49_10 (fun x j hj => (hF26q 12 x j rfl).trans (hF25q 12 x j rfl))) (by intro n j; exact ((hF26q 6 n j rfl).trans (hF25q 6 n j rfl)).trans (hR49_11 n j)) (by omega)
      · skip
        intro a93_2 b93_2 g93_ hI93_ hF93_ f93_1_0_5 f93_1_0_6 f93_1_0_7 f93_1_0_8 f93_1_1_5 f93_1_1_6 f93_1_1_7 f93_1_1_8 hR93_0 hR93_1 hR93_2 hR93_3 hR93_4 hR93_5 hR93_6 hR93_7 hR93_8 hR93_9 hR93_10 hR93_11 hR93_12 hM93_
        refine z_iload_n (pc := 93) C dX8_copy_93 rfl ?_
        refine z_aload_n (pc := 94) C dX8_copy_94 rfl ?_
        refine z_getI (pc := 95) C zf_X8_64 rfl rfl (by decide) dX8_copy_95 ?_
        refine w_gp (fun v => v = g93_ 1 0 7) rfl (fun v28 q28 => ?_)
        have e28 : v28.toInt = (g93_ 1 0 7).toInt := by rw [q28]
        have b28x : zB v28 0 12 := by first | exact zB.eqv e28 f93_1_0_7 | (have q9 := f93_1_0_7; constructor <;> omega)
        refine z_icmp_ge (pc := 98) 122 C dX8_copy_98 (by decide) (fun h98_28 => ?_) (fun h98_28 => ?_)
        · skip
          have rr30 : a93_2.toInt ≥ v28.toInt := by simp only [z32lt, z32le, z32eq] at h98_28; omega
          refine z_aload_n (pc := 122) C dX8_copy_122 rfl ?_
          refine z_aload_n (pc := 123) C dX8_copy_123 rfl ?_
          refine z_getI (pc := 124) C zf_X8_70 rfl rfl (by decide) dX8_copy_124 ?_
          refine w_gp (fun v => v = g93_ 1 1 8) rfl (fun v31 q31 => ?_)
          have e31 : v31.toInt = (g93_ 1 1 8).toInt := by rw [q31]
          have b31x : zB v31 0 8 := by first | exact zB.eqv e31 f93_1_1_8 | (have q9 := f93_1_1_8; constructor <;> omega)
          refine z_putI (pc := 127) C zf_X8_70 zp_8_8 rfl rfl (by decide) dX8_copy_127 ?_
          refine w_memx hI93_ hF93_ b31x rfl (fun g32 qm32 hI32 hF32 hq32 hx32 => ?_)
          have ek32_1_0_5 : (g32 1 0 5).toInt = (g93_ 1 0 5).toInt := by rw [hq32 1 0 5 (by omega)]
          have c32_1_0_5x : zB (g32 1 0 5) 0 24 := by first | exact zB.eqv ek32_1_0_5 f93_1_0_5 | (have q9 := f93_1_0_5; constructor <;> omega)
          have ek32_1_0_6 : (g32 1 0 6).toInt = (g93_ 1 0 6).toInt := by rw [hq32 1 0 6 (by omega)]
          have c32_1_0_6x : zB (g32 1 0 6) 0 8 := by first | exact zB.eqv ek32_1_0_6 f93_1_0_6 | (have q9 := f93_1_0_6; constructor <;> omega)
          have ek32_1_0_7 : (g32 1 0 7).toInt = (g93_ 1 0 7).toInt := by rw [hq32 1 0 7 (by omega)]
          have c32_1_0_7x : zB (g32 1 0 7) 0 12 := by first | exact zB.eqv ek32_1_0_7 f93_1_0_7 | (have q9 := f93_1_0_7; constructor <;> omega)
          have ec32 : (g32 1 0 8).toInt = v31.toInt := by rw [hx32]
          have c32x : zB (g32 1 0 8) 0 8 := by first | exact zB.eqv ec32 b31x | (have q9 := b31x; constructor <;> omega)
          have ek32_1_1_5 : (g32 1 1 5).toInt = (g93_ 1 1 5).toInt := by rw [hq32 1 1 5 (by omega)]
          have c32_1_1_5x : zB (g32 1 1 5) 0 24 := by first | exact zB.eqv ek32_1_1_5 f93_1_1_5 | (have q9 := f93_1_1_5; constructor <;> omega)
          have ek32_1_1_6 : (g32 1 1 6).toInt = (g93_ 1 1 6).toInt := by rw [hq32 1 1 6 (by omega)]
          have c32_1_1_6x : zB (g32 1 1 6) 0 8 := by first | exact zB.eqv ek32_1_1_6 f93_1_1_6 | (have q9 := f93_1_1_6; constructor <;> omega)
          have ek32_1_1_7 : (g32 1 1 7).toInt = (g93_ 1 1 7).toInt := by rw [hq32 1 1 7 (by omega)]
          have c32_1_1_7x : zB (g32 1 1 7) 0 12 := by first | exact zB.eqv ek32_1_1_7 f93_1_1_7 | (have q9 := f93_1_1_7; constructor <;> omega)
          have ek32_1_1_8 : (g32 1 1 8).toInt = (g93_ 1 1 8).toInt := by rw [(show g32 1 1 8 = g93_ 1 1 8 by rw [qm32]; exact zup_ne _ _ (by omega))]
          have c32_1_1_8x : zB (g32 1 1 8) 0 8 := by first | exact zB.eqv ek32_1_1_8 f93_1_1_8 | (have q9 := f93_1_1_8; constructor <;> omega)
          refine z_iconst (pc := 130) (v := 0) C dX8_copy_130 (by decide) ?_
          refine z_istore_n (pc := 131) C dX8_copy_131 (by rw [hn]; decide) rfl ?_
          exact ih3 0 (zB.wk (a' := 0) (b' := 8) (zB.of (x := 0) 0 (by decide)) (by decide) (by decide)) g32 hI32 hF32 c32_1_0_5x c32_1_0_6x c32_1_0_7x c32x c32_1_1_5x c32_1_1_6x c32_1_1_7x c32_1_1_8x (by have qc0 : (0 : Int32).toInt = 0 := (by decide); omega) (by have qc0 : (0 : Int32).toInt = 0 := (by decide); omega) (by have qc0 : (0 : Int32).toInt = 0 := (by decide); omega) (by have qc0 : (0 : Int32).toInt = 0 := (by decide); omega) (by have qc0 : (0 : Int32).toInt = 0 := (by decide); omega) (by have qc0 : (0 : Int32).toInt = 0 := (by decide); omega) (by have qc0 : (0 : Int32).toInt = 0 := (by decide); omega) (by have qc0 : (0 : Int32).toInt = 0 := (by decide); omega) (by have qc0 : (0 : Int32).toInt = 0 := (by decide); omega) (by
                                                                                          exact zcpd_keep hR93_8 (fun x j hj => by subst qm32; exact zup_ne _ _ (by omega))) (by
                                                                                          exact zcpd_keep hR93_9 (fun x j hj => by subst qm32; exact zup_ne _ _ (by omega))) (by
                                                                                          have hz : (f 1 1 7).toInt.toNat = a93_2.toInt.toNat := by omega
                                                                                          rw [hz]
                                                                                          exact zcpd_keep hR93_10 (fun x j hj => by subst qm32; exact zup_ne _ _ (by omega))) (by
                                                                                          show zcpd f g32 12 0 8 0 3 8
                                                                                          exact zcpd_keep hR93_11 (fun x j hj => by subst qm32; exact zup_ne _ _ (by omega))) (by intro n j; subst qm32; exact (zup_ne _ _ (by omega)).trans (hR93_12 n j)) (by have qc0 : (0 : Int32).toInt = 0 := (by decide); omega)
        · skip
          have rr33 : a93_2.toInt < v28.toInt := by simp only [z32lt, z32le, z32eq] at h98_28; omega
          have b34x : zB a93_2 0 11 := by have q1 := b93_2; have q2 := b28x; simp only [z32lt, z32le, z32eq, Int32.reduceToInt, Int32.toInt_zero] at h98_28; constructor <;> omega
          have b35x : zB v28 1 12 := by have q1 := b93_2; have q2 := b28x; simp only [z32lt, z32le, z32eq, Int32.reduceToInt, Int32.toInt_zero] at h98_28; constructor <;> omega
          have c36x : zB (g93_ 1 0 7) 1 12 := by first | assumption | (constructor <;> omega)
          refine z_aload_n (pc := 101) C dX8_copy_101 rfl ?_
          refine z_getR (pc := 102) C zf_X8_25 rfl rfl (by decide) dX8_copy_102 ?_
          refine z_iload_n (pc := 105) C dX8_copy_105 rfl ?_
          refine z_aald (pc := 106) C rfl ⟨rfl, by decide⟩ (by decide) (zIx b34x (by decide) (by decide)) dX8_copy_106 ?_
          refine w_grx (by have hq := zN b34x (by decide); show 12 * 0 + a93_2.toNatClampNeg < 36; omega) (fun m37 q37r h37x => ?_)
          have q37r : m37 = 12 * 0 + a93_2.toNatClampNeg := q37r
          have k37r : a93_2.toNatClampNeg = a93_2.toInt.toNat := rfl
          refine z_aload_n (pc := 107) C dX8_copy_107 rfl ?_
          refine z_getR (pc := 108) C zf_X8_25 rfl rfl (by decide) dX8_copy_108 ?_
          refine z_iload_n (pc := 111) C dX8_copy_111 rfl ?_
          refine z_aald (pc := 112) C rfl ⟨rfl, by decide⟩ (by decide) (zIx b34x (by decide) (by decide)) dX8_copy_112 ?_
          refine w_grx (by have hq := zN b34x (by decide); show 12 * 1 + a93_2.toNatClampNeg < 36; omega) (fun m38 q38r h38x => ?_)
          have q38r : m38 = 12 * 1 + a93_2.toNatClampNeg := q38r
          have k38r : a93_2.toNatClampNeg = a93_2.toInt.toNat := rfl
          refine z_callV (pc := 113) C zk_X8_67 (x_X4_copy _ _ m37 h37x m38 h38x (by omega) hI93_) rfl rfl h37x rfl rfl (Nat.le_of_ble_eq_true rfl) dX8_copy_113 (fun r39 g39 q39 => ?_)
          obtain ⟨rfl, hI39, hF39q, hp39_0, hp39_1⟩ := q39
          have hF39 := zFr.tr hF93_ hF39q (by decide)
          simp only [Option.toList, List.cons_append, List.nil_append]
          have ek39_1_0_5 : (g39 1 0 5).toInt = (g93_ 1 0 5).toInt := by rw [hF39q 1 0 5 rfl]
          have c39_1_0_5x : zB (g39 1 0 5) 0 24 := by first | exact zB.eqv ek39_1_0_5 f93_1_0_5 | (have q9 := f93_1_0_5; constructor <;> omega)
          have ek39_1_0_6 : (g39 1 0 6).toInt = (g93_ 1 0 6).toInt := by rw [hF39q 1 0 6 rfl]
          have c39_1_0_6x : zB (g39 1 0 6) 0 8 := by first | exact zB.eqv ek39_1_0_6 f93_1_0_6 | (have q9 := f93_1_0_6; constructor <;> omega)
          have ek39_1_0_7 : (g39 1 0 7).toInt = (g93_ 1 0 7).toInt := by rw [hF39q 1 0 7 rfl]
          have c39_1_0_7x : zB (g39 1 0 7) 1 12 := by first | exact zB.eqv ek39_1_0_7 c36x | (have q9 := c36x; constructor <;> omega)
          have ek39_1_0_8 : (g39 1 0 8).toInt = (g93_ 1 0 8).toInt := by rw [hF39q 1 0 8 rfl]
          have c39_1_0_8x : zB (g39 1 0 8) 0 8 := by first | exact zB.eqv ek39_1_0_8 f93_1_0_8 | (have q9 := f93_1_0_8; constructor <;> omega)
          have ek39_1_1_5 : (g39 1 1 5).toInt = (g93_ 1 1 5).toInt := by rw [hF39q 1 1 5 rfl]
          have c39_1_1_5x : zB (g39 1 1 5) 0 24 := by first | exact zB.eqv ek39_1_1_5 f93_1_1_5 | (have q9 := f93_1_1_5; constructor <;> omega)
          have ek39_1_1_6 : (g39 1 1 6).toInt = (g93_ 1 1 6).toInt := by rw [hF39q 1 1 6 rfl]
          have c39_1_1_6x : zB (g39 1 1 6) 0 8 := by first | exact zB.eqv ek39_1_1_6 f93_1_1_6 | (have q9 := f93_1_1_6; constructor <;> omega)
          have ek39_1_1_7 : (g39 1 1 7).toInt = (g93_ 1 1 7).toInt := by rw [hF39q 1 1 7 rfl]
          have c39_1_1_7x : zB (g39 1 1 7) 0 12 := by first | exact zB.eqv ek39_1_1_7 f93_1_1_7 | (have q9 := f93_1_1_7; constructor <;> omega)
          have ek39_1_1_8 : (g39 1 1 8).toInt = (g93_ 1 1 8).toInt := by rw [hF39q 1 1 8 rfl]
          have c39_1_1_8x : zB (g39 1 1 8) 0 8 := by first | exact zB.eqv ek39_1_1_8 f93_1_1_8 | (have q9 := f93_1_1_8; constructor <;> omega)
          refine z_iinc (pc := 116) (v := 1) C dX8_copy_116 rfl (by decide) (by rw [hn]; decide) rfl ?_
          obtain ⟨v40, hv40, e40⟩ : ∃ v : Int32, v = a93_2 + 1 ∧ v.toInt = a93_2.toInt + 1 := ⟨_, rfl, zadd_eb b34x (zB.of (x := 1) 1 (by decide)) (by decide) (by decide)⟩
          rw [← hv40]
          have b40x : zB v40 1 12 := by have q9 := b34x; constructor <;> omega
          refine z_goto (pc := 119) 93 C dX8_copy_119 (by decide) ?_
          exact ih2 v40 (zB.wk (a' := 0) (b' := 12) b40x (by decide) (by decide)) g39 hI39 hF39 c39_1_0_5x c39_1_0_6x (zB.wk c39_1_0_7x (by decide) (by decide)) c39_1_0_8x c39_1_1_5x c39_1_1_6x c39_1_1_7x c39_1_1_8x (by omega) (by omega) (by omega) (by omega) (by omega) (by omega) (by omega) (by omega) (by
                                                                                          exact zcpd_keep hR93_8 (fun x j hj => hF39q 7 x j rfl)) (by
                                                                                          exact zcpd_keep hR93_9 (fun x j hj => hF39q 8 x j rfl)) (by
                                                                                          have hn : (v40).toInt.toNat = a93_2.toInt.toNat + 1 := by omega
                                                                                          rw [hn]
                                                                                          have hm0 : m37 = 0 + a93_2.toInt.toNat := by omega
                                                                                          have hm1 : m38 = 12 + a93_2.toInt.toNat := by omega
                                                                                          refine zcpd_s hR93_10 (by omega) (by omega) (fun j hj => ?_) (fun x j hx hj => ?_)
                                                                                          · rw [← hm0, ← hm1]; exact hp39_0 j hj
                                                                                          · exact hp39_1 x j (by omega)) (by
                                                                                          exact zcpd_keep hR93_11 (fun x j hj => hF39q 12 x j rfl)) (by intro n j; exact (hF39q 6 n j rfl).trans (hR93_12 n j)) (by omega)
      · skip
        intro a132_2 b132_2 g132_ hI132_ hF132_ f132_1_0_5 f132_1_0_6 f132_1_0_7 f132_1_0_8 f132_1_1_5 f132_1_1_6 f132_1_1_7 f132_1_1_8 hR132_0 hR132_1 hR132_2 hR132_3 hR132_4 hR132_5 hR132_6 hR132_7 hR132_8 hR132_9 hR132_10 hR132_11 hR132_12 hR132_13 hM132_
        refine z_iload_n (pc := 132) C dX8_copy_132 rfl ?_
        refine z_aload_n (pc := 133) C dX8_copy_133 rfl ?_
        refine z_getI (pc := 134) C zf_X8_70 rfl rfl (by decide) dX8_copy_134 ?_
        refine w_gp (fun v => v = g132_ 1 0 8) rfl (fun v41 q41 => ?_)
        have e41 : v41.toInt = (g132_ 1 0 8).toInt := by rw [q41]
        have b41x : zB v41 0 8 := by first | exact zB.eqv e41 f132_1_0_8 | (have q9 := f132_1_0_8; constructor <;> omega)
        refine z_icmp_ge (pc := 137) 182 C dX8_copy_137 (by decide) (fun h137_41 => ?_) (fun h137_41 => ?_)
        · skip
          have rr43 : a132_2.toInt ≥ v41.toInt := by simp only [z32lt, z32le, z32eq] at h137_41; omega
          refine z_aload_n (pc := 182) C dX8_copy_182 rfl ?_
          refine z_getR (pc := 183) C zf_X8_38 rfl rfl (by decide) dX8_copy_183 ?_
          refine z_aload_n (pc := 186) C dX8_copy_186 rfl ?_
          refine z_getR (pc := 187) C zf_X8_38 rfl rfl (by decide) dX8_copy_187 ?_
          refine z_callV (pc := 190) C zk_X8_85 (x_X3_copy _ _ 0 (by decide) 1 (by decide) (by decide) hI132_) rfl rfl (by decide) rfl rfl (Nat.le_of_ble_eq_true rfl) dX8_copy_190 (fun r44 g44 q44 => ?_)
          obtain ⟨rfl, hI44, hF44q, hp44_0, hp44_1⟩ := q44
          have hF44 := zFr.tr hF132_ hF44q (by decide)
          simp only [Option.toList, List.cons_append, List.nil_append]
          have ek44_1_0_5 : (g44 1 0 5).toInt = (g132_ 1 0 5).toInt := by rw [hF44q 1 0 5 rfl]
          have c44_1_0_5x : zB (g44 1 0 5) 0 24 := by first | exact zB.eqv ek44_1_0_5 f132_1_0_5 | (have q9 := f132_1_0_5; constructor <;> omega)
          have ek44_1_0_6 : (g44 1 0 6).toInt = (g132_ 1 0 6).toInt := by rw [hF44q 1 0 6 rfl]
          have c44_1_0_6x : zB (g44 1 0 6) 0 8 := by first | exact zB.eqv ek44_1_0_6 f132_1_0_6 | (have q9 := f132_1_0_6; constructor <;> omega)
          have ek44_1_0_7 : (g44 1 0 7).toInt = (g132_ 1 0 7).toInt := by rw [hF44q 1 0 7 rfl]
          have c44_1_0_7x : zB (g44 1 0 7) 0 12 := by first | exact zB.eqv ek44_1_0_7 f132_1_0_7 | (have q9 := f132_1_0_7; constructor <;> omega)
          have ek44_1_0_8 : (g44 1 0 8).toInt = (g132_ 1 0 8).toInt := by rw [hF44q 1 0 8 rfl]
          have c44_1_0_8x : zB (g44 1 0 8) 0 8 := by first | exact zB.eqv ek44_1_0_8 f132_1_0_8 | (have q9 := f132_1_0_8; constructor <;> omega)
          have ek44_1_1_5 : (g44 1 1 5).toInt = (g132_ 1 1 5).toInt := by rw [hF44q 1 1 5 rfl]
          have c44_1_1_5x : zB (g44 1 1 5) 0 24 := by first | exact zB.eqv ek44_1_1_5 f132_1_1_5 | (have q9 := f132_1_1_5; constructor <;> omega)
          have ek44_1_1_6 : (g44 1 1 6).toInt = (g132_ 1 1 6).toInt := by rw [hF44q 1 1 6 rfl]
          have c44_1_1_6x : zB (g44 1 1 6) 0 8 := by first | exact zB.eqv ek44_1_1_6 f132_1_1_6 | (have q9 := f132_1_1_6; constructor <;> omega)
          have ek44_1_1_7 : (g44 1 1 7).toInt = (g132_ 1 1 7).toInt := by rw [hF44q 1 1 7 rfl]
          have c44_1_1_7x : zB (g44 1 1 7) 0 12 := by first | exact zB.eqv ek44_1_1_7 f132_1_1_7 | (have q9 := f132_1_1_7; constructor <;> omega)
          have ek44_1_1_8 : (g44 1 1 8).toInt = (g132_ 1 1 8).toInt := by rw [hF44q 1 1 8 rfl]
          have c44_1_1_8x : zB (g44 1 1 8) 0 8 := by first | exact zB.eqv ek44_1_1_8 f132_1_1_8 | (have q9 := f132_1_1_8; constructor <;> omega)
          exact z_vret (pc := 193) C hr dX8_copy_193 ⟨rfl, hI44, hF44, (by rw [z32eq]; omega), (by rw [z32eq]; omega), (by rw [z32eq]; omega), (by rw [z32eq]; omega), (by rw [z32eq]; omega), (by rw [z32eq]; omega), (by rw [z32eq]; omega), (by rw [z32eq]; omega), (by
                                                                                          exact zcpd_keep hR132_9 (fun x j hj => hF44q 7 x j rfl)), (by
                                                                                          exact zcpd_keep hR132_10 (fun x j hj => hF44q 8 x j rfl)), (by
                                                                                          exact zcpd_keep hR132_11 (fun x j hj => hF44q 11 x j rfl)), (by
                                                                                          have hz : (f 1 1 8).toInt.toNat = a132_2.toInt.toNat := by omega
                                                                                          rw [hz]
                                                                                          exact zcpd_keep hR132_12 (fun x j hj => hF44q 12 x j rfl)), (by
                                                                                          intro j hj
                                                                                          rw [hp44_0 j hj]
                                                                                          exact hR132_13 1 j), (by
                                                                                          intro j hj
                                                                                          rw [hp44_1 1 j (by decide)]
                                                                                          exact hR132_13 1 j)⟩
        · skip
          have rr45 : a132_2.toInt < v41.toInt := by simp only [z32lt, z32le, z32eq] at h137_41; omega
          have b46x : zB a132_2 0 7 := by have q1 := b132_2; have q2 := b41x; simp only [z32lt, z32le, z32eq, Int32.reduceToInt, Int32.toInt_zero] at h137_41; constructor <;> omega
          have b47x : zB v41 1 8 := by have q1 := b132_2; have q2 := b41x; simp only [z32lt, z32le, z32eq, Int32.reduceToInt, Int32.toInt_zero] at h137_41; constructor <;> omega
          have c48x : zB (g132_ 1 0 8) 1 8 := by first | assumption | (constructor <;> omega)
          refine z_aload_n (pc := 140) C dX8_copy_140 rfl ?_
          refine z_getR (pc := 141) C zf_X8_31 rfl rfl (by decide) dX8_copy_141 ?_
          refine z_iload_n (pc := 144) C dX8_copy_144 rfl ?_
          refine z_aald (pc := 145) C rfl ⟨rfl, by decide⟩ (by decide) (zIx b46x (by decide) (by decide)) dX8_copy_145 ?_
          refine w_grx (by have hq := zN b46x (by decide); show 8 * 0 + a132_2.toNatClampNeg < 16; omega) (fun m49 q49r h49x => ?_)
          have q49r : m49 = 8 * 0 + a132_2.toNatClampNeg := q49r
          have k49r : a132_2.toNatClampNeg = a132_2.toInt.toNat := rfl
          refine z_aload_n (pc := 146) C dX8_copy_146 rfl ?_
          refine z_getR (pc := 147) C zf_X8_31 rfl rfl (by decide) dX8_copy_147 ?_
          refine z_iload_n (pc := 150) C dX8_copy_150 rfl ?_
          refine z_aald (pc := 151) C rfl ⟨rfl, by decide⟩ (by decide) (zIx b46x (by decide) (by decide)) dX8_copy_151 ?_
          refine w_grx (by have hq := zN b46x (by decide); show 8 * 1 + a132_2.toNatClampNeg < 16; omega) (fun m50 q50r h50x => ?_)
          have q50r : m50 = 8 * 1 + a132_2.toNatClampNeg := q50r
          have k50r : a132_2.toNatClampNeg = a132_2.toInt.toNat := rfl
          refine z_getI (pc := 152) C zf_X8_73 rfl rfl h50x dX8_copy_152 ?_
          refine w_gp (fun v => v = g132_ 12 m50 0) rfl (fun v52 q52 => ?_)
          have b52x : zB v52 0 5 := by rw [q52]; exact (hI132_ 12 m50 0)
          refine z_aload_n (pc := 155) C dX8_copy_155 rfl ?_
          refine z_getR (pc := 156) C zf_X8_31 rfl rfl (by decide) dX8_copy_156 ?_
          refine z_iload_n (pc := 159) C dX8_copy_159 rfl ?_
          refine z_aald (pc := 160) C rfl ⟨rfl, by decide⟩ (by decide) (zIx b46x (by decide) (by decide)) dX8_copy_160 ?_
          refine w_grx (by have hq := zN b46x (by decide); show 8 * 1 + a132_2.toNatClampNeg < 16; omega) (fun m53 q53r h53x => ?_)
          have q53r : m53 = 8 * 1 + a132_2.toNatClampNeg := q53r
          have k53r : a132_2.toNatClampNeg = a132_2.toInt.toNat := rfl
          refine z_getI (pc := 161) C zf_X8_76 rfl rfl h53x dX8_copy_161 ?_
          refine w_gp (fun v => v = g132_ 12 m53 1) rfl (fun v55 q55 => ?_)
          have b55x : zB v55 0 255 := by rw [q55]; exact (hI132_ 12 m53 1)
          refine z_aload_n (pc := 164) C dX8_copy_164 rfl ?_
          refine z_getR (pc := 165) C zf_X8_31 rfl rfl (by decide) dX8_copy_165 ?_
          refine z_iload_n (pc := 168) C dX8_copy_168 rfl ?_
          refine z_aald (pc := 169) C rfl ⟨rfl, by decide⟩ (by decide) (zIx b46x (by decide) (by decide)) dX8_copy_169 ?_
          refine w_grx (by have hq := zN b46x (by decide); show 8 * 1 + a132_2.toNatClampNeg < 16; omega) (fun m56 q56r h56x => ?_)
          have q56r : m56 = 8 * 1 + a132_2.toNatClampNeg := q56r
          have k56r : a132_2.toNatClampNeg = a132_2.toInt.toNat := rfl
          refine z_getI (pc := 170) C zf_X8_78 rfl rfl h56x dX8_copy_170 ?_
          refine w_gp (fun v => v = g132_ 12 m56 2) rfl (fun v58 q58 => ?_)
          have b58x : zB v58 0 99 := by rw [q58]; exact (hI132_ 12 m56 2)
          refine z_callV (pc := 173) C zk_X8_81 (x_X2_tell _ _ m49 h49x v52 b52x v55 b55x v58 b58x hI132_) rfl rfl h49x rfl rfl (Nat.le_of_ble_eq_true rfl) dX8_copy_173 (fun r59 g59 q59 => ?_)
          obtain ⟨rfl, hI59, hF59q, hp59_0⟩ := q59
          have hF59 := zFr.tr hF132_ hF59q (by decide)
          simp only [Option.toList, List.cons_append, List.nil_append]
          have ek59_1_0_5 : (g59 1 0 5).toInt = (g132_ 1 0 5).toInt := by rw [hF59q 1 0 5 rfl]
          have c59_1_0_5x : zB (g59 1 0 5) 0 24 := by first | exact zB.eqv ek59_1_0_5 f132_1_0_5 | (have q9 := f132_1_0_5; constructor <;> omega)
          have ek59_1_0_6 : (g59 1 0 6).toInt = (g132_ 1 0 6).toInt := by rw [hF59q 1 0 6 rfl]
          have c59_1_0_6x : zB (g59 1 0 6) 0 8 := by first | exact zB.eqv ek59_1_0_6 f132_1_0_6 | (have q9 := f132_1_0_6; constructor <;> omega)
          have ek59_1_0_7 : (g59 1 0 7).toInt = (g132_ 1 0 7).toInt := by rw [hF59q 1 0 7 rfl]
          have c59_1_0_7x : zB (g59 1 0 7) 0 12 := by first | exact zB.eqv ek59_1_0_7 f132_1_0_7 | (have q9 := f132_1_0_7; constructor <;> omega)
          have ek59_1_0_8 : (g59 1 0 8).toInt = (g132_ 1 0 8).toInt := by rw [hF59q 1 0 8 rfl]
          have c59_1_0_8x : zB (g59 1 0 8) 1 8 := by first | exact zB.eqv ek59_1_0_8 c48x | (have q9 := c48x; constructor <;> omega)
          have ek59_1_1_5 : (g59 1 1 5).toInt = (g132_ 1 1 5).toInt := by rw [hF59q 1 1 5 rfl]
          have c59_1_1_5x : zB (g59 1 1 5) 0 24 := by first | exact zB.eqv ek59_1_1_5 f132_1_1_5 | (have q9 := f132_1_1_5; constructor <;> omega)
          have ek59_1_1_6 : (g59 1 1 6).toInt = (g132_ 1 1 6).toInt := by rw [hF59q 1 1 6 rfl]
          have c59_1_1_6x : zB (g59 1 1 6) 0 8 := by first | exact zB.eqv ek59_1_1_6 f132_1_1_6 | (have q9 := f132_1_1_6; constructor <;> omega)
          have ek59_1_1_7 : (g59 1 1 7).toInt = (g132_ 1 1 7).toInt := by rw [hF59q 1 1 7 rfl]
          have c59_1_1_7x : zB (g59 1 1 7) 0 12 := by first | exact zB.eqv ek59_1_1_7 f132_1_1_7 | (have q9 := f132_1_1_7; constructor <;> omega)
          have ek59_1_1_8 : (g59 1 1 8).toInt = (g132_ 1 1 8).toInt := by rw [hF59q 1 1 8 rfl]
          have c59_1_1_8x : zB (g59 1 1 8) 0 8 := by first | exact zB.eqv ek59_1_1_8 f132_1_1_8 | (have q9 := f132_1_1_8; constructor <;> omega)
          refine z_iinc (pc := 176) (v := 1) C dX8_copy_176 rfl (by decide) (by rw [hn]; decide) rfl ?_
          obtain ⟨v60, hv60, e60⟩ : ∃ v : Int32, v = a132_2 + 1 ∧ v.toInt = a132_2.toInt + 1 := ⟨_, rfl, zadd_eb b46x (zB.of (x := 1) 1 (by decide)) (by decide) (by decide)⟩
          rw [← hv60]
          have b60x : zB v60 1 8 := by have q9 := b46x; constructor <;> omega
          refine z_goto (pc := 179) 132 C dX8_copy_179 (by decide) ?_
          exact ih3 v60 (zB.wk (a' := 0) (b' := 8) b60x (by decide) (by decide)) g59 hI59 hF59 c59_1_0_5x c59_1_0_6x c59_1_0_7x (zB.wk c59_1_0_8x (by decide) (by decide)) c59_1_1_5x c59_1_1_6x c59_1_1_7x c59_1_1_8x (by omega) (by omega) (by omega) (by omega) (by omega) (by omega) (by omega) (by omega) (by omega) (by
                                                                                          exact zcpd_keep hR132_9 (fun x j hj => hF59q 7 x j rfl)) (by
                                                                                          exact zcpd_keep hR132_10 (fun x j hj => hF59q 8 x j rfl)) (by
                                                                                          exact zcpd_keep hR132_11 (fun x j hj => hF59q 11 x j rfl)) (by
                                                                                          have hn : (v60).toInt.toNat = a132_2.toInt.toNat + 1 := by omega
                                                                                          rw [hn]
                                                                                          have hm0 : m49 = 0 + a132_2.toInt.toNat := by omega
                                                                                          have hg := hp59_0
                                                                                          have w1 : m50 = 8 + a132_2.toInt.toNat := by omega
                                                                                          have w2 : m53 = 8 + a132_2.toInt.toNat := by omega
                                                                                          have w3 : m56 = 8 + a132_2.toInt.toNat := by omega
                                                                                          have q1 := q52
                                                                                          have q2 := q55
                                                                                          have q3 := q58
                                                                                          rw [w1] at q1
                                                                                          rw [w2] at q2
                                                                                          rw [w3] at q3
                                                                                          refine zcpd_s hR132_12 (by omega) (by omega) (fun j hj => ?_) (fun x j hx hj => ?_)
                                                                                          · rw [← hm0, hg]
                                                                                            rcases (show j = 0 ∨ j = 1 ∨ j = 2 by omega) with rfl | rfl | rfl
                                                                                            · simpa [zup] using q1
                                                                                            · simpa [zup] using q2
                                                                                            · simpa [zup] using q3
                                                                                          · rw [hg, zup_ne _ _ (by omega), zup_ne _ _ (by omega), zup_ne _ _ (by omega)]) (by intro n j; exact (hF59q 6 n j rfl).trans (hR132_13 n j)) (by omega)
  obtain ⟨J0, J1, J2, J3⟩ := J 218409
  show Z X 0 [some (zr 1 0), some (zr 1 1), none] [] f
  refine z_aload_n (pc := 0) C dX8_copy_0 rfl ?_
  refine z_aload_n (pc := 1) C dX8_copy_1 rfl ?_
  refine z_getI (pc := 2) C zf_X8_46 rfl rfl (by decide) dX8_copy_2 ?_
  refine w_gp (fun v => v = f 1 1 5) rfl (fun v61 q61 => ?_)
  have e61 : v61.toInt = (f 1 1 5).toInt := by rw [q61]
  have b61x : zB v61 0 24 := by first | exact zB.eqv e61 ct1_1_5 | (have q9 := ct1_1_5; constructor <;> omega)
  refine z_putI (pc := 5) C zf_X8_46 zp_8_5 rfl rfl (by decide) dX8_copy_5 ?_
  refine w_memx hI hF b61x rfl (fun g62 qm62 hI62 hF62 hq62 hx62 => ?_)
  have ec62 : (g62 1 0 5).toInt = v61.toInt := by rw [hx62]
  have c62x : zB (g62 1 0 5) 0 24 := by first | exact zB.eqv ec62 b61x | (have q9 := b61x; constructor <;> omega)
  have ek62_1_0_6 : (g62 1 0 6).toInt = (f 1 0 6).toInt := by rw [hq62 1 0 6 (by omega)]
  have c62_1_0_6x : zB (g62 1 0 6) 0 8 := by first | exact zB.eqv ek62_1_0_6 ct1_0_6 | (have q9 := ct1_0_6; constructor <;> omega)
  have ek62_1_0_7 : (g62 1 0 7).toInt = (f 1 0 7).toInt := by rw [hq62 1 0 7 (by omega)]
  have c62_1_0_7x : zB (g62 1 0 7) 0 12 := by first | exact zB.eqv ek62_1_0_7 ct1_0_7 | (have q9 := ct1_0_7; constructor <;> omega)
  have ek62_1_0_8 : (g62 1 0 8).toInt = (f 1 0 8).toInt := by rw [hq62 1 0 8 (by omega)]
  have c62_1_0_8x : zB (g62 1 0 8) 0 8 := by first | exact zB.eqv ek62_1_0_8 ct1_0_8 | (have q9 := ct1_0_8; constructor <;> omega)
  have ek62_1_1_5 : (g62 1 1 5).toInt = (f 1 1 5).toInt := by rw [(show g62 1 1 5 = f 1 1 5 by rw [qm62]; exact zup_ne _ _ (by omega))]
  have c62_1_1_5x : zB (g62 1 1 5) 0 24 := by first | exact zB.eqv ek62_1_1_5 ct1_1_5 | (have q9 := ct1_1_5; constructor <;> omega)
  have ek62_1_1_6 : (g62 1 1 6).toInt = (f 1 1 6).toInt := by rw [hq62 1 1 6 (by omega)]
  have c62_1_1_6x : zB (g62 1 1 6) 0 8 := by first | exact zB.eqv ek62_1_1_6 ct1_1_6 | (have q9 := ct1_1_6; constructor <;> omega)
  have ek62_1_1_7 : (g62 1 1 7).toInt = (f 1 1 7).toInt := by rw [hq62 1 1 7 (by omega)]
  have c62_1_1_7x : zB (g62 1 1 7) 0 12 := by first | exact zB.eqv ek62_1_1_7 ct1_1_7 | (have q9 := ct1_1_7; constructor <;> omega)
  have ek62_1_1_8 : (g62 1 1 8).toInt = (f 1 1 8).toInt := by rw [hq62 1 1 8 (by omega)]
  have c62_1_1_8x : zB (g62 1 1 8) 0 8 := by first | exact zB.eqv ek62_1_1_8 ct1_1_8 | (have q9 := ct1_1_8; constructor <;> omega)
  refine z_iconst (pc := 8) (v := 0) C dX8_copy_8 (by decide) ?_
  refine z_istore_n (pc := 9) C dX8_copy_9 (by rw [hn]; decide) rfl ?_
  exact J0 0 (zB.wk (a' := 0) (b' := 24) (zB.of (x := 0) 0 (by decide)) (by decide) (by decide)) g62 hI62 hF62 c62x c62_1_0_6x c62_1_0_7x c62_1_0_8x c62_1_1_5x c62_1_1_6x c62_1_1_7x c62_1_1_8x (by have qc0 : (0 : Int32).toInt = 0 := (by decide); omega) (by have qc0 : (0 : Int32).toInt = 0 := (by decide); omega) (by have qc0 : (0 : Int32).toInt = 0 := (by decide); omega) (by have qc0 : (0 : Int32).toInt = 0 := (by decide); omega) (by have qc0 : (0 : Int32).toInt = 0 := (by decide); omega) (by have qc0 : (0 : Int32).toInt = 0 := (by decide); omega) (by exact zcpd_0 (fun x j hj => by subst qm62; exact zup_ne _ _ (by omega))) (by exact zcpd_0 (fun x j hj => by subst qm62; exact zup_ne _ _ (by omega))) (by exact zcpd_0 (fun x j hj => by subst qm62; exact zup_ne _ _ (by omega))) (by exact zcpd_0 (fun x j hj => by subst qm62; exact zup_ne _ _ (by omega))) (by intro n j; subst qm62; exact zup_ne _ _ (by omega)) (by have qc0 : (0 : Int32).toInt = 0 := (by decide); omega)
