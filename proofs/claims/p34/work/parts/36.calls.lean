set_option maxRecDepth 100000 in
set_option maxHeartbeats 4000000 in
theorem w_X9_sheetA (d : Nat) (f : zM) (a1 : Int32) (b1 : zB a1 (-2147483648) 2147483647) (a2 : Int32) (b2 : zB a2 (-2147483648) 2147483647) (a3 : Int32) (b3 : zB a3 (-2147483648) 2147483647) (hI : zInv f) : ZM (d + 2) yX9_sheet cX9_sheet 4 (some .int) [zr 0 0, zi a1, zi a2, zi a3] f (fun r g => (∃ v, r = some (zi v) ∧ zB v (-14) 16) ∧ zInv g ∧ zFr [(23, some 1), (23, some 2), (24, none)] f g ∧ (∀ v : Int32, r = some (zi v) → (((0 ≤ a1.toInt ∧ a1.toInt ≤ 3 ∧ 0 ≤ a2.toInt ∧ a2.toInt ≤ 2 ∧ a3.toInt ≤ 16) → (a3.toInt < 0 → v.toInt = -14) ∧ (0 ≤ a3.toInt → v.toInt = a3.toInt)) ∧ (¬ (0 ≤ a1.toInt ∧ a1.toInt ≤ 3 ∧ 0 ≤ a2.toInt ∧ a2.toInt ≤ 2 ∧ a3.toInt ≤ 16) → v.toInt = -1)))) := by
  refine ZM.intro (by decide +kernel) (Nat.le_of_ble_eq_true rfl) ?_
  intro X C hr hn
  have hF : zFr [(23, some 1), (23, some 2), (24, none)] f f := zFr.rf _ _
  have J : ∀ t : Nat, (∀ g : zM, zInv g → zFr [(23, some 1), (23, some 2), (24, none)] f g → (¬ (0 ≤ a1.toInt ∧ a1.toInt ≤ 3 ∧ 0 ≤ a2.toInt ∧ a2.toInt ≤ 2 ∧ a3.toInt ≤ 16)) → (0 : Int) < t → Z X 20 [some (zr 0 0), some (zi a1), some (zi a2), some (zi a3)] [] g) := by
    intro t
    induction t with
    | zero =>
      intros; exfalso; omega
    | succ t ih =>
      have ih0 := ih
      intro g20_ hI20_ hF20_ hR20_0 hM20_
      refine z_iconst (pc := 20) (v := -1) C dX9_sheet_20 (by decide) ?_
      exact z_iret (pc := 21) C hr dX9_sheet_21 ⟨⟨_, rfl, (zB.wk (a' := (-14)) (b' := 16) (zB.of (x := (-1)) (-1) (by decide)) (by decide) (by decide))⟩, hI20_, hF20_, (by intro v hv; cases hv; have qc0 : ((-1) : Int32).toInt = (-1) := (by decide); omega)⟩
  have J0 := J 12
  show Z X 0 [some (zr 0 0), some (zi a1), some (zi a2), some (zi a3)] [] f
  refine z_iload_n (pc := 0) C dX9_sheet_0 rfl ?_
  refine z_callSb (pc := 1) C zk_X9_195 (m_X9_isSheet _ _ _) rfl rfl (Nat.le_of_ble_eq_true rfl) dX9_sheet_1 (fun h1_0 => ?_) (fun h1_0 => ?_)
  · skip
    have b2x : zB a1 0 3 := h1_0
    refine z_if_eq (pc := 4) 20 C dX9_sheet_4 (by decide) (fun h => absurd h (by decide)) (fun _ => ?_)
    refine z_iload_n (pc := 7) C dX9_sheet_7 rfl ?_
    refine z_callSb (pc := 8) C zk_X9_198 (m_X9_isLane _ _ _) rfl rfl (Nat.le_of_ble_eq_true rfl) dX9_sheet_8 (fun h8_2 => ?_) (fun h8_2 => ?_)
    · skip
      have b4x : zB a2 0 2 := h8_2
      refine z_if_eq (pc := 11) 20 C dX9_sheet_11 (by decide) (fun h => absurd h (by decide)) (fun _ => ?_)
      refine z_iload_n (pc := 14) C dX9_sheet_14 rfl ?_
      refine z_bipush (pc := 15) (v := 16) C dX9_sheet_15 (by decide) ?_
      refine z_icmp_le (pc := 17) 22 C dX9_sheet_17 (by decide) (fun h17_4 => ?_) (fun h17_4 => ?_)
      · skip
        have b6x : zB a3 (-2147483648) 16 := by have q1 := b3; have q2 := (zB.of (x := 16) 16 (by decide)); simp only [z32lt, z32le, z32eq, Int32.reduceToInt, Int32.toInt_zero] at h17_4; constructor <;> omega
        refine z_iload_n (pc := 22) C dX9_sheet_22 rfl ?_
        refine z_if_ge (pc := 23) 29 C dX9_sheet_23 (by decide) (fun h23_6 => ?_) (fun h23_6 => ?_)
        · skip
          have b8x : zB a3 0 16 := by have q1 := b6x; have q2 := (zB.of (x := 0) 0 (by decide)); simp only [z32lt, z32le, z32eq, Int32.reduceToInt, Int32.toInt_zero] at h23_6; constructor <;> omega
          refine z_aload_n (pc := 29) C dX9_sheet_29 rfl ?_
          refine z_getR (pc := 30) C zf_X9_37 rfl rfl (by decide) dX9_sheet_30 ?_
          refine z_iload_n (pc := 33) C dX9_sheet_33 rfl ?_
          refine z_aald (pc := 34) C rfl ⟨rfl, by decide⟩ (by decide) (zIx b2x (by decide) (by decide)) dX9_sheet_34 ?_
          refine w_gr (by have hq := zN b2x (by decide); show a1.toNatClampNeg < 4; omega) (fun m9 h9x => ?_)
          refine z_iload_n (pc := 35) C dX9_sheet_35 rfl ?_
          refine z_iload_n (pc := 36) C dX9_sheet_36 rfl ?_
          refine z_callV (pc := 37) C zk_X9_332 (w_X6_begin _ _ m9 h9x a2 b4x a3 b8x hI) rfl rfl h9x rfl rfl (Nat.le_of_ble_eq_true rfl) dX9_sheet_37 (fun r10 g10 q10 => ?_)
          obtain ⟨rfl, hI10, hF10q⟩ := q10
          have hF10 := zFr.tr hF hF10q (by decide)
          simp only [Option.toList, List.cons_append, List.nil_append]
          refine z_iload_n (pc := 40) C dX9_sheet_40 rfl ?_
          exact z_iret (pc := 41) C hr dX9_sheet_41 ⟨⟨_, rfl, (zB.wk (a' := (-14)) (b' := 16) b8x (by decide) (by decide))⟩, hI10, hF10, (by intro v hv; cases hv; omega)⟩
        · skip
          have b11x : zB a3 (-2147483648) (-1) := by have q1 := b6x; have q2 := (zB.of (x := 0) 0 (by decide)); simp only [z32lt, z32le, z32eq, Int32.reduceToInt, Int32.toInt_zero] at h23_6; constructor <;> omega
          refine z_bipush (pc := 26) (v := -14) C dX9_sheet_26 (by decide) ?_
          exact z_iret (pc := 28) C hr dX9_sheet_28 ⟨⟨_, rfl, (zB.wk (a' := (-14)) (b' := 16) (zB.of (x := (-14)) (-14) (by decide)) (by decide) (by decide))⟩, hI, hF, (by intro v hv; cases hv; have qc0 : ((-14) : Int32).toInt = (-14) := (by decide); omega)⟩
      · skip
        have b12x : zB a3 17 2147483647 := by have q1 := b3; have q2 := (zB.of (x := 16) 16 (by decide)); simp only [z32lt, z32le, z32eq, Int32.reduceToInt, Int32.toInt_zero] at h17_4; constructor <;> omega
        exact J0  f hI hF (by omega) (by omega)
    · skip
      refine z_if_eq (pc := 11) 20 C dX9_sheet_11 (by decide) (fun _ => ?_) (fun h => absurd (by decide) h)
      exact J0  f hI hF (by omega) (by omega)
  · skip
    refine z_if_eq (pc := 4) 20 C dX9_sheet_4 (by decide) (fun _ => ?_) (fun h => absurd (by decide) h)
    exact J0  f hI hF (by omega) (by omega)

set_option maxRecDepth 100000 in
set_option maxHeartbeats 4000000 in
theorem w_X10_sheetA (d : Nat) (f : zM) (a1 : Int32) (b1 : zB a1 (-2147483648) 2147483647) (a2 : Int32) (b2 : zB a2 (-2147483648) 2147483647) (a3 : Int32) (b3 : zB a3 (-2147483648) 2147483647) (hI : zInv f) : ZM (d + 2) yX10_sheet cX10_sheet 5 (some .int) [zr 25 0, zi a1, zi a2, zi a3] f (fun r g => (∃ v, r = some (zi v) ∧ zB v (-14) 16) ∧ zInv g ∧ zFr [(41, none), (42, none), (43, none)] f g ∧ (∀ v : Int32, r = some (zi v) → (((0 ≤ a1.toInt ∧ a1.toInt ≤ 3 ∧ 0 ≤ a2.toInt ∧ a2.toInt ≤ 2 ∧ a3.toInt ≤ 16) → (a3.toInt < 0 → v.toInt = -14) ∧ (0 ≤ a3.toInt → v.toInt = a3.toInt)) ∧ (¬ (0 ≤ a1.toInt ∧ a1.toInt ≤ 3 ∧ 0 ≤ a2.toInt ∧ a2.toInt ≤ 2 ∧ a3.toInt ≤ 16) → v.toInt = -1)))) := by
  refine ZM.intro (by decide +kernel) (Nat.le_of_ble_eq_true rfl) ?_
  intro X C hr hn
  have hF : zFr [(41, none), (42, none), (43, none)] f f := zFr.rf _ _
  have J : ∀ t : Nat, (∀ g : zM, zInv g → zFr [(41, none), (42, none), (43, none)] f g → (¬ (0 ≤ a1.toInt ∧ a1.toInt ≤ 3 ∧ 0 ≤ a2.toInt ∧ a2.toInt ≤ 2 ∧ a3.toInt ≤ 16)) → (69 : Int) < t → Z X 14 [some (zr 25 0), some (zi a1), some (zi a2), some (zi a3), none] [] g) ∧ (zB a1 0 3 → zB a2 0 2 → zB a3 0 16 → ∀ a40_4 : Int32, zB a40_4 0 16 → ∀ g : zM, zInv g → zFr [(41, none), (42, none), (43, none)] f g → (0 + 4 * (16 - a40_4.toInt) : Int) < t → Z X 40 [some (zr 25 0), some (zi a1), some (zi a2), some (zi a3), some (zi a40_4)] [] g) := by
    intro t
    induction t with
    | zero =>
      refine ⟨?_, ?_⟩ <;> (intros; exfalso; omega)
    | succ t ih =>
      obtain ⟨ih0, ih1⟩ := ih
      refine ⟨?_, ?_⟩
      · skip
        intro g14_ hI14_ hF14_ hR14_0 hM14_
        refine z_iconst (pc := 14) (v := -1) C dX10_sheet_14 (by decide) ?_
        exact z_iret (pc := 15) C hr dX10_sheet_15 ⟨⟨_, rfl, (zB.wk (a' := (-14)) (b' := 16) (zB.of (x := (-1)) (-1) (by decide)) (by decide) (by decide))⟩, hI14_, hF14_, (by intro v hv; cases hv; have qc0 : ((-1) : Int32).toInt = (-1) := (by decide); omega)⟩
      · skip
        intro b40_1 b40_2 b40_3 a40_4 b40_4 g40_ hI40_ hF40_ hM40_
        refine z_iload (pc := 40) C dX10_sheet_40 rfl ?_
        refine z_bipush (pc := 42) (v := 16) C dX10_sheet_42 (by decide) ?_
        refine z_icmp_ge (pc := 44) 66 C dX10_sheet_44 (by decide) (fun h44_0 => ?_) (fun h44_0 => ?_)
        · skip
          have b2x : zB a40_4 16 16 := by have q1 := b40_4; have q2 := (zB.of (x := 16) 16 (by decide)); simp only [z32lt, z32le, z32eq, Int32.reduceToInt, Int32.toInt_zero] at h44_0; constructor <;> omega
          refine z_iload_n (pc := 66) C dX10_sheet_66 rfl ?_
          exact z_iret (pc := 67) C hr dX10_sheet_67 ⟨⟨_, rfl, (zB.wk (a' := (-14)) (b' := 16) b40_3 (by decide) (by decide))⟩, hI40_, hF40_, (by intro v hv; cases hv; omega)⟩
        · skip
          have b3x : zB a40_4 0 15 := by have q1 := b40_4; have q2 := (zB.of (x := 16) 16 (by decide)); simp only [z32lt, z32le, z32eq, Int32.reduceToInt, Int32.toInt_zero] at h44_0; constructor <;> omega
          refine z_aload_n (pc := 47) C dX10_sheet_47 rfl ?_
          refine z_getR (pc := 48) C zf_X10_61 rfl rfl (by decide) dX10_sheet_48 ?_
          refine z_bipush (pc := 51) (v := 16) C dX10_sheet_51 (by decide) ?_
          refine z_iload_n (pc := 53) C dX10_sheet_53 rfl ?_
          refine z_imul (pc := 54) C dX10_sheet_54 ?_
          refine w_gp (fun v => v.toInt = 16 * a1.toInt) (zmul_kb 16 (by decide) (by decide) b40_1 (by decide) (by decide)) (fun v4 e4 => ?_)
          have b4x : zB v4 0 48 := zmul_bb e4 (by decide) b40_1
          refine z_iload (pc := 55) C dX10_sheet_55 rfl ?_
          refine z_iadd (pc := 57) C dX10_sheet_57 ?_
          refine w_gp (fun v => v.toInt = v4.toInt + a40_4.toInt) (zadd_eb b4x b3x (by decide) (by decide)) (fun v5 e5 => ?_)
          have b5x : zB v5 0 63 := by have q1 := b4x; have q2 := b3x; constructor <;> omega
          refine z_iconst (pc := 58) (v := 0) C dX10_sheet_58 (by decide) ?_
          refine z_iast (pc := 59) C rfl (by decide) (zIx b5x (by decide) (by decide)) dX10_sheet_59 ?_
          refine w_mem hI40_ hF40_ (zB.wk (a' := (-2147483648)) (b' := 2147483647) (zB.of (x := 0) 0 (by decide)) (by decide) (by decide)) rfl (fun g6 hI6 hF6 => ?_)
          refine z_iinc (pc := 60) (v := 1) C dX10_sheet_60 rfl (by decide) (by rw [hn]; decide) rfl ?_
          obtain ⟨v7, hv7, e7⟩ : ∃ v : Int32, v = a40_4 + 1 ∧ v.toInt = a40_4.toInt + 1 := ⟨_, rfl, zadd_eb b3x (zB.of (x := 1) 1 (by decide)) (by decide) (by decide)⟩
          rw [← hv7]
          have b7x : zB v7 1 16 := by have q9 := b3x; constructor <;> omega
          refine z_goto (pc := 63) 40 C dX10_sheet_63 (by decide) ?_
          exact ih1 b40_1 b40_2 b40_3 v7 (zB.wk (a' := 0) (b' := 16) b7x (by decide) (by decide)) g6 hI6 hF6  (by omega)
  obtain ⟨J0, J1⟩ := J 81
  show Z X 0 [some (zr 25 0), some (zi a1), some (zi a2), some (zi a3), none] [] f
  refine z_iload_n (pc := 0) C dX10_sheet_0 rfl ?_
  refine z_iload_n (pc := 1) C dX10_sheet_1 rfl ?_
  refine z_callSb (pc := 2) C zk_X10_268 (m_X10_isSheet _ _ _ _) rfl rfl (Nat.le_of_ble_eq_true rfl) dX10_sheet_2 (fun h2_7 => ?_) (fun h2_7 => ?_)
  · skip
    have b9x : zB a1 0 3 := h2_7.1
    have b10x : zB a2 0 2 := h2_7.2
    refine z_if_eq (pc := 5) 14 C dX10_sheet_5 (by decide) (fun h => absurd h (by decide)) (fun _ => ?_)
    refine z_iload_n (pc := 8) C dX10_sheet_8 rfl ?_
    refine z_bipush (pc := 9) (v := 16) C dX10_sheet_9 (by decide) ?_
    refine z_icmp_le (pc := 11) 16 C dX10_sheet_11 (by decide) (fun h11_10 => ?_) (fun h11_10 => ?_)
    · skip
      have b12x : zB a3 (-2147483648) 16 := by have q1 := b3; have q2 := (zB.of (x := 16) 16 (by decide)); simp only [z32lt, z32le, z32eq, Int32.reduceToInt, Int32.toInt_zero] at h11_10; constructor <;> omega
      refine z_iload_n (pc := 16) C dX10_sheet_16 rfl ?_
      refine z_if_ge (pc := 17) 23 C dX10_sheet_17 (by decide) (fun h17_12 => ?_) (fun h17_12 => ?_)
      · skip
        have b14x : zB a3 0 16 := by have q1 := b12x; have q2 := (zB.of (x := 0) 0 (by decide)); simp only [z32lt, z32le, z32eq, Int32.reduceToInt, Int32.toInt_zero] at h17_12; constructor <;> omega
        refine z_aload_n (pc := 23) C dX10_sheet_23 rfl ?_
        refine z_getR (pc := 24) C zf_X10_55 rfl rfl (by decide) dX10_sheet_24 ?_
        refine z_iload_n (pc := 27) C dX10_sheet_27 rfl ?_
        refine z_iload_n (pc := 28) C dX10_sheet_28 rfl ?_
        refine z_iast (pc := 29) C rfl (by decide) (zIx b9x (by decide) (by decide)) dX10_sheet_29 ?_
        refine w_mem hI hF (zB.wk (a' := (-1)) (b' := 2) b10x (by decide) (by decide)) rfl (fun g15 hI15 hF15 => ?_)
        refine z_aload_n (pc := 30) C dX10_sheet_30 rfl ?_
        refine z_getR (pc := 31) C zf_X10_58 rfl rfl (by decide) dX10_sheet_31 ?_
        refine z_iload_n (pc := 34) C dX10_sheet_34 rfl ?_
        refine z_iload_n (pc := 35) C dX10_sheet_35 rfl ?_
        refine z_iast (pc := 36) C rfl (by decide) (zIx b9x (by decide) (by decide)) dX10_sheet_36 ?_
        refine w_mem hI15 hF15 b14x rfl (fun g16 hI16 hF16 => ?_)
        refine z_iconst (pc := 37) (v := 0) C dX10_sheet_37 (by decide) ?_
        refine z_istore (pc := 38) C dX10_sheet_38 (by rw [hn]; decide) rfl ?_
        exact J1 b9x b10x b14x 0 (zB.wk (a' := 0) (b' := 16) (zB.of (x := 0) 0 (by decide)) (by decide) (by decide)) g16 hI16 hF16  (by have qc0 : (0 : Int32).toInt = 0 := (by decide); omega)
      · skip
        have b17x : zB a3 (-2147483648) (-1) := by have q1 := b12x; have q2 := (zB.of (x := 0) 0 (by decide)); simp only [z32lt, z32le, z32eq, Int32.reduceToInt, Int32.toInt_zero] at h17_12; constructor <;> omega
        refine z_bipush (pc := 20) (v := -14) C dX10_sheet_20 (by decide) ?_
        exact z_iret (pc := 22) C hr dX10_sheet_22 ⟨⟨_, rfl, (zB.wk (a' := (-14)) (b' := 16) (zB.of (x := (-14)) (-14) (by decide)) (by decide) (by decide))⟩, hI, hF, (by intro v hv; cases hv; have qc0 : ((-14) : Int32).toInt = (-14) := (by decide); omega)⟩
    · skip
      have b18x : zB a3 17 2147483647 := by have q1 := b3; have q2 := (zB.of (x := 16) 16 (by decide)); simp only [z32lt, z32le, z32eq, Int32.reduceToInt, Int32.toInt_zero] at h11_10; constructor <;> omega
      exact J0  f hI hF (by omega) (by omega)
  · skip
    refine z_if_eq (pc := 5) 14 C dX10_sheet_5 (by decide) (fun _ => ?_) (fun h => absurd (by decide) h)
    exact J0  f hI hF (by omega) (by omega)

theorem zbl_B (x : Int32) : zB (zbl x) 0 1 := by unfold zbl; split <;> decide
theorem qc_0 (f : zM) (hI : zInv f) (a : Nat → Int32) : zCall_0 f a zInv := ZM.mono (w_X9_crime 11 f ((a 1)) (zB_any _) ((a 2)) (zB_any _) ((a 3)) (zB_any _) ((a 4)) (zB_any _) ((a 5)) (zB_any _) ((zbl (a 6))) (zbl_B _) hI) (fun r g h => by
  obtain ⟨⟨v, rfl, _⟩, hg, _⟩ := h
  refine ⟨v, rfl, ?_⟩
  refine ZM.mono (w_X10_crime 12 g ((a 1)) (zB_any _) ((a 2)) (zB_any _) ((a 3)) (zB_any _) ((a 4)) (zB_any _) ((a 5)) (zB_any _) ((zbl (a 6))) (zbl_B _) hg) (fun r2 g2 h2 => ?_)
  obtain ⟨⟨v2, rfl, _⟩, hg2, _⟩ := h2
  exact ⟨⟨v2, rfl⟩, hg2⟩)
theorem qc_1 (f : zM) (hI : zInv f) (a : Nat → Int32) : zCall_1 f a zInv := ZM.mono (w_X9_deed 10 f ((a 1)) (zB_any _) ((a 2)) (zB_any _) ((a 3)) (zB_any _) ((a 4)) (zB_any _) hI) (fun r g h => by
  obtain ⟨⟨v, rfl, _⟩, hg, _⟩ := h
  refine ⟨v, rfl, ?_⟩
  refine ZM.mono (w_X10_deed 12 g ((a 1)) (zB_any _) ((a 2)) (zB_any _) ((a 3)) (zB_any _) ((a 4)) (zB_any _) hg) (fun r2 g2 h2 => ?_)
  obtain ⟨⟨v2, rfl, _⟩, hg2, _⟩ := h2
  exact ⟨⟨v2, rfl⟩, hg2⟩)
theorem qc_2 (f : zM) (hI : zInv f) (a : Nat → Int32) : zCall_2 f a zInv := ZM.mono (w_X9_years 12 f ((a 1)) (zB_any _) ((a 2)) (zB_any _) ((a 3)) (zB_any _) ((a 4)) (zB_any _) ((a 5)) (zB_any _) ((a 6)) (zB_any _) hI) (fun r g h => by
  obtain ⟨⟨v, rfl, _⟩, hg, _⟩ := h
  refine ⟨v, rfl, ?_⟩
  refine ZM.mono (w_X10_years 11 g ((a 1)) (zB_any _) ((a 2)) (zB_any _) ((a 3)) (zB_any _) ((a 4)) (zB_any _) ((a 5)) (zB_any _) ((a 6)) (zB_any _) hg) (fun r2 g2 h2 => ?_)
  obtain ⟨⟨v2, rfl, _⟩, hg2, _⟩ := h2
  exact ⟨⟨v2, rfl⟩, hg2⟩)
theorem qc_3 (f : zM) (hI : zInv f) (a : Nat → Int32) : zCall_3 f a zInv := ZM.mono (w_X9_named 12 f ((a 1)) (zB_any _) ((a 2)) (zB_any _) ((a 3)) (zB_any _) ((a 4)) (zB_any _) ((a 5)) (zB_any _) ((a 6)) (zB_any _) hI) (fun r g h => by
  obtain ⟨⟨v, rfl, _⟩, hg, _⟩ := h
  refine ⟨v, rfl, ?_⟩
  refine ZM.mono (w_X10_named 11 g ((a 1)) (zB_any _) ((a 2)) (zB_any _) ((a 3)) (zB_any _) ((a 4)) (zB_any _) ((a 5)) (zB_any _) ((a 6)) (zB_any _) hg) (fun r2 g2 h2 => ?_)
  obtain ⟨⟨v2, rfl, _⟩, hg2, _⟩ := h2
  exact ⟨⟨v2, rfl⟩, hg2⟩)
theorem qc_4 (f : zM) (hI : zInv f) (a : Nat → Int32) : zCall_4 f a zInv := ZM.mono (w_X9_custom 12 f ((a 1)) (zB_any _) ((a 2)) (zB_any _) ((a 3)) (zB_any _) ((a 4)) (zB_any _) ((a 5)) (zB_any _) hI) (fun r g h => by
  obtain ⟨⟨v, rfl, _⟩, hg, _⟩ := h
  refine ⟨v, rfl, ?_⟩
  refine ZM.mono (w_X10_custom 11 g ((a 1)) (zB_any _) ((a 2)) (zB_any _) ((a 3)) (zB_any _) ((a 4)) (zB_any _) ((a 5)) (zB_any _) hg) (fun r2 g2 h2 => ?_)
  obtain ⟨⟨v2, rfl, _⟩, hg2, _⟩ := h2
  exact ⟨⟨v2, rfl⟩, hg2⟩)
theorem qc_5 (f : zM) (hI : zInv f) (a : Nat → Int32) : zCall_5 f a zInv := ZM.mono (w_X9_type 13 f (((a 1).toInt64 <<< ((32 : Int32).toInt64 &&& 63) ||| (a 2).toInt64 &&& 4294967295)) ((a 3)) (zB_any _) hI) (fun r g h => by
  obtain ⟨⟨v, rfl, _⟩, hg, _⟩ := h
  refine ⟨v, rfl, ?_⟩
  refine ZM.mono (w_X10_type 13 g (((a 1).toInt64 <<< ((32 : Int32).toInt64 &&& 63) ||| (a 2).toInt64 &&& 4294967295)) ((a 3)) (zB_any _) hg) (fun r2 g2 h2 => ?_)
  obtain ⟨⟨v2, rfl, _⟩, hg2, _⟩ := h2
  exact ⟨⟨v2, rfl⟩, hg2⟩)
theorem qc_6 (f : zM) (hI : zInv f) (a : Nat → Int32) : zCall_6 f a zInv := ZMs.mono (w_X9_world 5 f  hI) (fun r g h => by
  obtain ⟨⟨v, rfl, _⟩, hg, _⟩ := h
  refine ⟨v, rfl, ?_⟩
  refine ZM.mono (w_X10_world 10 g  hg) (fun r2 g2 h2 => ?_)
  obtain ⟨⟨v2, rfl, _⟩, hg2, _⟩ := h2
  exact ⟨⟨v2, rfl⟩, hg2⟩)
theorem qc_7 (f : zM) (hI : zInv f) (a : Nat → Int32) : zCall_7 f a zInv := ZM.mono (w_X9_crimeOf 14 f ((a 1)) (zB_any _) ((a 2)) (zB_any _) hI) (fun r g h => by
  obtain ⟨⟨v, rfl, _⟩, hg, _⟩ := h
  refine ⟨v, rfl, ?_⟩
  refine ZM.mono (w_X10_crimeOf 13 g ((a 1)) (zB_any _) ((a 2)) (zB_any _) hg) (fun r2 g2 h2 => ?_)
  obtain ⟨⟨v2, rfl, _⟩, hg2, _⟩ := h2
  exact ⟨⟨v2, rfl⟩, hg2⟩)
theorem qc_8 (f : zM) (hI : zInv f) (a : Nat → Int32) : zCall_8 f a zInv := ZM.mono (w_X9_paper 13 f ((a 1)) (zB_any _) ((a 2)) (zB_any _) hI) (fun r g h => by
  obtain ⟨⟨v, rfl, _⟩, hg, _⟩ := h
  refine ⟨v, rfl, ?_⟩
  refine ZM.mono (w_X10_paper 12 g ((a 1)) (zB_any _) ((a 2)) (zB_any _) hg) (fun r2 g2 h2 => ?_)
  obtain ⟨⟨v2, rfl, _⟩, hg2, _⟩ := h2
  exact ⟨⟨v2, rfl⟩, hg2⟩)
theorem qc_9 (f : zM) (hI : zInv f) (a : Nat → Int32) : zCall_9 f a zInv := ZM.mono (w_X9_bars 13 f ((a 1)) (zB_any _) ((a 2)) (zB_any _) hI) (fun r g h => by
  obtain ⟨⟨v, rfl, _⟩, hg, _⟩ := h
  refine ⟨v, rfl, ?_⟩
  refine ZM.mono (w_X10_bars 12 g ((a 1)) (zB_any _) ((a 2)) (zB_any _) hg) (fun r2 g2 h2 => ?_)
  obtain ⟨⟨v2, rfl, _⟩, hg2, _⟩ := h2
  exact ⟨⟨v2, rfl⟩, hg2⟩)
theorem qc_10 (f : zM) (hI : zInv f) (a : Nat → Int32) : zCall_10 f a zInv := ZM.mono (w_X9_matches 13 f ((a 1)) (zB_any _) ((a 2)) (zB_any _) ((a 3)) (zB_any _) hI) (fun r g h => by
  obtain ⟨⟨v, rfl, _⟩, hg, _⟩ := h
  refine ⟨v, rfl, ?_⟩
  refine ZM.mono (w_X10_matches 12 g ((a 1)) (zB_any _) ((a 2)) (zB_any _) ((a 3)) (zB_any _) hg) (fun r2 g2 h2 => ?_)
  obtain ⟨⟨v2, rfl, _⟩, hg2, _⟩ := h2
  exact ⟨⟨v2, rfl⟩, hg2⟩)
theorem qc_11 (f : zM) (hI : zInv f) (a : Nat → Int32) : zCall_11 f a zInv := ZM.mono (w_X9_yearsOf 13 f ((a 1)) (zB_any _) ((a 2)) (zB_any _) ((a 3)) (zB_any _) hI) (fun r g h => by
  obtain ⟨⟨v, rfl, _⟩, hg, _⟩ := h
  refine ⟨v, rfl, ?_⟩
  refine ZM.mono (w_X10_yearsOf 11 g ((a 1)) (zB_any _) ((a 2)) (zB_any _) ((a 3)) (zB_any _) hg) (fun r2 g2 h2 => ?_)
  obtain ⟨⟨v2, rfl, _⟩, hg2, _⟩ := h2
  exact ⟨⟨v2, rfl⟩, hg2⟩)
theorem qc_12 (f : zM) (hI : zInv f) (a : Nat → Int32) : zCall_12 f a zInv := ZM.mono (w_X9_shows 11 f ((a 1)) (zB_any _) ((a 2)) (zB_any _) ((a 3)) (zB_any _) ((a 4)) (zB_any _) hI) (fun r g h => by
  obtain ⟨⟨v, rfl, _⟩, hg, _⟩ := h
  refine ⟨v, rfl, ?_⟩
  refine ZM.mono (w_X10_shows 12 g ((a 1)) (zB_any _) ((a 2)) (zB_any _) ((a 3)) (zB_any _) ((a 4)) (zB_any _) hg) (fun r2 g2 h2 => ?_)
  obtain ⟨⟨v2, rfl, _⟩, hg2, _⟩ := h2
  exact ⟨⟨v2, rfl⟩, hg2⟩)
theorem qc_13 (f : zM) (hI : zInv f) (a : Nat → Int32) : zCall_13 f a zInv := ZM.mono (w_X9_count 14 f ((a 1)) (zB_any _) hI) (fun r g h => by
  obtain ⟨⟨v, rfl, _⟩, hg, _⟩ := h
  refine ⟨v, rfl, ?_⟩
  refine ZM.mono (w_X10_count 14 g ((a 1)) (zB_any _) hg) (fun r2 g2 h2 => ?_)
  obtain ⟨⟨v2, rfl, _⟩, hg2, _⟩ := h2
  exact ⟨⟨v2, rfl⟩, hg2⟩)
theorem qc_14 (f : zM) (hI : zInv f) (a : Nat → Int32) : zCall_14 f a zInv := ZM.mono (w_X9_man 13 f ((a 1)) (zB_any _) ((a 2)) (zB_any _) hI) (fun r g h => by
  obtain ⟨⟨v, rfl, _⟩, hg, _⟩ := h
  refine ⟨v, rfl, ?_⟩
  refine ZM.mono (w_X10_man 12 g ((a 1)) (zB_any _) ((a 2)) (zB_any _) hg) (fun r2 g2 h2 => ?_)
  obtain ⟨⟨v2, rfl, _⟩, hg2, _⟩ := h2
  exact ⟨⟨v2, rfl⟩, hg2⟩)
theorem qc_15 (f : zM) (hI : zInv f) (a : Nat → Int32) : zCall_15 f a zInv := ZM.mono (w_X9_judged 13 f ((a 1)) (zB_any _) ((zbl (a 2))) (zbl_B _) hI) (fun r g h => by
  obtain ⟨⟨v, rfl, _⟩, hg, _⟩ := h
  refine ⟨v, rfl, ?_⟩
  refine ZM.mono (w_X10_judged 12 g ((a 1)) (zB_any _) ((zbl (a 2))) (zbl_B _) hg) (fun r2 g2 h2 => ?_)
  obtain ⟨⟨v2, rfl, _⟩, hg2, _⟩ := h2
  exact ⟨⟨v2, rfl⟩, hg2⟩)
theorem qc_16 (f : zM) (hI : zInv f) (a : Nat → Int32) : zCall_16 f a zInv := ZM.mono (w_X9_bound 13 f ((a 1)) (zB_any _) hI) (fun r g h => by
  obtain ⟨⟨v, rfl, _⟩, hg, _⟩ := h
  refine ⟨v, rfl, ?_⟩
  refine ZM.mono (w_X10_bound 13 g ((a 1)) (zB_any _) hg) (fun r2 g2 h2 => ?_)
  obtain ⟨⟨v2, rfl, _⟩, hg2, _⟩ := h2
  exact ⟨⟨v2, rfl⟩, hg2⟩)
theorem qc_17 (f : zM) (hI : zInv f) (a : Nat → Int32) : zCall_17 f a zInv := ZM.mono (w_X9_covers 12 f ((a 1)) (zB_any _) hI) (fun r g h => by
  obtain ⟨⟨v, rfl, _⟩, hg, _⟩ := h
  refine ⟨v, rfl, ?_⟩
  refine ZM.mono (w_X10_covers 10 g ((a 1)) (zB_any _) hg) (fun r2 g2 h2 => ?_)
  obtain ⟨⟨v2, rfl, _⟩, hg2, _⟩ := h2
  exact ⟨⟨v2, rfl⟩, hg2⟩)
theorem qc_18 (f : zM) (hI : zInv f) (a : Nat → Int32) : zCall_18 f a zInv := ZM.mono (w_X9_lets 11 f ((a 1)) (zB_any _) hI) (fun r g h => by
  obtain ⟨⟨v, rfl, _⟩, hg, _⟩ := h
  refine ⟨v, rfl, ?_⟩
  refine ZM.mono (w_X10_lets 8 g ((a 1)) (zB_any _) hg) (fun r2 g2 h2 => ?_)
  obtain ⟨⟨v2, rfl, _⟩, hg2, _⟩ := h2
  exact ⟨⟨v2, rfl⟩, hg2⟩)
theorem qc_19 (f : zM) (hI : zInv f) (a : Nat → Int32) : zCall_19 f a zInv := ZM.mono (w_X9_barred 12 f ((a 1)) (zB_any _) ((a 2)) (zB_any _) hI) (fun r g h => by
  obtain ⟨⟨v, rfl, _⟩, hg, _⟩ := h
  refine ⟨v, rfl, ?_⟩
  refine ZM.mono (w_X10_barred 10 g ((a 1)) (zB_any _) ((a 2)) (zB_any _) hg) (fun r2 g2 h2 => ?_)
  obtain ⟨⟨v2, rfl, _⟩, hg2, _⟩ := h2
  exact ⟨⟨v2, rfl⟩, hg2⟩)
theorem qc_20 (f : zM) (hI : zInv f) (a : Nat → Int32) : zCall_20 f a zInv := ZM.mono (w_X9_send 10 f ((a 1)) (zB_any _) hI) (fun r g h => by
  obtain ⟨⟨v, rfl, _⟩, hg, _⟩ := h
  refine ⟨v, rfl, ?_⟩
  refine ZM.mono (w_X10_send 7 g ((a 1)) (zB_any _) hg) (fun r2 g2 h2 => ?_)
  obtain ⟨⟨v2, rfl, _⟩, hg2, _⟩ := h2
  exact ⟨⟨v2, rfl⟩, hg2⟩)
theorem qc_21 (f : zM) (hI : zInv f) (a : Nat → Int32) : zCall_21 f a zInv := ZM.mono (w_X9_tried 12 f  hI) (fun r g h => by
  obtain ⟨⟨v, rfl, _⟩, hg, _⟩ := h
  refine ⟨v, rfl, ?_⟩
  refine ZM.mono (w_X10_tried 10 g  hg) (fun r2 g2 h2 => ?_)
  obtain ⟨⟨v2, rfl, _⟩, hg2, _⟩ := h2
  exact ⟨⟨v2, rfl⟩, hg2⟩)
theorem qc_22 (f : zM) (hI : zInv f) (a : Nat → Int32) : zCall_22 f a zInv := ZM.mono (w_X9_road 10 f ((a 1)) (zB_any _) ((a 2)) (zB_any _) ((a 3)) (zB_any _) hI) (fun r g h => by
  obtain ⟨⟨v, rfl, _⟩, hg, _⟩ := h
  refine ⟨v, rfl, ?_⟩
  refine ZM.mono (w_X10_road 8 g ((a 1)) (zB_any _) ((a 2)) (zB_any _) ((a 3)) (zB_any _) hg) (fun r2 g2 h2 => ?_)
  obtain ⟨⟨v2, rfl, _⟩, hg2, _⟩ := h2
  exact ⟨⟨v2, rfl⟩, hg2⟩)
theorem qc_23 (f : zM) (hI : zInv f) (a : Nat → Int32) : zCall_23 f a zInv := ZM.mono (w_X9_lands 10 f  hI) (fun r g h => by
  obtain ⟨⟨v, rfl, _⟩, hg, _⟩ := h
  refine ⟨v, rfl, ?_⟩
  refine ZM.mono (w_X10_lands 8 g  hg) (fun r2 g2 h2 => ?_)
  obtain ⟨⟨v2, rfl, _⟩, hg2, _⟩ := h2
  exact ⟨⟨v2, rfl⟩, hg2⟩)
theorem qc_24 (f : zM) (hI : zInv f) (a : Nat → Int32) : zCall_24 f a zInv := ZM.mono (w_X9_safe 10 f ((a 1)) (zB_any _) hI) (fun r g h => by
  obtain ⟨⟨v, rfl, _⟩, hg, _⟩ := h
  refine ⟨v, rfl, ?_⟩
  refine ZM.mono (w_X10_safe 9 g ((a 1)) (zB_any _) hg) (fun r2 g2 h2 => ?_)
  obtain ⟨⟨v2, rfl, _⟩, hg2, _⟩ := h2
  exact ⟨⟨v2, rfl⟩, hg2⟩)
theorem qc_25 (f : zM) (hI : zInv f) (a : Nat → Int32) : zCall_25 f a zInv := ZM.mono (w_X9_demand 13 f ((a 1)) (zB_any _) ((a 2)) (zB_any _) ((a 3)) (zB_any _) hI) (fun r g h => by
  obtain ⟨⟨v, rfl, _⟩, hg, _⟩ := h
  refine ⟨v, rfl, ?_⟩
  refine ZM.mono (w_X10_demand 12 g ((a 1)) (zB_any _) ((a 2)) (zB_any _) ((a 3)) (zB_any _) hg) (fun r2 g2 h2 => ?_)
  obtain ⟨⟨v2, rfl, _⟩, hg2, _⟩ := h2
  exact ⟨⟨v2, rfl⟩, hg2⟩)
theorem qc_26 (f : zM) (hI : zInv f) (a : Nat → Int32) : zCall_26 f a zInv := ZM.mono (w_X9_ahead 10 f ((a 1)) (zB_any _) hI) (fun r g h => by
  obtain ⟨⟨v, rfl, _⟩, hg, _⟩ := h
  refine ⟨v, rfl, ?_⟩
  refine ZM.mono (w_X10_ahead 5 g ((a 1)) (zB_any _) hg) (fun r2 g2 h2 => ?_)
  obtain ⟨⟨v2, rfl, _⟩, hg2, _⟩ := h2
  exact ⟨⟨v2, rfl⟩, hg2⟩)
theorem qc_27 (f : zM) (hI : zInv f) (a : Nat → Int32) : zCall_27 f a zInv := ZM.mono (w_X9_promises 10 f ((a 1)) (zB_any _) ((a 2)) (zB_any _) hI) (fun r g h => by
  obtain ⟨⟨v, rfl, _⟩, hg, _⟩ := h
  refine ⟨v, rfl, ?_⟩
  refine ZM.mono (w_X10_promises 8 g ((a 1)) (zB_any _) ((a 2)) (zB_any _) hg) (fun r2 g2 h2 => ?_)
  obtain ⟨⟨v2, rfl, _⟩, hg2, _⟩ := h2
  exact ⟨⟨v2, rfl⟩, hg2⟩)
theorem qc_28 (f : zM) (hI : zInv f) (a : Nat → Int32) : zCall_28 f a zInv := ZM.mono (w_X9_mended 10 f ((a 1)) (zB_any _) ((a 2)) (zB_any _) hI) (fun r g h => by
  obtain ⟨⟨v, rfl, _⟩, hg, _⟩ := h
  refine ⟨v, rfl, ?_⟩
  refine ZM.mono (w_X10_mended 9 g ((a 1)) (zB_any _) ((a 2)) (zB_any _) hg) (fun r2 g2 h2 => ?_)
  obtain ⟨⟨v2, rfl, _⟩, hg2, _⟩ := h2
  exact ⟨⟨v2, rfl⟩, hg2⟩)
theorem qc_29 (f : zM) (hI : zInv f) (a : Nat → Int32) : zCall_29 f a zInv := ZM.mono (w_X9_part 12 f ((a 1)) (zB_any _) ((a 2)) (zB_any _) ((a 3)) (zB_any _) hI) (fun r g h => by
  obtain ⟨⟨v, rfl, _⟩, hg, _⟩ := h
  refine ⟨v, rfl, ?_⟩
  refine ZM.mono (w_X10_part 12 g ((a 1)) (zB_any _) ((a 2)) (zB_any _) ((a 3)) (zB_any _) hg) (fun r2 g2 h2 => ?_)
  obtain ⟨⟨v2, rfl, _⟩, hg2, _⟩ := h2
  exact ⟨⟨v2, rfl⟩, hg2⟩)
theorem qc_30 (f : zM) (hI : zInv f) (a : Nat → Int32) : zCall_30 f a zInv := ZM.mono (w_X9_image 10 f  hI) (fun r g h => by
  obtain ⟨⟨v, rfl, _⟩, hg, _⟩ := h
  refine ⟨v, rfl, ?_⟩
  refine ZM.mono (w_X10_image 13 g  hg) (fun r2 g2 h2 => ?_)
  obtain ⟨⟨v2, rfl, _⟩, hg2, _⟩ := h2
  exact ⟨⟨v2, rfl⟩, hg2⟩)
theorem qc_31 (f : zM) (hI : zInv f) (a : Nat → Int32) : zCall_31 f a zInv := ZM.mono (w_X9_restore 10 f  hI) (fun r g h => by
  obtain ⟨⟨v, rfl, _⟩, hg, _⟩ := h
  refine ⟨v, rfl, ?_⟩
  refine ZM.mono (w_X10_restore 13 g  hg) (fun r2 g2 h2 => ?_)
  obtain ⟨⟨v2, rfl, _⟩, hg2, _⟩ := h2
  exact ⟨⟨v2, rfl⟩, hg2⟩)
theorem qc_32 (f : zM) (hI : zInv f) (a : Nat → Int32) : zCall_32 f a zInv := ZM.mono (w_X9_sheetA 12 f ((a 1)) (zB_any _) ((a 2)) (zB_any _) ((a 3)) (zB_any _) hI) (fun r g h => by
  obtain ⟨⟨v, rfl, _⟩, hg, _, hv⟩ := h
  have hv := hv v rfl
  refine ⟨v, rfl, ?_⟩
  refine ZM.mono (w_X10_sheetA 12 g ((a 1)) (zB_any _) ((a 2)) (zB_any _) ((a 3)) (zB_any _) hg) (fun r2 g2 h2 => ?_)
  obtain ⟨⟨v2, rfl, _⟩, hg2, _, hv2⟩ := h2
  have hv2 := hv2 v2 rfl
  refine ⟨?_, hg2⟩
  rw [(z32eq v2 v).mpr (by omega)])
theorem qc_33 (f : zM) (hI : zInv f) (a : Nat → Int32) : zCall_33 f a zInv := ZM.mono (w_X9_drop 13 f ((a 1)) (zB_any _) hI) (fun r g h => by
  obtain ⟨⟨v, rfl, _⟩, hg, _⟩ := h
  refine ⟨v, rfl, ?_⟩
  refine ZM.mono (w_X10_drop 13 g ((a 1)) (zB_any _) hg) (fun r2 g2 h2 => ?_)
  obtain ⟨⟨v2, rfl, _⟩, hg2, _⟩ := h2
  exact ⟨⟨v2, rfl⟩, hg2⟩)
theorem qc_34 (f : zM) (hI : zInv f) (a : Nat → Int32) : zCall_34 f a zInv := ZM.mono (w_X9_item 13 f ((a 1)) (zB_any _) ((a 2)) (zB_any _) ((a 3)) (zB_any _) ((a 4)) (zB_any _) hI) (fun r g h => by
  obtain ⟨⟨v, rfl, _⟩, hg, _⟩ := h
  refine ⟨v, rfl, ?_⟩
  refine ZM.mono (w_X10_item 12 g ((a 1)) (zB_any _) ((a 2)) (zB_any _) ((a 3)) (zB_any _) ((a 4)) (zB_any _) hg) (fun r2 g2 h2 => ?_)
  obtain ⟨⟨v2, rfl, _⟩, hg2, _⟩ := h2
  exact ⟨⟨v2, rfl⟩, hg2⟩)
theorem qc_all (f : zM) (hI : zInv f) (a : Nat → Int32) : ∀ k, k < 35 → zCall k f a zInv
  | 0, _ => qc_0 f hI a
  | 1, _ => qc_1 f hI a
  | 2, _ => qc_2 f hI a
  | 3, _ => qc_3 f hI a
  | 4, _ => qc_4 f hI a
  | 5, _ => qc_5 f hI a
  | 6, _ => qc_6 f hI a
  | 7, _ => qc_7 f hI a
  | 8, _ => qc_8 f hI a
  | 9, _ => qc_9 f hI a
  | 10, _ => qc_10 f hI a
  | 11, _ => qc_11 f hI a
  | 12, _ => qc_12 f hI a
  | 13, _ => qc_13 f hI a
  | 14, _ => qc_14 f hI a
  | 15, _ => qc_15 f hI a
  | 16, _ => qc_16 f hI a
  | 17, _ => qc_17 f hI a
  | 18, _ => qc_18 f hI a
  | 19, _ => qc_19 f hI a
  | 20, _ => qc_20 f hI a
  | 21, _ => qc_21 f hI a
  | 22, _ => qc_22 f hI a
  | 23, _ => qc_23 f hI a
  | 24, _ => qc_24 f hI a
  | 25, _ => qc_25 f hI a
  | 26, _ => qc_26 f hI a
  | 27, _ => qc_27 f hI a
  | 28, _ => qc_28 f hI a
  | 29, _ => qc_29 f hI a
  | 30, _ => qc_30 f hI a
  | 31, _ => qc_31 f hI a
  | 32, _ => qc_32 f hI a
  | 33, _ => qc_33 f hI a
  | 34, _ => qc_34 f hI a
  | k + 35, h => absurd h (by omega)