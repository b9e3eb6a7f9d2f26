/-- what a lane keeps of a value -/
def znar (l v : Int32) : Int32 := if l = 0 then v.toInt8.toInt32 else if l = 1 then v.toInt16.toInt32 else v
theorem zsx (n : Nat) (hn : n < 32) (b : BitVec 32) : (b <<< n).sshiftRight n = (b.setWidth (32 - n)).signExtend 32 := by
  apply BitVec.eq_of_getLsbD_eq
  intro i hi
  rw [BitVec.getLsbD_sshiftRight, BitVec.getLsbD_signExtend]
  have hm : (b <<< n).msb = (b.setWidth (32 - n)).msb := by
    rw [BitVec.msb_eq_getLsbD_last, BitVec.msb_eq_getLsbD_last, BitVec.getLsbD_shiftLeft, BitVec.getLsbD_setWidth]
    have e1 : decide (32 - n - 1 < 32 - n) = true := decide_eq_true (by omega)
    have e2 : decide (32 - 1 < 32) = true := rfl
    have e3 : decide (32 - 1 < n) = false := decide_eq_false (by omega)
    rw [e1, e2, e3, show 32 - 1 - n = 32 - n - 1 by omega]
    simp
  by_cases h : n + i < 32
  · rw [if_pos h, if_pos (show i < 32 - n by omega), BitVec.getLsbD_shiftLeft, BitVec.getLsbD_setWidth]
    have e1 : decide (i < 32 - n) = true := decide_eq_true (by omega)
    have e2 : decide (n + i < 32) = true := decide_eq_true h
    have e3 : decide (n + i < n) = false := decide_eq_false (by omega)
    have e4 : decide (i < 32) = true := decide_eq_true hi
    have e5 : decide (32 ≤ i) = false := decide_eq_false (by omega)
    rw [e1, e2, e3, show n + i - n = i by omega]
    simp [e4, e5, hi]
  · rw [if_neg h, if_neg (show ¬ i < 32 - n by omega), hm]
    simp [hi]
theorem znar_8 (v : Int32) : v <<< (24 &&& 31) >>> (24 &&& 31) = v.toInt8.toInt32 := by
  apply Int32.toBitVec_inj.mp
  have e1 : ((24 : Int32) &&& 31).toBitVec.smod 32 = 24#32 := by decide
  have e2 : v.toBitVec.signExtend 8 = v.toBitVec.setWidth 8 := BitVec.signExtend_eq_setWidth_of_le _ (by decide)
  show (v.toBitVec <<< (((24 : Int32) &&& 31).toBitVec.smod 32)).sshiftRight' (((24 : Int32) &&& 31).toBitVec.smod 32) = (v.toBitVec.signExtend 8).signExtend 32
  rw [e1, e2]
  exact zsx 24 (by decide) v.toBitVec
theorem znar_16 (v : Int32) : v <<< (16 &&& 31) >>> (16 &&& 31) = v.toInt16.toInt32 := by
  apply Int32.toBitVec_inj.mp
  have e1 : ((16 : Int32) &&& 31).toBitVec.smod 32 = 16#32 := by decide
  have e2 : v.toBitVec.signExtend 16 = v.toBitVec.setWidth 16 := BitVec.signExtend_eq_setWidth_of_le _ (by decide)
  show (v.toBitVec <<< (((16 : Int32) &&& 31).toBitVec.smod 32)).sshiftRight' (((16 : Int32) &&& 31).toBitVec.smod 32) = (v.toBitVec.signExtend 16).signExtend 32
  rw [e1, e2]
  exact zsx 16 (by decide) v.toBitVec

set_option maxRecDepth 100000 in
set_option maxHeartbeats 4000000 in
theorem x_X6_put (d : Nat) (f : zM) (m0 : Nat) (h0 : m0 < zcnt 23) (a1 : Int32) (b1 : zB a1 0 15) (a2 : Int32) (b2 : zB a2 (-2147483648) 2147483647) (hI : zInv f) : ZM d yX6_put cX6_put 3 none [zr 23 m0, zi a1, zi a2] f (fun r g => r = none ∧ zInv g ∧ zFr [(24, none)] f g ∧ (g = zup f 24 m0 a1.toInt.toNat (znar (f 23 m0 1) a2))) := by
  refine ZM.intro (by decide +kernel) (Nat.le_of_ble_eq_true rfl) ?_
  intro X C hr hn
  have hF : zFr [(24, none)] f f := zFr.rf _ _
  show Z X 0 [some (zr 23 m0), some (zi a1), some (zi a2)] [] f
  refine z_aload_n (pc := 0) C dX6_put_0 rfl ?_
  refine z_getI (pc := 1) C zf_X6_15 rfl rfl h0 dX6_put_1 ?_
  refine w_gp (fun v => v = f 23 m0 1) rfl (fun v2 q2 => ?_)
  have b2x : zB v2 (-1) 2 := by rw [q2]; exact (hI 23 m0 1)
  by_cases hsw0 : v2 = 0
  · skip
    refine z_lookE (pc := 4) hsw0 32 C dX6_put_4 (by decide) rfl (by decide) ?_
    refine z_aload_n (pc := 32) C dX6_put_32 rfl ?_
    refine z_getR (pc := 33) C zf_X6_9 rfl rfl h0 dX6_put_33 ?_
    refine z_iload_n (pc := 36) C dX6_put_36 rfl ?_
    refine z_iload_n (pc := 37) C dX6_put_37 rfl ?_
    refine z_i2b (pc := 38) C dX6_put_38 ?_
    refine w_gp (fun v => v = a2.toInt8.toInt32) rfl (fun v3 q3 => ?_)
    have kw39_3 : a1.toNatClampNeg = a1.toInt.toNat := rfl
    refine z_iast (pc := 39) C rfl h0 (zIx b1 (by decide) (by decide)) dX6_put_39 ?_
    refine w_memy hI hF (zB_any v3) rfl (fun g4 qm4 hI4 hF4 => ?_)
    refine z_goto (pc := 40) 61 C dX6_put_40 (by decide) ?_
    exact z_vret (pc := 61) C hr dX6_put_61 ⟨rfl, hI4, hF4, (by
                                                                                          have hk : a1.toNatClampNeg = a1.toInt.toNat := rfl
                                                                                          have hq := q2
                                                                                          rw [← hk, ← hq]
                                                                                          subst qm4
                                                                                          unfold znar
                                                                                          first
                                                                                            | (rw [if_neg (by assumption), if_neg (by assumption)]; try (subst_vars; rfl))
                                                                                            | (rw [if_neg (by assumption), if_pos (by assumption)]; try (subst_vars; rfl))
                                                                                            | (rw [if_pos (by assumption)]; try (subst_vars; rfl)))⟩
  · skip
    by_cases hsw1 : v2 = 1
    · skip
      refine z_lookE (pc := 4) hsw1 43 C dX6_put_4 (by decide) rfl (by decide) ?_
      refine z_aload_n (pc := 43) C dX6_put_43 rfl ?_
      refine z_getR (pc := 44) C zf_X6_9 rfl rfl h0 dX6_put_44 ?_
      refine z_iload_n (pc := 47) C dX6_put_47 rfl ?_
      refine z_iload_n (pc := 48) C dX6_put_48 rfl ?_
      refine z_i2s (pc := 49) C dX6_put_49 ?_
      refine w_gp (fun v => v = a2.toInt16.toInt32) rfl (fun v5 q5 => ?_)
      have kw50_5 : a1.toNatClampNeg = a1.toInt.toNat := rfl
      refine z_iast (pc := 50) C rfl h0 (zIx b1 (by decide) (by decide)) dX6_put_50 ?_
      refine w_memy hI hF (zB_any v5) rfl (fun g6 qm6 hI6 hF6 => ?_)
      refine z_goto (pc := 51) 61 C dX6_put_51 (by decide) ?_
      exact z_vret (pc := 61) C hr dX6_put_61 ⟨rfl, hI6, hF6, (by
                                                                                          have hk : a1.toNatClampNeg = a1.toInt.toNat := rfl
                                                                                          have hq := q2
                                                                                          rw [← hk, ← hq]
                                                                                          subst qm6
                                                                                          unfold znar
                                                                                          first
                                                                                            | (rw [if_neg (by assumption), if_neg (by assumption)]; try (subst_vars; rfl))
                                                                                            | (rw [if_neg (by assumption), if_pos (by assumption)]; try (subst_vars; rfl))
                                                                                            | (rw [if_pos (by assumption)]; try (subst_vars; rfl)))⟩
    · skip
      refine z_lookup (pc := 4) 54 C dX6_put_4 (by decide) (zlk_X6_put hsw0 hsw1) (by decide) ?_
      refine z_aload_n (pc := 54) C dX6_put_54 rfl ?_
      refine z_getR (pc := 55) C zf_X6_9 rfl rfl h0 dX6_put_55 ?_
      refine z_iload_n (pc := 58) C dX6_put_58 rfl ?_
      refine z_iload_n (pc := 59) C dX6_put_59 rfl ?_
      have kw60_6 : a1.toNatClampNeg = a1.toInt.toNat := rfl
      refine z_iast (pc := 60) C rfl h0 (zIx b1 (by decide) (by decide)) dX6_put_60 ?_
      refine w_memy hI hF b2 rfl (fun g7 qm7 hI7 hF7 => ?_)
      exact z_vret (pc := 61) C hr dX6_put_61 ⟨rfl, hI7, hF7, (by
                                                                                          have hk : a1.toNatClampNeg = a1.toInt.toNat := rfl
                                                                                          have hq := q2
                                                                                          rw [← hk, ← hq]
                                                                                          subst qm7
                                                                                          unfold znar
                                                                                          first
                                                                                            | (rw [if_neg (by assumption), if_neg (by assumption)]; try (subst_vars; rfl))
                                                                                            | (rw [if_neg (by assumption), if_pos (by assumption)]; try (subst_vars; rfl))
                                                                                            | (rw [if_pos (by assumption)]; try (subst_vars; rfl)))⟩

set_option maxRecDepth 100000 in
set_option maxHeartbeats 4000000 in
theorem x_X9_item (d : Nat) (f : zM) (a1 : Int32) (b1 : zB a1 (-2147483648) 2147483647) (a2 : Int32) (b2 : zB a2 (-2147483648) 2147483647) (a3 : Int32) (b3 : zB a3 (-2147483648) 2147483647) (a4 : Int32) (b4 : zB a4 (-2147483648) 2147483647) (hI : zInv f) : ZM (d + 1) yX9_item cX9_item 7 (some .int) [zr 0 0, zi a1, zi a2, zi a3, zi a4] f (fun r g => (∃ v, r = some (zi v) ∧ zB v (-13) 1) ∧ zInv g ∧ zFr [(24, none)] f g ∧ (∀ v : Int32, r = some (zi v) → (¬ ((0 ≤ a1.toInt ∧ a1.toInt ≤ 3) ∧ (0 ≤ a2.toInt ∧ a2.toInt ≤ 2)) ∧ v = -1 ∧ g = f) ∨ (((0 ≤ a1.toInt ∧ a1.toInt ≤ 3) ∧ (0 ≤ a2.toInt ∧ a2.toInt ≤ 2)) ∧ (f 23 a1.toInt.toNat 1).toInt = -1 ∧ v = -11 ∧ g = f) ∨ (((0 ≤ a1.toInt ∧ a1.toInt ≤ 3) ∧ (0 ≤ a2.toInt ∧ a2.toInt ≤ 2)) ∧ ¬ (f 23 a1.toInt.toNat 1).toInt = -1 ∧ ¬ (f 23 a1.toInt.toNat 1) = a2 ∧ v = -12 ∧ g = f) ∨ (((0 ≤ a1.toInt ∧ a1.toInt ≤ 3) ∧ (0 ≤ a2.toInt ∧ a2.toInt ≤ 2)) ∧ ¬ (f 23 a1.toInt.toNat 1).toInt = -1 ∧ (f 23 a1.toInt.toNat 1) = a2 ∧ ¬ (0 ≤ a3.toInt ∧ a3.toInt < (f 23 a1.toInt.toNat 2).toInt) ∧ v = -13 ∧ g = f) ∨ (((0 ≤ a1.toInt ∧ a1.toInt ≤ 3) ∧ (0 ≤ a2.toInt ∧ a2.toInt ≤ 2)) ∧ ¬ (f 23 a1.toInt.toNat 1).toInt = -1 ∧ (f 23 a1.toInt.toNat 1) = a2 ∧ (0 ≤ a3.toInt ∧ a3.toInt < (f 23 a1.toInt.toNat 2).toInt) ∧ v = 1 ∧ g = zup f 24 a1.toInt.toNat a3.toInt.toNat (znar a2 a4)))) := by
  refine ZM.intro (by decide +kernel) (Nat.le_of_ble_eq_true rfl) ?_
  intro X C hr hn
  have hF : zFr [(24, none)] f f := zFr.rf _ _
  show Z X 0 [some (zr 0 0), some (zi a1), some (zi a2), some (zi a3), some (zi a4), none, none] [] f
  refine z_iload_n (pc := 0) C dX9_item_0 rfl ?_
  refine z_callSb (pc := 1) C zk_X9_195 (m_X9_isSheet _ _ _) rfl rfl (Nat.le_of_ble_eq_true rfl) dX9_item_1 (fun h1_0 => ?_) (fun h1_0 => ?_)
  · skip
    have b2x : zB a1 0 3 := h1_0
    refine z_if_eq (pc := 4) 14 C dX9_item_4 (by decide) (fun h => absurd h (by decide)) (fun _ => ?_)
    refine z_iload_n (pc := 7) C dX9_item_7 rfl ?_
    refine z_callSb (pc := 8) C zk_X9_198 (m_X9_isLane _ _ _) rfl rfl (Nat.le_of_ble_eq_true rfl) dX9_item_8 (fun h8_2 => ?_) (fun h8_2 => ?_)
    · skip
      have b4x : zB a2 0 2 := h8_2
      refine z_if_ne (pc := 11) 16 C dX9_item_11 (by decide) (fun _ => ?_) (fun h => absurd h (by decide))
      refine z_aload_n (pc := 16) C dX9_item_16 rfl ?_
      refine z_getR (pc := 17) C zf_X9_37 rfl rfl (by decide) dX9_item_17 ?_
      refine z_iload_n (pc := 20) C dX9_item_20 rfl ?_
      refine z_aald (pc := 21) C rfl ⟨rfl, by decide⟩ (by decide) (zIx b2x (by decide) (by decide)) dX9_item_21 ?_
      refine w_grx (by have hq := zN b2x (by decide); show a1.toNatClampNeg < 4; omega) (fun m5 q5r h5x => ?_)
      have q5r : m5 = a1.toNatClampNeg := q5r
      have k5r : a1.toNatClampNeg = a1.toInt.toNat := rfl
      refine z_astore (pc := 22) C dX9_item_22 (by rw [hn]; decide) rfl ?_
      refine z_aload (pc := 24) C dX9_item_24 rfl ?_
      refine z_iload_n (pc := 26) C dX9_item_26 rfl ?_
      refine z_callV (pc := 27) C zk_X9_201 (x_X6_refuse _ _ m5 h5x a2 (zB.wk (a' := (-2147483648)) (b' := 2147483647) b4x (by decide) (by decide)) hI) rfl rfl h5x rfl rfl (Nat.le_of_ble_eq_true rfl) dX9_item_27 (fun r6 g6 q6 => ?_)
      obtain ⟨⟨v6, rfl, b6x⟩, hI6, hF6q, hp6_0⟩ := q6
      have hp6_0 := hp6_0 _ rfl
      obtain rfl := zFr_nil hF6q
      simp only [Option.toList, List.cons_append, List.nil_append]
      refine z_istore (pc := 30) C dX9_item_30 (by rw [hn]; decide) rfl ?_
      refine z_iload (pc := 32) C dX9_item_32 rfl ?_
      refine z_if_eq (pc := 34) 40 C dX9_item_34 (by decide) (fun h34_6 => ?_) (fun h34_6 => ?_)
      · skip
        have b8x : zB v6 0 0 := by have q1 := b6x; have q2 := (zB.of (x := 0) 0 (by decide)); simp only [z32lt, z32le, z32eq, Int32.reduceToInt, Int32.toInt_zero] at h34_6; constructor <;> omega
        refine z_iload_n (pc := 40) C dX9_item_40 rfl ?_
        refine z_if_lt (pc := 41) 53 C dX9_item_41 (by decide) (fun h41_8 => ?_) (fun h41_8 => ?_)
        · skip
          have b10x : zB a3 (-2147483648) (-1) := by have q1 := b3; have q2 := (zB.of (x := 0) 0 (by decide)); simp only [z32lt, z32le, z32eq, Int32.reduceToInt, Int32.toInt_zero] at h41_8; constructor <;> omega
          refine z_bipush (pc := 53) (v := -13) C dX9_item_53 (by decide) ?_
          exact z_iret (pc := 55) C hr dX9_item_55 ⟨⟨_, rfl, (zB.wk (a' := (-13)) (b' := 1) (zB.of (x := (-13)) (-13) (by decide)) (by decide) (by decide))⟩, hI, hF, (by
                                                                                          intro v hv; cases hv
                                                                                          have hn : m5 = a1.toInt.toNat := by omega
                                                                                          have hr := hp6_0
                                                                                          rw [hn] at hr
                                                                                          have hz := hr
                                                                                          rcases hr with ⟨h1, h2⟩ | ⟨h1, h2, h3⟩ | ⟨h1, h2, h3⟩
                                                                                          · subst h2; exact absurd (show (-11 : Int32) = 0 by assumption) (by decide)
                                                                                          · refine Or.inr (Or.inr (Or.inr (Or.inl ⟨⟨by assumption, by assumption⟩, h1, h2, ?_, rfl, rfl⟩)))
                                                                                            omega
                                                                                          · subst h3; exact absurd (show (-12 : Int32) = 0 by assumption) (by decide))⟩
        · skip
          have b11x : zB a3 0 2147483647 := by have q1 := b3; have q2 := (zB.of (x := 0) 0 (by decide)); simp only [z32lt, z32le, z32eq, Int32.reduceToInt, Int32.toInt_zero] at h41_8; constructor <;> omega
          refine z_iload_n (pc := 44) C dX9_item_44 rfl ?_
          refine z_aload (pc := 45) C dX9_item_45 rfl ?_
          refine z_getI (pc := 47) C zf_X9_204 rfl rfl h5x dX9_item_47 ?_
          refine w_gp (fun v => v = f 23 m5 2) rfl (fun v13 q13 => ?_)
          have b13x : zB v13 0 16 := by rw [q13]; exact (hI 23 m5 2)
          refine z_icmp_lt (pc := 50) 56 C dX9_item_50 (by decide) (fun h50_13 => ?_) (fun h50_13 => ?_)
          · skip
            have b15x : zB a3 0 15 := by have q1 := b11x; have q2 := b13x; simp only [z32lt, z32le, z32eq, Int32.reduceToInt, Int32.toInt_zero] at h50_13; constructor <;> omega
            have b16x : zB v13 1 16 := by have q1 := b11x; have q2 := b13x; simp only [z32lt, z32le, z32eq, Int32.reduceToInt, Int32.toInt_zero] at h50_13; constructor <;> omega
            refine z_aload (pc := 56) C dX9_item_56 rfl ?_
            refine z_iload_n (pc := 58) C dX9_item_58 rfl ?_
            refine z_iload (pc := 59) C dX9_item_59 rfl ?_
            refine z_callV (pc := 61) C zk_X9_339 (x_X6_put _ _ m5 h5x a3 b15x a4 b4 hI) rfl rfl h5x rfl rfl (Nat.le_of_ble_eq_true rfl) dX9_item_61 (fun r17 g17 q17 => ?_)
            obtain ⟨rfl, hI17, hF17q, hp17_0⟩ := q17
            have hF17 := zFr.tr hF hF17q (by decide)
            simp only [Option.toList, List.cons_append, List.nil_append]
            refine z_iconst (pc := 64) (v := 1) C dX9_item_64 (by decide) ?_
            exact z_iret (pc := 65) C hr dX9_item_65 ⟨⟨_, rfl, (zB.wk (a' := (-13)) (b' := 1) (zB.of (x := 1) 1 (by decide)) (by decide) (by decide))⟩, hI17, hF17, (by
                                                                                          intro v hv; cases hv
                                                                                          have hn : m5 = a1.toInt.toNat := by omega
                                                                                          have hr := hp6_0
                                                                                          rw [hn] at hr
                                                                                          rcases hr with ⟨h1, h2⟩ | ⟨h1, h2, h3⟩ | ⟨h1, h2, h3⟩
                                                                                          · subst h2; exact absurd (show (-11 : Int32) = 0 by assumption) (by decide)
                                                                                          · refine Or.inr (Or.inr (Or.inr (Or.inr ⟨⟨by assumption, by assumption⟩, h1, h2, ?_, rfl, ?_⟩)))
                                                                                            · have hq := q13
                                                                                              rw [hn] at hq
                                                                                              rw [← hq]
                                                                                              simp only [z32lt, z32le, z32eq] at *
                                                                                              omega
                                                                                            · have hp := hp17_0
                                                                                              rw [hn, h2] at hp
                                                                                              exact hp
                                                                                          · subst h3; exact absurd (show (-12 : Int32) = 0 by assumption) (by decide))⟩
          · skip
            refine z_bipush (pc := 53) (v := -13) C dX9_item_53 (by decide) ?_
            exact z_iret (pc := 55) C hr dX9_item_55 ⟨⟨_, rfl, (zB.wk (a' := (-13)) (b' := 1) (zB.of (x := (-13)) (-13) (by decide)) (by decide) (by decide))⟩, hI, hF, (by
                                                                                          intro v hv; cases hv
                                                                                          have hn : m5 = a1.toInt.toNat := by omega
                                                                                          have hr := hp6_0
                                                                                          rw [hn] at hr
                                                                                          have hz := hr
                                                                                          rcases hr with ⟨h1, h2⟩ | ⟨h1, h2, h3⟩ | ⟨h1, h2, h3⟩
                                                                                          · subst h2; exact absurd (show (-11 : Int32) = 0 by assumption) (by decide)
                                                                                          · refine Or.inr (Or.inr (Or.inr (Or.inl ⟨⟨by assumption, by assumption⟩, h1, h2, ?_, rfl, rfl⟩)))
                                                                                            have hq := q13
                                                                                            rw [hn] at hq
                                                                                            rw [← hq]
                                                                                            simp only [z32lt, z32le, z32eq] at *
                                                                                            omega
                                                                                          · subst h3; exact absurd (show (-12 : Int32) = 0 by assumption) (by decide))⟩
      · skip
        have b18x : zB v6 (-12) (-1) := by have q1 := b6x; have q2 := (zB.of (x := 0) 0 (by decide)); simp only [z32lt, z32le, z32eq, Int32.reduceToInt, Int32.toInt_zero] at h34_6; constructor <;> omega
        refine z_iload (pc := 37) C dX9_item_37 rfl ?_
        exact z_iret (pc := 39) C hr dX9_item_39 ⟨⟨_, rfl, (zB.wk (a' := (-13)) (b' := 1) b18x (by decide) (by decide))⟩, hI, hF, (by
                                                                                          intro v hv; cases hv
                                                                                          have hn : m5 = a1.toInt.toNat := by omega
                                                                                          have hr := hp6_0
                                                                                          rw [hn] at hr
                                                                                          rcases hr with ⟨h1, h2⟩ | ⟨h1, h2, h3⟩ | ⟨h1, h2, h3⟩
                                                                                          · exact Or.inr (Or.inl ⟨⟨by assumption, by assumption⟩, h1, h2, rfl⟩)
                                                                                          · exact absurd h3 (by assumption)
                                                                                          · exact Or.inr (Or.inr (Or.inl ⟨⟨by assumption, by assumption⟩, h1, h2, h3, rfl⟩)))⟩
    · skip
      refine z_if_ne (pc := 11) 16 C dX9_item_11 (by decide) (fun h => absurd (by decide) h) (fun _ => ?_)
      refine z_iconst (pc := 14) (v := -1) C dX9_item_14 (by decide) ?_
      exact z_iret (pc := 15) C hr dX9_item_15 ⟨⟨_, rfl, (zB.wk (a' := (-13)) (b' := 1) (zB.of (x := (-1)) (-1) (by decide)) (by decide) (by decide))⟩, hI, hF, (by intro v hv; cases hv; exact Or.inl ⟨by omega, rfl, rfl⟩)⟩
  · skip
    refine z_if_eq (pc := 4) 14 C dX9_item_4 (by decide) (fun _ => ?_) (fun h => absurd (by decide) h)
    refine z_iconst (pc := 14) (v := -1) C dX9_item_14 (by decide) ?_
    exact z_iret (pc := 15) C hr dX9_item_15 ⟨⟨_, rfl, (zB.wk (a' := (-13)) (b' := 1) (zB.of (x := (-1)) (-1) (by decide)) (by decide) (by decide))⟩, hI, hF, (by intro v hv; cases hv; exact Or.inl ⟨by omega, rfl, rfl⟩)⟩

set_option maxRecDepth 100000 in
set_option maxHeartbeats 4000000 in
theorem x_X10_item (d : Nat) (f : zM) (a1 : Int32) (b1 : zB a1 (-2147483648) 2147483647) (a2 : Int32) (b2 : zB a2 (-2147483648) 2147483647) (a3 : Int32) (b3 : zB a3 (-2147483648) 2147483647) (a4 : Int32) (b4 : zB a4 (-2147483648) 2147483647) (hI : zInv f) : ZM (d + 2) yX10_item cX10_item 6 (some .int) [zr 25 0, zi a1, zi a2, zi a3, zi a4] f (fun r g => (∃ v, r = some (zi v) ∧ zB v (-13) 1) ∧ zInv g ∧ zFr [(43, none)] f g ∧ (∀ v : Int32, r = some (zi v) → (¬ ((0 ≤ a1.toInt ∧ a1.toInt ≤ 3) ∧ (0 ≤ a2.toInt ∧ a2.toInt ≤ 2)) ∧ v = -1 ∧ g = f) ∨ (((0 ≤ a1.toInt ∧ a1.toInt ≤ 3) ∧ (0 ≤ a2.toInt ∧ a2.toInt ≤ 2)) ∧ (f 41 0 a1.toInt.toNat).toInt < 0 ∧ v = -11 ∧ g = f) ∨ (((0 ≤ a1.toInt ∧ a1.toInt ≤ 3) ∧ (0 ≤ a2.toInt ∧ a2.toInt ≤ 2)) ∧ ¬ (f 41 0 a1.toInt.toNat).toInt < 0 ∧ ¬ (f 41 0 a1.toInt.toNat) = a2 ∧ v = -12 ∧ g = f) ∨ (((0 ≤ a1.toInt ∧ a1.toInt ≤ 3) ∧ (0 ≤ a2.toInt ∧ a2.toInt ≤ 2)) ∧ ¬ (f 41 0 a1.toInt.toNat).toInt < 0 ∧ (f 41 0 a1.toInt.toNat) = a2 ∧ ¬ (0 ≤ a3.toInt ∧ a3.toInt < (f 42 0 a1.toInt.toNat).toInt) ∧ v = -13 ∧ g = f) ∨ (((0 ≤ a1.toInt ∧ a1.toInt ≤ 3) ∧ (0 ≤ a2.toInt ∧ a2.toInt ≤ 2)) ∧ ¬ (f 41 0 a1.toInt.toNat).toInt < 0 ∧ (f 41 0 a1.toInt.toNat) = a2 ∧ (0 ≤ a3.toInt ∧ a3.toInt < (f 42 0 a1.toInt.toNat).toInt) ∧ v = 1 ∧ g = zup f 43 0 (16 * a1.toInt.toNat + a3.toInt.toNat) (znar a2 a4)))) := by
  refine ZM.intro (by decide +kernel) (Nat.le_of_ble_eq_true rfl) ?_
  intro X C hr hn
  have hF : zFr [(43, none)] f f := zFr.rf _ _
  show Z X 0 [some (zr 25 0), some (zi a1), some (zi a2), some (zi a3), some (zi a4), none] [] f
  refine z_iload_n (pc := 0) C dX10_item_0 rfl ?_
  refine z_iload_n (pc := 1) C dX10_item_1 rfl ?_
  refine z_callSb (pc := 2) C zk_X10_268 (m_X10_isSheet _ _ _ _) rfl rfl (Nat.le_of_ble_eq_true rfl) dX10_item_2 (fun h2_0 => ?_) (fun h2_0 => ?_)
  · skip
    have b2x : zB a1 0 3 := h2_0.1
    have b3x : zB a2 0 2 := h2_0.2
    refine z_if_ne (pc := 5) 10 C dX10_item_5 (by decide) (fun _ => ?_) (fun h => absurd h (by decide))
    refine z_aload_n (pc := 10) C dX10_item_10 rfl ?_
    refine z_iload_n (pc := 11) C dX10_item_11 rfl ?_
    refine z_iload_n (pc := 12) C dX10_item_12 rfl ?_
    refine z_iload_n (pc := 13) C dX10_item_13 rfl ?_
    refine z_iconst (pc := 14) (v := 1) C dX10_item_14 (by decide) ?_
    refine z_callV (pc := 15) C zk_X10_271 (x_X10_lacksRow _ _ a1 b2x a2 b3x a3 b3 1 (zB.wk (a' := 1) (b' := 6) (zB.of (x := 1) 1 (by decide)) (by decide) (by decide)) hI) rfl rfl (by decide) rfl rfl (Nat.le_of_ble_eq_true rfl) dX10_item_15 (fun r4 g4 q4 => ?_)
    have qa4_1 : (1 : Int32).toInt = 1 := by decide
    obtain ⟨⟨v4, rfl, b4x⟩, hI4, hF4q, hp4_0, hp4_1⟩ := q4
    have hp4_0 := hp4_0 _ rfl
    have hp4_1 := hp4_1 _ rfl
    obtain rfl := zFr_nil hF4q
    simp only [Option.toList, List.cons_append, List.nil_append]
    refine z_istore (pc := 18) C dX10_item_18 (by rw [hn]; decide) rfl ?_
    refine z_iload (pc := 20) C dX10_item_20 rfl ?_
    refine z_if_ge (pc := 22) 28 C dX10_item_22 (by decide) (fun h22_4 => ?_) (fun h22_4 => ?_)
    · skip
      have b6x : zB v4 0 0 := by have q1 := b4x; have q2 := (zB.of (x := 0) 0 (by decide)); simp only [z32lt, z32le, z32eq, Int32.reduceToInt, Int32.toInt_zero] at h22_4; constructor <;> omega
      have b7x : zB a3 0 15 := by have qc0 : (1 : Int32).toInt = 1 := (by decide); constructor <;> omega
      refine z_aload_n (pc := 28) C dX10_item_28 rfl ?_
      refine z_getR (pc := 29) C zf_X10_61 rfl rfl (by decide) dX10_item_29 ?_
      refine z_bipush (pc := 32) (v := 16) C dX10_item_32 (by decide) ?_
      refine z_iload_n (pc := 34) C dX10_item_34 rfl ?_
      refine z_imul (pc := 35) C dX10_item_35 ?_
      refine w_gp (fun v => v = (16 : Int32) * a1) rfl (fun v8 q8 => ?_)
      have e8 : v8.toInt = 16 * a1.toInt := by rw [q8]; exact (zmul_kb 16 (by decide) (by decide) b2x (by decide) (by decide))
      have b8x : zB v8 0 48 := zmul_bb e8 (by decide) b2x
      refine z_iload_n (pc := 36) C dX10_item_36 rfl ?_
      refine z_iadd (pc := 37) C dX10_item_37 ?_
      refine w_gp (fun v => v = v8 + a3) rfl (fun v9 q9 => ?_)
      have e9 : v9.toInt = v8.toInt + a3.toInt := by rw [q9]; exact (zadd_eb b8x b7x (by decide) (by decide))
      have b9x : zB v9 0 63 := by have q1 := b8x; have q2 := b7x; constructor <;> omega
      refine z_iload_n (pc := 38) C dX10_item_38 rfl ?_
      refine z_if_ne (pc := 39) 53 C dX10_item_39 (by decide) (fun h39_9 => ?_) (fun h39_9 => ?_)
      · skip
        have b11x : zB a2 1 2 := by have q1 := b3x; have q2 := (zB.of (x := 0) 0 (by decide)); simp only [z32lt, z32le, z32eq, Int32.reduceToInt, Int32.toInt_zero] at h39_9; constructor <;> omega
        refine z_iload_n (pc := 53) C dX10_item_53 rfl ?_
        refine z_iconst (pc := 54) (v := 1) C dX10_item_54 (by decide) ?_
        refine z_icmp_ne (pc := 55) 69 C dX10_item_55 (by decide) (fun h55_11 => ?_) (fun h55_11 => ?_)
        · skip
          have b13x : zB a2 2 2 := by have q1 := b11x; have q2 := (zB.of (x := 1) 1 (by decide)); simp only [z32lt, z32le, z32eq, Int32.reduceToInt, Int32.toInt_zero] at h55_11; constructor <;> omega
          refine z_iload (pc := 69) C dX10_item_69 rfl ?_
          have kw71_13 : v9.toNatClampNeg = v9.toInt.toNat := rfl
          refine z_iast (pc := 71) C rfl (by decide) (zIx b9x (by decide) (by decide)) dX10_item_71 ?_
          refine w_memy hI hF b4 rfl (fun g14 qm14 hI14 hF14 => ?_)
          refine z_iconst (pc := 72) (v := 1) C dX10_item_72 (by decide) ?_
          exact z_iret (pc := 73) C hr dX10_item_73 ⟨⟨_, rfl, (zB.wk (a' := (-13)) (b' := 1) (zB.of (x := 1) 1 (by decide)) (by decide) (by decide))⟩, hI14, hF14, (by
                                                                                          intro v hv; cases hv
                                                                                          have c1 : (1 : Int32).toInt = 1 := by decide
                                                                                          have c2 : (0 : Int32).toInt = 0 := by decide
                                                                                          rcases hp4_0 with ⟨h1, h2, h3⟩ | ⟨h1, h2, h3⟩ | ⟨h1, h2, h3, h4⟩ | ⟨h1, h2, h3⟩
                                                                                          · rw [z32eq] at h3; exfalso; have : (-11 : Int32).toInt = -11 := by decide
                                                                                            omega
                                                                                          · rw [z32eq] at h3; exfalso; have : (-12 : Int32).toInt = -12 := by decide
                                                                                            omega
                                                                                          · refine Or.inr (Or.inr (Or.inr (Or.inr ⟨by assumption, ?_, h1, ?_, rfl, ?_⟩)))
                                                                                            · rw [h1]; omega
                                                                                            · omega
                                                                                            · have hx : (v9).toNatClampNeg = 16 * a1.toInt.toNat + a3.toInt.toNat := by omega
                                                                                              subst qm14
                                                                                              rw [hx]
                                                                                              congr 1
                                                                                              unfold znar
                                                                                              first
                                                                                                | (rw [if_neg (by assumption), if_neg (by assumption)]; try (subst_vars; rfl))
                                                                                                | (rw [if_neg (by assumption), if_pos (by assumption), ← znar_16]; try (subst_vars; rfl))
                                                                                                | (rw [if_pos (by assumption), ← znar_8]; try (subst_vars; rfl))
                                                                                          · rw [z32eq] at h3; exfalso; have : (-13 : Int32).toInt = -13 := by decide
                                                                                            omega)⟩
        · skip
          have b15x : zB a2 1 1 := by have q1 := b11x; have q2 := (zB.of (x := 1) 1 (by decide)); simp only [z32lt, z32le, z32eq, Int32.reduceToInt, Int32.toInt_zero] at h55_11; constructor <;> omega
          refine z_iload (pc := 58) C dX10_item_58 rfl ?_
          refine z_bipush (pc := 60) (v := 16) C dX10_item_60 (by decide) ?_
          refine z_ishl (pc := 62) C dX10_item_62 ?_
          refine w_gp (fun v => v = a4 <<< ((16 : Int32) &&& 31)) rfl (fun v16 q16 => ?_)
          refine z_bipush (pc := 63) (v := 16) C dX10_item_63 (by decide) ?_
          refine z_ishr (pc := 65) C dX10_item_65 ?_
          refine w_gp (fun v => v = v16 >>> ((16 : Int32) &&& 31)) rfl (fun v17 q17 => ?_)
          refine z_goto (pc := 66) 71 C dX10_item_66 (by decide) ?_
          have kw71_17 : v9.toNatClampNeg = v9.toInt.toNat := rfl
          refine z_iast (pc := 71) C rfl (by decide) (zIx b9x (by decide) (by decide)) dX10_item_71 ?_
          refine w_memy hI hF (zB_any v17) rfl (fun g18 qm18 hI18 hF18 => ?_)
          refine z_iconst (pc := 72) (v := 1) C dX10_item_72 (by decide) ?_
          exact z_iret (pc := 73) C hr dX10_item_73 ⟨⟨_, rfl, (zB.wk (a' := (-13)) (b' := 1) (zB.of (x := 1) 1 (by decide)) (by decide) (by decide))⟩, hI18, hF18, (by
                                                                                          intro v hv; cases hv
                                                                                          have c1 : (1 : Int32).toInt = 1 := by decide
                                                                                          have c2 : (0 : Int32).toInt = 0 := by decide
                                                                                          rcases hp4_0 with ⟨h1, h2, h3⟩ | ⟨h1, h2, h3⟩ | ⟨h1, h2, h3, h4⟩ | ⟨h1, h2, h3⟩
                                                                                          · rw [z32eq] at h3; exfalso; have : (-11 : Int32).toInt = -11 := by decide
                                                                                            omega
                                                                                          · rw [z32eq] at h3; exfalso; have : (-12 : Int32).toInt = -12 := by decide
                                                                                            omega
                                                                                          · refine Or.inr (Or.inr (Or.inr (Or.inr ⟨by assumption, ?_, h1, ?_, rfl, ?_⟩)))
                                                                                            · rw [h1]; omega
                                                                                            · omega
                                                                                            · have hx : (v9).toNatClampNeg = 16 * a1.toInt.toNat + a3.toInt.toNat := by omega
                                                                                              subst qm18
                                                                                              rw [hx]
                                                                                              congr 1
                                                                                              unfold znar
                                                                                              first
                                                                                                | (rw [if_neg (by assumption), if_neg (by assumption)]; try (subst_vars; rfl))
                                                                                                | (rw [if_neg (by assumption), if_pos (by assumption), ← znar_16]; try (subst_vars; rfl))
                                                                                                | (rw [if_pos (by assumption), ← znar_8]; try (subst_vars; rfl))
                                                                                          · rw [z32eq] at h3; exfalso; have : (-13 : Int32).toInt = -13 := by decide
                                                                                            omega)⟩
      · skip
        have b19x : zB a2 0 0 := by have q1 := b3x; have q2 := (zB.of (x := 0) 0 (by decide)); simp only [z32lt, z32le, z32eq, Int32.reduceToInt, Int32.toInt_zero] at h39_9; constructor <;> omega
        refine z_iload (pc := 42) C dX10_item_42 rfl ?_
        refine z_bipush (pc := 44) (v := 24) C dX10_item_44 (by decide) ?_
        refine z_ishl (pc := 46) C dX10_item_46 ?_
        refine w_gp (fun v => v = a4 <<< ((24 : Int32) &&& 31)) rfl (fun v20 q20 => ?_)
        refine z_bipush (pc := 47) (v := 24) C dX10_item_47 (by decide) ?_
        refine z_ishr (pc := 49) C dX10_item_49 ?_
        refine w_gp (fun v => v = v20 >>> ((24 : Int32) &&& 31)) rfl (fun v21 q21 => ?_)
        refine z_goto (pc := 50) 71 C dX10_item_50 (by decide) ?_
        have kw71_21 : v9.toNatClampNeg = v9.toInt.toNat := rfl
        refine z_iast (pc := 71) C rfl (by decide) (zIx b9x (by decide) (by decide)) dX10_item_71 ?_
        refine w_memy hI hF (zB_any v21) rfl (fun g22 qm22 hI22 hF22 => ?_)
        refine z_iconst (pc := 72) (v := 1) C dX10_item_72 (by decide) ?_
        exact z_iret (pc := 73) C hr dX10_item_73 ⟨⟨_, rfl, (zB.wk (a' := (-13)) (b' := 1) (zB.of (x := 1) 1 (by decide)) (by decide) (by decide))⟩, hI22, hF22, (by
                                                                                          intro v hv; cases hv
                                                                                          have c1 : (1 : Int32).toInt = 1 := by decide
                                                                                          have c2 : (0 : Int32).toInt = 0 := by decide
                                                                                          rcases hp4_0 with ⟨h1, h2, h3⟩ | ⟨h1, h2, h3⟩ | ⟨h1, h2, h3, h4⟩ | ⟨h1, h2, h3⟩
                                                                                          · rw [z32eq] at h3; exfalso; have : (-11 : Int32).toInt = -11 := by decide
                                                                                            omega
                                                                                          · rw [z32eq] at h3; exfalso; have : (-12 : Int32).toInt = -12 := by decide
                                                                                            omega
                                                                                          · refine Or.inr (Or.inr (Or.inr (Or.inr ⟨by assumption, ?_, h1, ?_, rfl, ?_⟩)))
                                                                                            · rw [h1]; omega
                                                                                            · omega
                                                                                            · have hx : (v9).toNatClampNeg = 16 * a1.toInt.toNat + a3.toInt.toNat := by omega
                                                                                              subst qm22
                                                                                              rw [hx]
                                                                                              congr 1
                                                                                              unfold znar
                                                                                              first
                                                                                                | (rw [if_neg (by assumption), if_neg (by assumption)]; try (subst_vars; rfl))
                                                                                                | (rw [if_neg (by assumption), if_pos (by assumption), ← znar_16]; try (subst_vars; rfl))
                                                                                                | (rw [if_pos (by assumption), ← znar_8]; try (subst_vars; rfl))
                                                                                          · rw [z32eq] at h3; exfalso; have : (-13 : Int32).toInt = -13 := by decide
                                                                                            omega)⟩
    · skip
      have b23x : zB v4 (-13) (-1) := by have q1 := b4x; have q2 := (zB.of (x := 0) 0 (by decide)); simp only [z32lt, z32le, z32eq, Int32.reduceToInt, Int32.toInt_zero] at h22_4; constructor <;> omega
      refine z_iload (pc := 25) C dX10_item_25 rfl ?_
      exact z_iret (pc := 27) C hr dX10_item_27 ⟨⟨_, rfl, (zB.wk (a' := (-13)) (b' := 1) b23x (by decide) (by decide))⟩, hI, hF, (by
                                                                                          intro v hv; cases hv
                                                                                          have c1 : (1 : Int32).toInt = 1 := by decide
                                                                                          have c2 : (0 : Int32).toInt = 0 := by decide
                                                                                          rcases hp4_0 with ⟨h1, h2, h3⟩ | ⟨h1, h2, h3⟩ | ⟨h1, h2, h3, h4⟩ | ⟨h1, h2, h3⟩
                                                                                          · exact Or.inr (Or.inl ⟨by assumption, h2, h3, rfl⟩)
                                                                                          · exact Or.inr (Or.inr (Or.inl ⟨by assumption, by omega, h1, h3, rfl⟩))
                                                                                          · rw [z32eq] at h4; exfalso; omega
                                                                                          · refine Or.inr (Or.inr (Or.inr (Or.inl ⟨by assumption, ?_, h1, ?_, h3, rfl⟩)))
                                                                                            · rw [h1]; omega
                                                                                            · omega)⟩
  · skip
    refine z_if_ne (pc := 5) 10 C dX10_item_5 (by decide) (fun h => absurd (by decide) h) (fun _ => ?_)
    refine z_iconst (pc := 8) (v := -1) C dX10_item_8 (by decide) ?_
    exact z_iret (pc := 9) C hr dX10_item_9 ⟨⟨_, rfl, (zB.wk (a' := (-13)) (b' := 1) (zB.of (x := (-1)) (-1) (by decide)) (by decide) (by decide))⟩, hI, hF, (by intro v hv; cases hv; exact Or.inl ⟨by assumption, rfl, rfl⟩)⟩
