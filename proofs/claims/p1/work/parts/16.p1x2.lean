set_option maxRecDepth 100000 in
set_option maxHeartbeats 4000000 in
theorem fill_loop {X : zX} {d : Nat} {f : zM} {k n len : Nat} {v : Int32} (C : zC X cJ7_fill_53178 yJ7_fill_53178.cls d) (hn : znL X = 4) (h9 : n < zcnt k) (hs : zshp k = .inr (0, len, none)) (hl31 : len < 2 ^ 31) (kk : Z X 20 [some (zr k n), some (zi v), some (zi (nI len)), some (zi (nI len))] [] (zfill f k n len v)) :
    ∀ m i : Nat, i + m = len → Z X 5 [some (zr k n), some (zi v), some (zi (nI i)), some (zi (nI len))] [] (zfill f k n i v) := by
  intro m
  induction m with
  | zero =>
    intro i hi
    obtain rfl : i = len := by omega
    refine z_iload_n (pc := 5) C dJ7_fill_53178_5 rfl ?_
    refine z_iload_n (pc := 6) C dJ7_fill_53178_6 rfl ?_
    refine z_icmp_ge (pc := 7) 20 C dJ7_fill_53178_7 (by decide) (fun _ => kk) (fun h => absurd (Int32.le_refl _) h)
  | succ m ih =>
    intro i hi
    have hlt : i < len := by omega
    refine z_iload_n (pc := 5) C dJ7_fill_53178_5 rfl ?_
    refine z_iload_n (pc := 6) C dJ7_fill_53178_6 rfl ?_
    refine z_icmp_ge (pc := 7) 20 C dJ7_fill_53178_7 (by decide) (fun h => absurd h (nI_ge hlt hl31)) (fun _ => ?_)
    refine z_aload_n (pc := 10) C dJ7_fill_53178_10 rfl ?_
    refine z_iload_n (pc := 11) C dJ7_fill_53178_11 rfl ?_
    refine z_iload_n (pc := 12) C dJ7_fill_53178_12 rfl ?_
    refine z_iast (pc := 13) C hs h9 (nI_in hlt hl31) dJ7_fill_53178_13 ?_
    rw [nI_clamp (by omega), zfill_s]
    refine z_iinc (pc := 14) (v := 1) C dJ7_fill_53178_14 rfl rfl (by rw [hn]; decide) rfl ?_
    rw [← nI_succ]
    refine z_goto (pc := 17) 5 C dJ7_fill_53178_17 (by decide) ?_
    exact ih (i + 1) (by omega)
set_option maxRecDepth 100000 in
set_option maxHeartbeats 4000000 in
theorem m_fill (d : Nat) (f : zM) (k n len : Nat) (v : Int32) (h9 : n < zcnt k) (hs : zshp k = .inr (0, len, none)) (hl31 : len < 2 ^ 31) : ZM d yJ7_fill_53178 cJ7_fill_53178 4 none [zr k n, zi v] f (fun r g => r = none ∧ g = zfill f k n len v) := by
  refine ZM.intro (by decide +kernel) (Nat.le_of_ble_eq_true rfl) ?_
  intro X C hr hn
  show Z X 0 [some (zr k n), some (zi v), none, none] [] f
  refine z_iconst (pc := 0) (v := 0) C dJ7_fill_53178_0 (by decide) ?_
  refine z_istore_n (pc := 1) C dJ7_fill_53178_1 (by rw [hn]; decide) rfl ?_
  refine z_aload_n (pc := 2) C dJ7_fill_53178_2 rfl ?_
  refine z_alenI (pc := 3) C hs h9 rfl dJ7_fill_53178_3 ?_
  refine z_istore_n (pc := 4) C dJ7_fill_53178_4 (by rw [hn]; decide) rfl ?_
  have := fill_loop (f := f) (v := v) C hn h9 hs hl31 (z_vret (pc := 20) C hr dJ7_fill_53178_20 ⟨rfl, rfl⟩) len 0 (by omega)
  rw [zfill_0] at this
  exact this

set_option maxRecDepth 100000 in
set_option maxHeartbeats 4000000 in
theorem m_X1_forget (d : Nat) (f : zM) (n : Nat) (h9 : n < 16) : ZM (d + 1) yX1_forget cX1_forget 1 none [zr 8 n] f (fun r g => r = none ∧ g = zfill (zfill (zup (zup (zup f 8 n 5 0) 8 n 6 0) 8 n 7 0) 9 n 6 0) 10 n 6 0) := by
  refine ZM.intro (by decide +kernel) (Nat.le_of_ble_eq_true rfl) ?_
  intro X C hr hn
  show Z X 0 [some (zr 8 n)] [] f
  refine z_aload_n (pc := 0) C dX1_forget_0 rfl ?_
  refine z_iconst (pc := 1) (v := 0) C dX1_forget_1 (by decide) ?_
  refine z_putI (pc := 2) C zf_X1_39 zp_1_5 rfl rfl h9 dX1_forget_2 ?_
  refine z_aload_n (pc := 5) C dX1_forget_5 rfl ?_
  refine z_iconst (pc := 6) (v := 0) C dX1_forget_6 (by decide) ?_
  refine z_putI (pc := 7) C zf_X1_42 zp_1_6 rfl rfl h9 dX1_forget_7 ?_
  refine z_aload_n (pc := 10) C dX1_forget_10 rfl ?_
  refine z_iconst (pc := 11) (v := 0) C dX1_forget_11 (by decide) ?_
  refine z_putI (pc := 12) C zf_X1_45 zp_1_7 rfl rfl h9 dX1_forget_12 ?_
  refine z_aload_n (pc := 15) C dX1_forget_15 rfl ?_
  refine z_getR (pc := 16) C zf_X1_9 rfl rfl h9 dX1_forget_16 ?_
  refine z_iconst (pc := 19) (v := 0) C dX1_forget_19 (by decide) ?_
  refine z_callSx (pc := 20) C zk_X1_48 (m_fill _ _ 9 n 6 _ h9 rfl (by decide)) rfl rfl (Nat.le_of_ble_eq_true rfl) dX1_forget_20 ?_
  simp only [Option.toList, List.cons_append, List.nil_append]
  refine z_aload_n (pc := 23) C dX1_forget_23 rfl ?_
  refine z_getR (pc := 24) C zf_X1_15 rfl rfl h9 dX1_forget_24 ?_
  refine z_iconst (pc := 27) (v := 0) C dX1_forget_27 (by decide) ?_
  refine z_callSx (pc := 28) C zk_X1_48 (m_fill _ _ 10 n 6 _ h9 rfl (by decide)) rfl rfl (Nat.le_of_ble_eq_true rfl) dX1_forget_28 ?_
  simp only [Option.toList, List.cons_append, List.nil_append]
  exact z_vret (pc := 31) C hr dX1_forget_31 (⟨by simp, rfl⟩)

set_option maxRecDepth 100000 in
set_option maxHeartbeats 4000000 in
theorem m_X6_begin (d : Nat) (f : zM) (n : Nat) (h9 : n < 4) (a1 a2 : Int32) : ZM (d + 1) yX6_begin cX6_begin 3 none [zr 23 n, zi a1, zi a2] f (fun r g => r = none ∧ g = zfill (zup (zup f 23 n 1 a1) 23 n 2 a2) 24 n 16 0) := by
  refine ZM.intro (by decide +kernel) (Nat.le_of_ble_eq_true rfl) ?_
  intro X C hr hn
  show Z X 0 [some (zr 23 n), some (zi a1), some (zi a2)] [] f
  refine z_aload_n (pc := 0) C dX6_begin_0 rfl ?_
  refine z_iload_n (pc := 1) C dX6_begin_1 rfl ?_
  refine z_putI (pc := 2) C zf_X6_15 zp_6_1 rfl rfl h9 dX6_begin_2 ?_
  refine z_aload_n (pc := 5) C dX6_begin_5 rfl ?_
  refine z_iload_n (pc := 6) C dX6_begin_6 rfl ?_
  refine z_putI (pc := 7) C zf_X6_19 zp_6_2 rfl rfl h9 dX6_begin_7 ?_
  refine z_aload_n (pc := 10) C dX6_begin_10 rfl ?_
  refine z_getR (pc := 11) C zf_X6_9 rfl rfl h9 dX6_begin_11 ?_
  refine z_iconst (pc := 14) (v := 0) C dX6_begin_14 (by decide) ?_
  refine z_callSx (pc := 15) C zk_X6_22 (m_fill _ _ 24 n 16 _ h9 rfl (by decide)) rfl rfl (Nat.le_of_ble_eq_true rfl) dX6_begin_15 ?_
  simp only [Option.toList, List.cons_append, List.nil_append]
  exact z_vret (pc := 18) C hr dX6_begin_18 (⟨by simp, rfl⟩)

set_option maxRecDepth 100000 in
set_option maxHeartbeats 4000000 in
theorem p_X8_learnAgain (d : Nat) (f : zM) (h0 : f 1 0 5 = 0) (v : Int32) (hv : vp_in v 8) (h8 : v.toNatClampNeg < 8) : ZM (d + 2) yX8_learnAgain cX8_learnAgain 3 none [zr 1 0, zi v] f (fun r g => r = none ∧ g = zfill (zfill (zup (zup (zup f 8 v.toNatClampNeg 5 0) 8 v.toNatClampNeg 6 0) 8 v.toNatClampNeg 7 0) 9 v.toNatClampNeg 6 0) 10 v.toNatClampNeg 6 0) := by
  refine ZM.intro (by decide +kernel) (Nat.le_of_ble_eq_true rfl) ?_
  intro X C hr hn
  show Z X 0 [some (zr 1 0), some (zi v), none] [] f
  refine z_aload_n (pc := 0) C dX8_learnAgain_0 rfl ?_
  refine z_getR (pc := 1) C zf_X8_19 rfl rfl (by decide) dX8_learnAgain_1 ?_
  refine z_iload_n (pc := 4) C dX8_learnAgain_4 rfl ?_
  refine z_aald (pc := 5) C rfl ⟨rfl, by decide⟩ (by decide) hv dX8_learnAgain_5 ?_
  refine z_callVx (pc := 6) C zk_X8_92 (m_X1_forget _ _ (8 * 0 + v.toNatClampNeg) (by omega)) rfl rfl (by show 8 * 0 + _ < 16; omega) rfl rfl (Nat.le_of_ble_eq_true rfl) dX8_learnAgain_6 ?_
  simp only [Option.toList, List.cons_append, List.nil_append]
  refine z_iconst (pc := 9) (v := 0) C dX8_learnAgain_9 (by decide) ?_
  refine z_istore_n (pc := 10) C dX8_learnAgain_10 (by rw [hn]; decide) rfl ?_
  refine z_iload_n (pc := 11) C dX8_learnAgain_11 rfl ?_
  refine z_aload_n (pc := 12) C dX8_learnAgain_12 rfl ?_
  refine z_getI (pc := 13) C zf_X8_46 rfl rfl (by decide) dX8_learnAgain_13 ?_
  refine z_icmp_ge (pc := 16) 41 C dX8_learnAgain_16 (by decide) (fun h16 => ?_) (fun h16 => absurd (by simp only [zfill, zup]; simp [h0]) h16)
  exact z_vret (pc := 41) C hr dX8_learnAgain_41 (⟨rfl, by rw [Nat.mul_zero, Nat.zero_add]⟩)

set_option maxRecDepth 100000 in
set_option maxHeartbeats 4000000 in
theorem p_X8_takeDeed (d : Nat) (f : zM) (h0 : f 1 0 5 = 0) (h1 : f 1 0 6 = 0) : ZM (d + 3) yX8_takeDeed cX8_takeDeed 1 (some .int) [zr 1 0] f (fun r g => r = some (zi 0) ∧ (zKeep f → zKeep g)) := by
  refine ZM.intro (by decide +kernel) (Nat.le_of_ble_eq_true rfl) ?_
  intro X C hr hn
  show Z X 0 [some (zr 1 0)] [] f
  refine z_aload_n (pc := 0) C dX8_takeDeed_0 rfl ?_
  refine z_aload_n (pc := 1) C dX8_takeDeed_1 rfl ?_
  refine z_getI (pc := 2) C zf_X8_54 rfl rfl (by decide) dX8_takeDeed_2 ?_
  refine z_callVx (pc := 5) C zk_X8_60 (p_X8_learnAgain _ _ h0 _ (by rw [h1]; unfold vp_in; decide) (by rw [h1]; decide)) rfl rfl (by decide) rfl rfl (Nat.le_of_ble_eq_true rfl) dX8_takeDeed_5 ?_
  simp only [Option.toList, List.cons_append, List.nil_append]
  refine z_aload_n (pc := 8) C dX8_takeDeed_8 rfl ?_
  first | refine z_dupr (pc := 9) C dX8_takeDeed_9 ?_ | refine z_dupi (pc := 9) C dX8_takeDeed_9 ?_
  refine z_getI (pc := 10) C zf_X8_54 rfl rfl (by decide) dX8_takeDeed_10 ?_
  refine z_iconst (pc := 13) (v := 1) C dX8_takeDeed_13 (by decide) ?_
  refine z_iadd (pc := 14) C dX8_takeDeed_14 ?_
  refine z_putI (pc := 15) C zf_X8_54 zp_8_6 rfl rfl (by decide) dX8_takeDeed_15 ?_
  refine z_aload_n (pc := 18) C dX8_takeDeed_18 rfl ?_
  refine z_getI (pc := 19) C zf_X8_54 rfl rfl (by decide) dX8_takeDeed_19 ?_
  refine z_iconst (pc := 22) (v := 1) C dX8_takeDeed_22 (by decide) ?_
  refine z_isub (pc := 23) C dX8_takeDeed_23 ?_
  exact z_iret (pc := 24) C hr dX8_takeDeed_24 (⟨by simp [zup, zfill, h1], fun hk => by repeat (first | exact hk | refine zKeep.up ?_ (by decide) | refine zKeep.fill ?_ (by decide))⟩)

set_option maxRecDepth 100000 in
set_option maxHeartbeats 4000000 in
theorem p_X9_crime (d : Nat) (a1 a2 a3 a4 a5 a6 : Int32) (hb : a6 = 0 ∨ a6 = 1) : ZM (d + 1) yX9_crime cX9_crime 7 (some .int) [zr 0 0, zi a1, zi a2, zi a3, zi a4, zi a5, zi a6] z0 (fun r g => r = some (zi (if (0 ≤ a1.toInt ∧ a1.toInt ≤ 5) ∧ (1 ≤ a2.toInt ∧ a2.toInt ≤ 63) ∧ (0 ≤ a3.toInt ∧ a3.toInt ≤ 63) ∧ a2 &&& a3 = 0 ∧ (1 ≤ a5.toInt ∧ a5.toInt ≤ 40) ∧ (0 ≤ a4.toInt ∧ a4.toInt ≤ a5.toInt) then 0 else -1)) ∧ zKeep g) := by
  refine ZM.intro (by decide +kernel) (Nat.le_of_ble_eq_true rfl) ?_
  intro X C hr hn
  show Z X 0 [some (zr 0 0), some (zi a1), some (zi a2), some (zi a3), some (zi a4), some (zi a5), some (zi a6)] [] z0
  refine z_iload_n (pc := 0) C dX9_crime_0 rfl ?_
  refine z_callSb (pc := 1) C zk_X9_46 (m_X9_isLand _ _ _) rfl rfl (Nat.le_of_ble_eq_true rfl) dX9_crime_1 (fun h1 => ?_) (fun h1 => ?_)
  · skip
    refine z_if_eq (pc := 4) 59 C dX9_crime_4 (by decide) (fun h4 => absurd h4 (by decide)) (fun h4 => ?_)
    refine z_iload_n (pc := 7) C dX9_crime_7 rfl ?_
    refine z_iconst (pc := 8) (v := 1) C dX9_crime_8 (by decide) ?_
    refine z_icmp_lt (pc := 9) 59 C dX9_crime_9 (by decide) (fun h9 => ?_) (fun h9 => ?_)
    · skip
      refine z_iconst (pc := 59) (v := -1) C dX9_crime_59 (by decide) ?_
      exact z_iret (pc := 60) C hr dX9_crime_60 (⟨by congr 2; first | (rw [if_neg (by simp only [z32lt, z32le, z32eq, Int32.reduceToInt, Int32.toInt_zero, Int32.toInt_one] at *; omega)]; done) | (rw [if_pos (by simp only [z32lt, z32le, z32eq, Int32.reduceToInt, Int32.toInt_zero, Int32.toInt_one] at *; omega)] <;> simp [zup, z0, zfill]), by repeat (first | exact zk0 | refine zKeep.up ?_ (by decide) | refine zKeep.fill ?_ (by decide))⟩)
    · skip
      refine z_iload_n (pc := 12) C dX9_crime_12 rfl ?_
      refine z_bipush (pc := 13) (v := 63) C dX9_crime_13 (by decide) ?_
      refine z_icmp_gt (pc := 15) 59 C dX9_crime_15 (by decide) (fun h15 => ?_) (fun h15 => ?_)
      · skip
        refine z_iconst (pc := 59) (v := -1) C dX9_crime_59 (by decide) ?_
        exact z_iret (pc := 60) C hr dX9_crime_60 (⟨by congr 2; first | (rw [if_neg (by simp only [z32lt, z32le, z32eq, Int32.reduceToInt, Int32.toInt_zero, Int32.toInt_one] at *; omega)]; done) | (rw [if_pos (by simp only [z32lt, z32le, z32eq, Int32.reduceToInt, Int32.toInt_zero, Int32.toInt_one] at *; omega)] <;> simp [zup, z0, zfill]), by repeat (first | exact zk0 | refine zKeep.up ?_ (by decide) | refine zKeep.fill ?_ (by decide))⟩)
      · skip
        refine z_iload_n (pc := 18) C dX9_crime_18 rfl ?_
        refine z_if_lt (pc := 19) 59 C dX9_crime_19 (by decide) (fun h19 => ?_) (fun h19 => ?_)
        · skip
          refine z_iconst (pc := 59) (v := -1) C dX9_crime_59 (by decide) ?_
          exact z_iret (pc := 60) C hr dX9_crime_60 (⟨by congr 2; first | (rw [if_neg (by simp only [z32lt, z32le, z32eq, Int32.reduceToInt, Int32.toInt_zero, Int32.toInt_one] at *; omega)]; done) | (rw [if_pos (by simp only [z32lt, z32le, z32eq, Int32.reduceToInt, Int32.toInt_zero, Int32.toInt_one] at *; omega)] <;> simp [zup, z0, zfill]), by repeat (first | exact zk0 | refine zKeep.up ?_ (by decide) | refine zKeep.fill ?_ (by decide))⟩)
        · skip
          refine z_iload_n (pc := 22) C dX9_crime_22 rfl ?_
          refine z_bipush (pc := 23) (v := 63) C dX9_crime_23 (by decide) ?_
          refine z_icmp_gt (pc := 25) 59 C dX9_crime_25 (by decide) (fun h25 => ?_) (fun h25 => ?_)
          · skip
            refine z_iconst (pc := 59) (v := -1) C dX9_crime_59 (by decide) ?_
            exact z_iret (pc := 60) C hr dX9_crime_60 (⟨by congr 2; first | (rw [if_neg (by simp only [z32lt, z32le, z32eq, Int32.reduceToInt, Int32.toInt_zero, Int32.toInt_one] at *; omega)]; done) | (rw [if_pos (by simp only [z32lt, z32le, z32eq, Int32.reduceToInt, Int32.toInt_zero, Int32.toInt_one] at *; omega)] <;> simp [zup, z0, zfill]), by repeat (first | exact zk0 | refine zKeep.up ?_ (by decide) | refine zKeep.fill ?_ (by decide))⟩)
          · skip
            refine z_iload_n (pc := 28) C dX9_crime_28 rfl ?_
            refine z_iload_n (pc := 29) C dX9_crime_29 rfl ?_
            refine z_iand (pc := 30) C dX9_crime_30 ?_
            refine z_if_ne (pc := 31) 59 C dX9_crime_31 (by decide) (fun h31 => ?_) (fun h31 => ?_)
            · skip
              refine z_iconst (pc := 59) (v := -1) C dX9_crime_59 (by decide) ?_
              exact z_iret (pc := 60) C hr dX9_crime_60 (⟨by congr 2; first | (rw [if_neg (by simp only [z32lt, z32le, z32eq, Int32.reduceToInt, Int32.toInt_zero, Int32.toInt_one] at *; omega)]; done) | (rw [if_pos (by simp only [z32lt, z32le, z32eq, Int32.reduceToInt, Int32.toInt_zero, Int32.toInt_one] at *; omega)] <;> simp [zup, z0, zfill]), by repeat (first | exact zk0 | refine zKeep.up ?_ (by decide) | refine zKeep.fill ?_ (by decide))⟩)
            · skip
              refine z_iload (pc := 34) C dX9_crime_34 rfl ?_
              refine z_iconst (pc := 36) (v := 1) C dX9_crime_36 (by decide) ?_
              refine z_icmp_lt (pc := 37) 59 C dX9_crime_37 (by decide) (fun h37 => ?_) (fun h37 => ?_)
              · skip
                refine z_iconst (pc := 59) (v := -1) C dX9_crime_59 (by decide) ?_
                exact z_iret (pc := 60) C hr dX9_crime_60 (⟨by congr 2; first | (rw [if_neg (by simp only [z32lt, z32le, z32eq, Int32.reduceToInt, Int32.toInt_zero, Int32.toInt_one] at *; omega)]; done) | (rw [if_pos (by simp only [z32lt, z32le, z32eq, Int32.reduceToInt, Int32.toInt_zero, Int32.toInt_one] at *; omega)] <;> simp [zup, z0, zfill]), by repeat (first | exact zk0 | refine zKeep.up ?_ (by decide) | refine zKeep.fill ?_ (by decide))⟩)
              · skip
                refine z_iload (pc := 40) C dX9_crime_40 rfl ?_
                refine z_bipush (pc := 42) (v := 40) C dX9_crime_42 (by decide) ?_
                refine z_icmp_gt (pc := 44) 59 C dX9_crime_44 (by decide) (fun h44 => ?_) (fun h44 => ?_)
                · skip
                  refine z_iconst (pc := 59) (v := -1) C dX9_crime_59 (by decide) ?_
                  exact z_iret (pc := 60) C hr dX9_crime_60 (⟨by congr 2; first | (rw [if_neg (by simp only [z32lt, z32le, z32eq, Int32.reduceToInt, Int32.toInt_zero, Int32.toInt_one] at *; omega)]; done) | (rw [if_pos (by simp only [z32lt, z32le, z32eq, Int32.reduceToInt, Int32.toInt_zero, Int32.toInt_one] at *; omega)] <;> simp [zup, z0, zfill]), by repeat (first | exact zk0 | refine zKeep.up ?_ (by decide) | refine zKeep.fill ?_ (by decide))⟩)
                · skip
                  refine z_iload (pc := 47) C dX9_crime_47 rfl ?_
                  refine z_if_lt (pc := 49) 59 C dX9_crime_49 (by decide) (fun h49 => ?_) (fun h49 => ?_)
                  · skip
                    refine z_iconst (pc := 59) (v := -1) C dX9_crime_59 (by decide) ?_
                    exact z_iret (pc := 60) C hr dX9_crime_60 (⟨by congr 2; first | (rw [if_neg (by simp only [z32lt, z32le, z32eq, Int32.reduceToInt, Int32.toInt_zero, Int32.toInt_one] at *; omega)]; done) | (rw [if_pos (by simp only [z32lt, z32le, z32eq, Int32.reduceToInt, Int32.toInt_zero, Int32.toInt_one] at *; omega)] <;> simp [zup, z0, zfill]), by repeat (first | exact zk0 | refine zKeep.up ?_ (by decide) | refine zKeep.fill ?_ (by decide))⟩)
                  · skip
                    refine z_iload (pc := 52) C dX9_crime_52 rfl ?_
                    refine z_iload (pc := 54) C dX9_crime_54 rfl ?_
                    refine z_icmp_le (pc := 56) 61 C dX9_crime_56 (by decide) (fun h56 => ?_) (fun h56 => ?_)
                    · skip
                      refine z_aload_n (pc := 61) C dX9_crime_61 rfl ?_
                      refine z_getR (pc := 62) C zf_X9_10 rfl rfl (by decide) dX9_crime_62 ?_
                      refine z_getI (pc := 65) C zf_X9_50 rfl rfl (by decide) dX9_crime_65 ?_
                      refine z_bipush (pc := 68) (v := 24) C dX9_crime_68 (by decide) ?_
                      refine z_icmp_lt (pc := 70) 76 C dX9_crime_70 (by decide) (fun h70 => ?_) (fun h70 => absurd (by decide) h70)
                      refine z_aload_n (pc := 76) C dX9_crime_76 rfl ?_
                      refine z_getR (pc := 77) C zf_X9_10 rfl rfl (by decide) dX9_crime_77 ?_
                      refine z_getR (pc := 80) C zf_X9_54 rfl rfl (by decide) dX9_crime_80 ?_
                      refine z_aload_n (pc := 83) C dX9_crime_83 rfl ?_
                      refine z_getR (pc := 84) C zf_X9_10 rfl rfl (by decide) dX9_crime_84 ?_
                      refine z_getI (pc := 87) C zf_X9_50 rfl rfl (by decide) dX9_crime_87 ?_
                      refine z_aald (pc := 90) C rfl ⟨rfl, by decide⟩ (by decide) (by unfold vp_in; decide) dX9_crime_90 ?_
                      refine z_iload_n (pc := 91) C dX9_crime_91 rfl ?_
                      refine z_iload_n (pc := 92) C dX9_crime_92 rfl ?_
                      refine z_iload_n (pc := 93) C dX9_crime_93 rfl ?_
                      refine z_iload (pc := 94) C dX9_crime_94 rfl ?_
                      refine z_iload (pc := 96) C dX9_crime_96 rfl ?_
                      refine z_iload (pc := 98) C dX9_crime_98 rfl ?_
                      refine z_callVx (pc := 100) C zk_X9_58 (m_X0_tell _ _ _ (by decide) _ _ _ _ _ _ hb) rfl rfl (by decide) rfl rfl (Nat.le_of_ble_eq_true rfl) dX9_crime_100 ?_
                      simp only [Option.toList, List.cons_append, List.nil_append]
                      refine z_aload_n (pc := 103) C dX9_crime_103 rfl ?_
                      refine z_getR (pc := 104) C zf_X9_10 rfl rfl (by decide) dX9_crime_104 ?_
                      refine z_callVx (pc := 107) C zk_X9_64 (p_X8_takeCrime _ _ rfl) rfl rfl (by decide) rfl rfl (Nat.le_of_ble_eq_true rfl) dX9_crime_107 ?_
                      simp only [Option.toList, List.cons_append, List.nil_append]
                      exact z_iret (pc := 110) C hr dX9_crime_110 (⟨by congr 2; first | (rw [if_neg (by simp only [z32lt, z32le, z32eq, Int32.reduceToInt, Int32.toInt_zero, Int32.toInt_one] at *; omega)]; done) | (rw [if_pos (by simp only [z32lt, z32le, z32eq, Int32.reduceToInt, Int32.toInt_zero, Int32.toInt_one] at *; omega)] <;> simp [zup, z0, zfill]), by repeat (first | exact zk0 | refine zKeep.up ?_ (by decide) | refine zKeep.fill ?_ (by decide))⟩)
                    · skip
                      refine z_iconst (pc := 59) (v := -1) C dX9_crime_59 (by decide) ?_
                      exact z_iret (pc := 60) C hr dX9_crime_60 (⟨by congr 2; first | (rw [if_neg (by simp only [z32lt, z32le, z32eq, Int32.reduceToInt, Int32.toInt_zero, Int32.toInt_one] at *; omega)]; done) | (rw [if_pos (by simp only [z32lt, z32le, z32eq, Int32.reduceToInt, Int32.toInt_zero, Int32.toInt_one] at *; omega)] <;> simp [zup, z0, zfill]), by repeat (first | exact zk0 | refine zKeep.up ?_ (by decide) | refine zKeep.fill ?_ (by decide))⟩)
  · skip
    refine z_if_eq (pc := 4) 59 C dX9_crime_4 (by decide) (fun h4 => ?_) (fun h4 => absurd (by decide) h4)
    refine z_iconst (pc := 59) (v := -1) C dX9_crime_59 (by decide) ?_
    exact z_iret (pc := 60) C hr dX9_crime_60 (⟨by congr 2; first | (rw [if_neg (by simp only [z32lt, z32le, z32eq, Int32.reduceToInt, Int32.toInt_zero, Int32.toInt_one] at *; omega)]; done) | (rw [if_pos (by simp only [z32lt, z32le, z32eq, Int32.reduceToInt, Int32.toInt_zero, Int32.toInt_one] at *; omega)] <;> simp [zup, z0, zfill]), by repeat (first | exact zk0 | refine zKeep.up ?_ (by decide) | refine zKeep.fill ?_ (by decide))⟩)
