theorem zcm_s (T : Nat → Int32) (n : Nat) (no : Int32) (k p : Nat) (m : Int32) : zcm T n no (k + 1) p m = if 0 ≤ (zch T n (zsp T n p) - 97).toInt ∧ (zch T n (zsp T n p) - 97).toInt ≤ 5 then (if (1 <<< ((zch T n (zsp T n p) - 97) &&& 31) : Int32).toInt ≤ m.toInt ∨ ¬ (1 <<< ((zch T n (zsp T n p) - 97) &&& 31) : Int32) &&& no = 0 then .inl (zsp T n p) else zcm T n no k (zsp T n p + 1) (m ||| 1 <<< ((zch T n (zsp T n p) - 97) &&& 31))) else if m = 0 then .inl (zsp T n p) else .inr (m, zsp T n p) := rfl
theorem zcm_0 (T : Nat → Int32) (n : Nat) (no : Int32) (p : Nat) (m : Int32) : zcm T n no 0 p m = if m = 0 then .inl p else .inr (m, p) := rfl
theorem zcl_s (T : Nat → Int32) (n i : Nat) (ri : Int32) (k p : Nat) (b : Int32) : zcl T n i ri (k + 1) p b = if (zix i (zch T n (zsp T n p))).toInt < 0 then .inr (b, zsp T n p) else if ¬ b &&& (1 <<< (zix i (zch T n (zsp T n p)) &&& 31)) = 0 ∨ (¬ ri = 0 ∧ (1 <<< (zix i (zch T n (zsp T n p)) &&& 31) : Int32).toInt < b.toInt) then .inl (zsp T n p) else zcl T n i ri k (zsp T n p + 1) (b ||| 1 <<< (zix i (zch T n (zsp T n p)) &&& 31)) := rfl
theorem zcl_0 (T : Nat → Int32) (n i : Nat) (ri : Int32) (p : Nat) (b : Int32) : zcl T n i ri 0 p b = .inr (b, p) := rfl

set_option maxRecDepth 100000 in
set_option maxHeartbeats 4000000 in
theorem e_X7_readMarks (d : Nat) (f : zM) (a1 : Int32) (b1 : zB a1 0 63) (T : Nat → Int32) (n p : Nat) (hN : n ≤ 120) (h18 : f 18 0 3 = nI n) (hTp : ∀ i, i < n → f 19 0 i = T i) (hp : f 18 0 6 = nI p) (hb : p ≤ n) (ft : f 18 0 7 = -1) (hI : zInv f) : ZM (d + 1) yX7_readMarks cX7_readMarks 6 (some .int) [zr 18 0, zi a1] f (fun r g => (∃ v, r = some (zi v) ∧ zB v 0 63) ∧ zInv g ∧ zFr [(18, some 6), (18, some 7)] f g ∧ (∀ v : Int32, r = some (zi v) → (∃ e, zcm T n a1 6 p 0 = .inl e ∧ e ≤ n ∧ g 18 0 7 = nI e) ∨ (∃ q, zcm T n a1 6 p 0 = .inr (v, q) ∧ g 18 0 6 = nI q ∧ q ≤ n ∧ g 18 0 7 = -1))) := by
  refine ZM.intro (by decide +kernel) (Nat.le_of_ble_eq_true rfl) ?_
  intro X C hr hn
  have hF : zFr [(18, some 6), (18, some 7)] f f := zFr.rf _ _
  have ct18_0_6 : zB (f 18 0 6) 0 120 := hI 18 0 6
  have ct18_0_7 : zB (f 18 0 7) (-1) 120 := hI 18 0 7
  have J : ∀ t : Nat, (∀ a4_2 : Int32, zB a4_2 0 63 → ∀ a4_3 : Int32, zB a4_3 0 6 → ∀ g : zM, zInv g → zFr [(18, some 6), (18, some 7)] f g → zB (g 18 0 6) 0 120 → zB (g 18 0 7) (-1) 120 → (g 18 0 3 = nI n) → (∀ i, i < n → g 19 0 i = T i) → (g 18 0 7 = -1) → ((g 18 0 6).toInt.toNat ≤ n) → (zcm T n a1 6 p 0 = zcm T n a1 (6 - a4_3.toInt.toNat) ((g 18 0 6).toInt.toNat) a4_2) → (1 + 4 * (6 - a4_3.toInt) : Int) < t → Z X 4 [some (zr 18 0), some (zi a1), some (zi a4_2), some (zi a4_3), none, none] [] g) ∧ (∀ a85_2 : Int32, zB a85_2 0 63 → ∀ a85_3 : Int32, zB a85_3 0 6 → ∀ g : zM, zInv g → zFr [(18, some 6), (18, some 7)] f g → zB (g 18 0 6) 0 120 → zB (g 18 0 7) (-1) 120 → ((∃ e, zcm T n a1 6 p 0 = .inl e ∧ e ≤ n ∧ g 18 0 7 = nI e) ∨ (g 18 0 7 = -1 ∧ (g 18 0 6).toInt.toNat ≤ n ∧ zcm T n a1 6 p 0 = (if a85_2 = 0 then .inl ((g 18 0 6).toInt.toNat) else .inr (a85_2, (g 18 0 6).toInt.toNat)))) → (0 : Int) < t → Z X 85 [some (zr 18 0), some (zi a1), some (zi a85_2), some (zi a85_3), none, none] [] g) := by
    intro t
    induction t with
    | zero =>
      refine ⟨?_, ?_⟩ <;> (intros; exfalso; omega)
    | succ t ih =>
      obtain ⟨ih0, ih1⟩ := ih
      refine ⟨?_, ?_⟩
      · skip
        intro a4_2 b4_2 a4_3 b4_3 g4_ hI4_ hF4_ f4_18_0_6 f4_18_0_7 hR4_0 hR4_1 hR4_2 hR4_3 hR4_4 hM4_
        have hpl4 : g4_ 18 0 6 = nI ((g4_ 18 0 6).toInt.toNat) := (nI_ofI (hI4_ 18 0 6).1).1
        refine z_iload_n (pc := 4) C dX7_readMarks_4 rfl ?_
        refine z_bipush (pc := 5) (v := 6) C dX7_readMarks_5 (by decide) ?_
        refine z_icmp_ge (pc := 7) 85 C dX7_readMarks_7 (by decide) (fun h7_0 => ?_) (fun h7_0 => ?_)
        · skip
          have b2x : zB a4_3 6 6 := by have q1 := b4_3; have q2 := (zB.of (x := 6) 6 (by decide)); simp only [z32lt, z32le, z32eq, Int32.reduceToInt, Int32.toInt_zero] at h7_0; constructor <;> omega
          exact ih1 a4_2 b4_2 a4_3 (zB.wk (a' := 0) (b' := 6) b2x (by decide) (by decide)) g4_ hI4_ hF4_ f4_18_0_6 f4_18_0_7 (by
                                                                                          refine Or.inr ⟨hR4_2, hR4_3, ?_⟩
                                                                                          rw [hR4_4, show 6 - a4_3.toInt.toNat = 0 by omega, zcm_0]) (by omega)
        · skip
          have b3x : zB a4_3 0 5 := by have q1 := b4_3; have q2 := (zB.of (x := 6) 6 (by decide)); simp only [z32lt, z32le, z32eq, Int32.reduceToInt, Int32.toInt_zero] at h7_0; constructor <;> omega
          refine z_aload_n (pc := 10) C dX7_readMarks_10 rfl ?_
          refine z_callV (pc := 11) C zk_X7_52 (e_X7_next _ _ T n ((g4_ 18 0 6).toInt.toNat) hN hR4_0 hR4_1 hpl4 hR4_3 hI4_) rfl rfl (by decide) rfl rfl (Nat.le_of_ble_eq_true rfl) dX7_readMarks_11 (fun r4 g4 q4 => ?_)
          obtain ⟨⟨v4, rfl, b4x⟩, hI4, hF4q, hp4⟩ := q4
          have hp4 := hp4 _ rfl
          have hF4 := zFr.tr hF4_ hF4q (by decide)
          simp only [Option.toList, List.cons_append, List.nil_append]
          have cr4_18_0_6 : zB (g4 18 0 6) 0 120 := hI4 18 0 6
          have ek4_18_0_7 : (g4 18 0 7).toInt = (g4_ 18 0 7).toInt := by rw [hF4q 18 0 7 rfl]
          have c4_18_0_7x : zB (g4 18 0 7) (-1) 120 := by first | exact zB.eqv ek4_18_0_7 f4_18_0_7 | (have q9 := f4_18_0_7; constructor <;> omega)
          obtain ⟨hv4, hq4, hj4⟩ := hp4
          have h184 : g4 18 0 3 = nI n := (hF4q 18 0 3 rfl).trans hR4_0
          have hTp4 : ∀ i, i < n → g4 19 0 i = T i := fun i hi => (hF4q 19 0 i rfl).trans (hR4_1 i hi)
          have ft4 : g4 18 0 7 = -1 := (hF4q 18 0 7 rfl).trans hR4_2
          have hb4 : zsp T n ((g4_ 18 0 6).toInt.toNat) ≤ n := zsp_len hR4_3
          refine z_bipush (pc := 14) (v := 97) C dX7_readMarks_14 (by decide) ?_
          refine z_isub (pc := 16) C dX7_readMarks_16 ?_
          refine w_gp (fun v => v = v4 - (97 : Int32)) rfl (fun v5 q5 => ?_)
          have e5 : v5.toInt = v4.toInt - 97 := by rw [q5]; exact (zsub_eb b4x (zB.of (x := 97) 97 (by decide)) (by decide) (by decide))
          have b5x : zB v5 (-98) 158 := by have q1 := b4x; have q2 := (zB.of (x := 97) 97 (by decide)); constructor <;> omega
          refine z_istore (pc := 17) C dX7_readMarks_17 (by rw [hn]; decide) rfl ?_
          refine z_iload (pc := 19) C dX7_readMarks_19 rfl ?_
          refine z_if_lt (pc := 21) 85 C dX7_readMarks_21 (by decide) (fun h21_5 => ?_) (fun h21_5 => ?_)
          · skip
            have b7x : zB v5 (-98) (-1) := by have q1 := b5x; have q2 := (zB.of (x := 0) 0 (by decide)); simp only [z32lt, z32le, z32eq, Int32.reduceToInt, Int32.toInt_zero] at h21_5; constructor <;> omega
            have b8x : zB v4 (-1) 96 := by first | assumption | (constructor <;> omega)
            refine w_mask [4] ?_
            exact ih1 a4_2 b4_2 a4_3 (zB.wk (a' := 0) (b' := 6) b3x (by decide) (by decide)) g4 hI4 hF4 cr4_18_0_6 c4_18_0_7x (by
                                                                                          have hm : v5 = zch T n (zsp T n ((g4_ 18 0 6).toInt.toNat)) - 97 := by rw [q5, hv4]
                                                                                          have hk : 6 - a4_3.toInt.toNat = (5 - a4_3.toInt.toNat) + 1 := by omega
                                                                                          have ez : (g4 18 0 6).toInt.toNat = zsp T n ((g4_ 18 0 6).toInt.toNat) := by rw [hq4]; exact nI_tt (by have := hb4; omega)
                                                                                          refine Or.inr ⟨ft4, by rw [ez]; exact hb4, ?_⟩
                                                                                          rw [hR4_4, hk, zcm_s, ← hm, if_neg (by omega), ez]) (by omega)
          · skip
            have b9x : zB v5 0 158 := by have q1 := b5x; have q2 := (zB.of (x := 0) 0 (by decide)); simp only [z32lt, z32le, z32eq, Int32.reduceToInt, Int32.toInt_zero] at h21_5; constructor <;> omega
            have b10x : zB v4 97 255 := by first | assumption | (constructor <;> omega)
            have c11x : zB (g4 18 0 6) 0 119 := by first | assumption | (constructor <;> omega)
            refine z_iload (pc := 24) C dX7_readMarks_24 rfl ?_
            refine z_bipush (pc := 26) (v := 6) C dX7_readMarks_26 (by decide) ?_
            refine z_icmp_lt (pc := 28) 34 C dX7_readMarks_28 (by decide) (fun h28_11 => ?_) (fun h28_11 => ?_)
            · skip
              have b13x : zB v5 0 5 := by have q1 := b9x; have q2 := (zB.of (x := 6) 6 (by decide)); simp only [z32lt, z32le, z32eq, Int32.reduceToInt, Int32.toInt_zero] at h28_11; constructor <;> omega
              have b14x : zB v4 97 102 := by first | assumption | (constructor <;> omega)
              have c15x : zB (g4 18 0 6) 0 119 := by first | assumption | (constructor <;> omega)
              refine z_iconst (pc := 34) (v := 1) C dX7_readMarks_34 (by decide) ?_
              refine z_iload (pc := 35) C dX7_readMarks_35 rfl ?_
              refine z_ishl (pc := 37) C dX7_readMarks_37 ?_
              refine w_gp (fun v => v = (1 : Int32) <<< (v5 &&& 31)) rfl (fun v16 q16 => ?_)
              have b16x : zB v16 0 32 := by rw [q16]; exact (zshl_b b13x 5 (by decide) (by decide))
              refine z_istore (pc := 38) C dX7_readMarks_38 (by rw [hn]; decide) rfl ?_
              refine z_iload (pc := 40) C dX7_readMarks_40 rfl ?_
              refine z_iload_n (pc := 42) C dX7_readMarks_42 rfl ?_
              refine z_icmp_le (pc := 43) 53 C dX7_readMarks_43 (by decide) (fun h43_16 => ?_) (fun h43_16 => ?_)
              · skip
                have rr18 : v16.toInt ≤ a4_2.toInt := by simp only [z32lt, z32le, z32eq] at h43_16; omega
                refine z_aload_n (pc := 53) C dX7_readMarks_53 rfl ?_
                refine z_aload_n (pc := 54) C dX7_readMarks_54 rfl ?_
                refine z_getI (pc := 55) C zf_X7_33 rfl rfl (by decide) dX7_readMarks_55 ?_
                refine w_gp (fun v => v = g4 18 0 6) rfl (fun v19 q19 => ?_)
                have e19 : v19.toInt = (g4 18 0 6).toInt := by rw [q19]
                have b19x : zB v19 0 119 := by first | exact zB.eqv e19 c15x | (have q9 := c15x; constructor <;> omega)
                refine z_callV (pc := 58) C zk_X7_56 (x_X7_fail _ _ v19 (zB.wk (a' := 0) (b' := 120) b19x (by decide) (by decide)) hI4) rfl rfl (by decide) rfl rfl (Nat.le_of_ble_eq_true rfl) dX7_readMarks_58 (fun r20 g20 q20 => ?_)
                obtain ⟨rfl, hI20, hF20q, hp20_0, hp20_1, hp20_2⟩ := q20
                have hF20 := zFr.tr hF4 hF20q (by decide)
                simp only [Option.toList, List.cons_append, List.nil_append]
                have ek20_18_0_6 : (g20 18 0 6).toInt = (g4 18 0 6).toInt := by rw [hF20q 18 0 6 rfl]
                have c20_18_0_6x : zB (g20 18 0 6) 0 119 := by first | exact zB.eqv ek20_18_0_6 c15x | (have q9 := c15x; constructor <;> omega)
                have cr20_18_0_7 : zB (g20 18 0 7) (-1) 120 := hI20 18 0 7
                refine z_goto (pc := 61) 85 C dX7_readMarks_61 (by decide) ?_
                refine w_mask [4, 5] ?_
                exact ih1 a4_2 b4_2 a4_3 (zB.wk (a' := 0) (b' := 6) b3x (by decide) (by decide)) g20 hI20 hF20 (zB.wk c20_18_0_6x (by decide) (by decide)) cr20_18_0_7 (by
                                                                                          have hm : v5 = zch T n (zsp T n ((g4_ 18 0 6).toInt.toNat)) - 97 := by rw [q5, hv4]
                                                                                          have hk : 6 - a4_3.toInt.toNat = (5 - a4_3.toInt.toNat) + 1 := by omega
                                                                                          have hbit : v16 = 1 <<< (v5 &&& 31) := q16
                                                                                          refine Or.inl ⟨zsp T n ((g4_ 18 0 6).toInt.toNat), ?_, hb4, ?_⟩
                                                                                          · rw [hR4_4, hk, zcm_s, ← hm, if_pos (by omega), ← hbit, if_pos]
                                                                                            first
                                                                                              | (refine Or.inl ?_; omega)
                                                                                          · rw [hp20_2 (by rw [ft4]; decide), q19]; exact hq4) (by omega)
              · skip
                have rr21 : v16.toInt > a4_2.toInt := by simp only [z32lt, z32le, z32eq] at h43_16; omega
                have b22x : zB v16 1 32 := by have q1 := b16x; have q2 := b4_2; simp only [z32lt, z32le, z32eq, Int32.reduceToInt, Int32.toInt_zero] at h43_16; constructor <;> omega
                have b23x : zB a4_2 0 31 := by have q1 := b16x; have q2 := b4_2; simp only [z32lt, z32le, z32eq, Int32.reduceToInt, Int32.toInt_zero] at h43_16; constructor <;> omega
                refine z_iload (pc := 46) C dX7_readMarks_46 rfl ?_
                refine z_iload_n (pc := 48) C dX7_readMarks_48 rfl ?_
                refine z_iand (pc := 49) C dX7_readMarks_49 ?_
                refine w_gp (fun v => v = v16 &&& a1) rfl (fun v24 q24 => ?_)
                have b24x : zB v24 0 32 := by rw [q24]; exact (zand_bl b22x b1 (by decide))
                refine z_if_eq (pc := 50) 64 C dX7_readMarks_50 (by decide) (fun h50_24 => ?_) (fun h50_24 => ?_)
                · skip
                  have b26x : zB v24 0 0 := by have q1 := b24x; have q2 := (zB.of (x := 0) 0 (by decide)); simp only [z32lt, z32le, z32eq, Int32.reduceToInt, Int32.toInt_zero] at h50_24; constructor <;> omega
                  refine z_iload_n (pc := 64) C dX7_readMarks_64 rfl ?_
                  refine z_iload (pc := 65) C dX7_readMarks_65 rfl ?_
                  refine z_ior (pc := 67) C dX7_readMarks_67 ?_
                  refine w_gp (fun v => v = a4_2 ||| v16) rfl (fun v27 q27 => ?_)
                  have b27x : zB v27 0 63 := by rw [q27]; exact (zor_b 6 b23x b22x (by decide) (by decide) (by decide) (by decide) (by decide))
                  refine z_istore_n (pc := 68) C dX7_readMarks_68 (by rw [hn]; decide) rfl ?_
                  refine z_aload_n (pc := 69) C dX7_readMarks_69 rfl ?_
                  refine z_dupr (pc := 70) C dX7_readMarks_70 ?_
                  refine z_getI (pc := 71) C zf_X7_33 rfl rfl (by decide) dX7_readMarks_71 ?_
                  refine w_gp (fun v => v = g4 18 0 6) rfl (fun v28 q28 => ?_)
                  have e28 : v28.toInt = (g4 18 0 6).toInt := by rw [q28]
                  have b28x : zB v28 0 119 := by first | exact zB.eqv e28 c15x | (have q9 := c15x; constructor <;> omega)
                  refine z_iconst (pc := 74) (v := 1) C dX7_readMarks_74 (by decide) ?_
                  refine z_iadd (pc := 75) C dX7_readMarks_75 ?_
                  refine w_gp (fun v => v = v28 + (1 : Int32)) rfl (fun v29 q29 => ?_)
                  have e29 : v29.toInt = v28.toInt + 1 := by rw [q29]; exact (zadd_eb b28x (zB.of (x := 1) 1 (by decide)) (by decide) (by decide))
                  have b29x : zB v29 1 120 := by have q1 := b28x; have q2 := (zB.of (x := 1) 1 (by decide)); constructor <;> omega
                  refine z_putI (pc := 76) C zf_X7_33 zp_7_6 rfl rfl (by decide) dX7_readMarks_76 ?_
                  refine w_memx hI4 hF4 (zB.wk (a' := 0) (b' := 120) b29x (by decide) (by decide)) rfl (fun g30 qm30 hI30 hF30 hq30 hx30 => ?_)
                  have ec30 : (g30 18 0 6).toInt = v29.toInt := by rw [hx30]
                  have c30x : zB (g30 18 0 6) 1 120 := by first | exact zB.eqv ec30 b29x | (have q9 := b29x; constructor <;> omega)
                  have ek30_18_0_7 : (g30 18 0 7).toInt = (g4 18 0 7).toInt := by rw [hq30 18 0 7 (by omega)]
                  have c30_18_0_7x : zB (g30 18 0 7) (-1) 120 := by first | exact zB.eqv ek30_18_0_7 c4_18_0_7x | (have q9 := c4_18_0_7x; constructor <;> omega)
                  refine z_iinc (pc := 79) (v := 1) C dX7_readMarks_79 rfl (by decide) (by rw [hn]; decide) rfl ?_
                  obtain ⟨v31, hv31, e31⟩ : ∃ v : Int32, v = a4_3 + 1 ∧ v.toInt = a4_3.toInt + 1 := ⟨_, rfl, zadd_eb b3x (zB.of (x := 1) 1 (by decide)) (by decide) (by decide)⟩
                  rw [← hv31]
                  have b31x : zB v31 1 6 := by have q9 := b3x; constructor <;> omega
                  refine z_goto (pc := 82) 4 C dX7_readMarks_82 (by decide) ?_
                  refine w_mask [4, 5] ?_
                  exact ih0 v27 b27x v31 (zB.wk (a' := 0) (b' := 6) b31x (by decide) (by decide)) g30 hI30 hF30 (zB.wk c30x (by decide) (by decide)) c30_18_0_7x (by subst qm30; exact (zup_ne _ _ (by omega)).trans h184) (by intro i hi; subst qm30; exact (zup_ne _ _ (by omega)).trans (hTp4 i hi)) (by subst qm30; exact (zup_ne _ _ (by omega)).trans ft4) (by
                                                                                          have hm : v5 = zch T n (zsp T n ((g4_ 18 0 6).toInt.toNat)) - 97 := by rw [q5, hv4]
                                                                                          have hk : 6 - a4_3.toInt.toNat = (5 - a4_3.toInt.toNat) + 1 := by omega
                                                                                          have ez : (g4 18 0 6).toInt = ((zsp T n ((g4_ 18 0 6).toInt.toNat) : Nat) : Int) := by rw [hq4]; exact nI_toInt (by have := hb4; omega)
                                                                                          have hlt : zsp T n ((g4_ 18 0 6).toInt.toNat) < n := zch_lt (fun h => by
                                                                                            rw [← hv4, z32eq] at h
                                                                                            have c1 : (-1 : Int32).toInt = -1 := by decide
                                                                                            omega)
                                                                                          omega) (by
                                                                                          have hm : v5 = zch T n (zsp T n ((g4_ 18 0 6).toInt.toNat)) - 97 := by rw [q5, hv4]
                                                                                          have hk : 6 - a4_3.toInt.toNat = (5 - a4_3.toInt.toNat) + 1 := by omega
                                                                                          have hbit : v16 = 1 <<< (v5 &&& 31) := q16
                                                                                          have c49 : v16 &&& a1 = 0 := by rw [← q24]; assumption
                                                                                          have ez : (g4 18 0 6).toInt = ((zsp T n ((g4_ 18 0 6).toInt.toNat) : Nat) : Int) := by rw [hq4]; exact nI_toInt (by have := hb4; omega)
                                                                                          have eP : (g30 18 0 6).toInt.toNat = zsp T n ((g4_ 18 0 6).toInt.toNat) + 1 := by omega
                                                                                          rw [hR4_4, hk, zcm_s, ← hm, if_pos (by omega), ← hbit, if_neg (fun hh => hh.elim (fun h1 => by omega) (fun h1 => h1 c49)), show 6 - (v31).toInt.toNat = 5 - a4_3.toInt.toNat by omega, eP, q27]) (by omega)
                · skip
                  have b32x : zB v24 1 32 := by have q1 := b24x; have q2 := (zB.of (x := 0) 0 (by decide)); simp only [z32lt, z32le, z32eq, Int32.reduceToInt, Int32.toInt_zero] at h50_24; constructor <;> omega
                  refine z_aload_n (pc := 53) C dX7_readMarks_53 rfl ?_
                  refine z_aload_n (pc := 54) C dX7_readMarks_54 rfl ?_
                  refine z_getI (pc := 55) C zf_X7_33 rfl rfl (by decide) dX7_readMarks_55 ?_
                  refine w_gp (fun v => v = g4 18 0 6) rfl (fun v33 q33 => ?_)
                  have e33 : v33.toInt = (g4 18 0 6).toInt := by rw [q33]
                  have b33x : zB v33 0 119 := by first | exact zB.eqv e33 c15x | (have q9 := c15x; constructor <;> omega)
                  refine z_callV (pc := 58) C zk_X7_56 (x_X7_fail _ _ v33 (zB.wk (a' := 0) (b' := 120) b33x (by decide) (by decide)) hI4) rfl rfl (by decide) rfl rfl (Nat.le_of_ble_eq_true rfl) dX7_readMarks_58 (fun r34 g34 q34 => ?_)
                  obtain ⟨rfl, hI34, hF34q, hp34_0, hp34_1, hp34_2⟩ := q34
                  have hF34 := zFr.tr hF4 hF34q (by decide)
                  simp only [Option.toList, List.cons_append, List.nil_append]
                  have ek34_18_0_6 : (g34 18 0 6).toInt = (g4 18 0 6).toInt := by rw [hF34q 18 0 6 rfl]
                  have c34_18_0_6x : zB (g34 18 0 6) 0 119 := by first | exact zB.eqv ek34_18_0_6 c15x | (have q9 := c15x; constructor <;> omega)
                  have cr34_18_0_7 : zB (g34 18 0 7) (-1) 120 := hI34 18 0 7
                  refine z_goto (pc := 61) 85 C dX7_readMarks_61 (by decide) ?_
                  refine w_mask [4, 5] ?_
                  exact ih1 a4_2 (zB.wk (a' := 0) (b' := 63) b23x (by decide) (by decide)) a4_3 (zB.wk (a' := 0) (b' := 6) b3x (by decide) (by decide)) g34 hI34 hF34 (zB.wk c34_18_0_6x (by decide) (by decide)) cr34_18_0_7 (by
                                                                                          have hm : v5 = zch T n (zsp T n ((g4_ 18 0 6).toInt.toNat)) - 97 := by rw [q5, hv4]
                                                                                          have hk : 6 - a4_3.toInt.toNat = (5 - a4_3.toInt.toNat) + 1 := by omega
                                                                                          have hbit : v16 = 1 <<< (v5 &&& 31) := q16
                                                                                          refine Or.inl ⟨zsp T n ((g4_ 18 0 6).toInt.toNat), ?_, hb4, ?_⟩
                                                                                          · rw [hR4_4, hk, zcm_s, ← hm, if_pos (by omega), ← hbit, if_pos]
                                                                                            first
                                                                                              | (refine Or.inl ?_; omega)
                                                                                              | (refine Or.inr ?_; rw [← q24]; assumption)
                                                                                          · rw [hp34_2 (by rw [ft4]; decide), q33]; exact hq4) (by omega)
            · skip
              have b35x : zB v5 6 158 := by have q1 := b9x; have q2 := (zB.of (x := 6) 6 (by decide)); simp only [z32lt, z32le, z32eq, Int32.reduceToInt, Int32.toInt_zero] at h28_11; constructor <;> omega
              have b36x : zB v4 103 255 := by first | assumption | (constructor <;> omega)
              have c37x : zB (g4 18 0 6) 0 119 := by first | assumption | (constructor <;> omega)
              refine z_goto (pc := 31) 85 C dX7_readMarks_31 (by decide) ?_
              refine w_mask [4] ?_
              exact ih1 a4_2 b4_2 a4_3 (zB.wk (a' := 0) (b' := 6) b3x (by decide) (by decide)) g4 hI4 hF4 (zB.wk c37x (by decide) (by decide)) c4_18_0_7x (by
                                                                                          have hm : v5 = zch T n (zsp T n ((g4_ 18 0 6).toInt.toNat)) - 97 := by rw [q5, hv4]
                                                                                          have hk : 6 - a4_3.toInt.toNat = (5 - a4_3.toInt.toNat) + 1 := by omega
                                                                                          have ez : (g4 18 0 6).toInt.toNat = zsp T n ((g4_ 18 0 6).toInt.toNat) := by rw [hq4]; exact nI_tt (by have := hb4; omega)
                                                                                          refine Or.inr ⟨ft4, by rw [ez]; exact hb4, ?_⟩
                                                                                          rw [hR4_4, hk, zcm_s, ← hm, if_neg (by omega), ez]) (by omega)
      · skip
        intro a85_2 b85_2 a85_3 b85_3 g85_ hI85_ hF85_ f85_18_0_6 f85_18_0_7 hR85_0 hM85_
        refine z_iload_n (pc := 85) C dX7_readMarks_85 rfl ?_
        refine z_if_ne (pc := 86) 97 C dX7_readMarks_86 (by decide) (fun h86_37 => ?_) (fun h86_37 => ?_)
        · skip
          have b39x : zB a85_2 1 63 := by have q1 := b85_2; have q2 := (zB.of (x := 0) 0 (by decide)); simp only [z32lt, z32le, z32eq, Int32.reduceToInt, Int32.toInt_zero] at h86_37; constructor <;> omega
          refine z_iload_n (pc := 97) C dX7_readMarks_97 rfl ?_
          exact z_iret (pc := 98) C hr dX7_readMarks_98 ⟨⟨_, rfl, (zB.wk (a' := 0) (b' := 63) b39x (by decide) (by decide))⟩, hI85_, hF85_, (by
                                                                                          intro v hv; cases hv
                                                                                          rcases hR85_0 with ⟨e, h1, h2, h3⟩ | ⟨h1, h2, h3⟩
                                                                                          · exact Or.inl ⟨e, h1, h2, h3⟩
                                                                                          · rw [if_neg (by assumption)] at h3
                                                                                            exact Or.inr ⟨_, h3, (nI_ofI (hI85_ 18 0 6).1).1, h2, h1⟩)⟩
        · skip
          have b40x : zB a85_2 0 0 := by have q1 := b85_2; have q2 := (zB.of (x := 0) 0 (by decide)); simp only [z32lt, z32le, z32eq, Int32.reduceToInt, Int32.toInt_zero] at h86_37; constructor <;> omega
          refine z_aload_n (pc := 89) C dX7_readMarks_89 rfl ?_
          refine z_aload_n (pc := 90) C dX7_readMarks_90 rfl ?_
          refine z_getI (pc := 91) C zf_X7_33 rfl rfl (by decide) dX7_readMarks_91 ?_
          refine w_gp (fun v => v = g85_ 18 0 6) rfl (fun v41 q41 => ?_)
          have e41 : v41.toInt = (g85_ 18 0 6).toInt := by rw [q41]
          have b41x : zB v41 0 120 := by first | exact zB.eqv e41 f85_18_0_6 | (have q9 := f85_18_0_6; constructor <;> omega)
          refine z_callV (pc := 94) C zk_X7_56 (x_X7_fail _ _ v41 b41x hI85_) rfl rfl (by decide) rfl rfl (Nat.le_of_ble_eq_true rfl) dX7_readMarks_94 (fun r42 g42 q42 => ?_)
          obtain ⟨rfl, hI42, hF42q, hp42_0, hp42_1, hp42_2⟩ := q42
          have hF42 := zFr.tr hF85_ hF42q (by decide)
          simp only [Option.toList, List.cons_append, List.nil_append]
          have ek42_18_0_6 : (g42 18 0 6).toInt = (g85_ 18 0 6).toInt := by rw [hF42q 18 0 6 rfl]
          have c42_18_0_6x : zB (g42 18 0 6) 0 120 := by first | exact zB.eqv ek42_18_0_6 f85_18_0_6 | (have q9 := f85_18_0_6; constructor <;> omega)
          have cr42_18_0_7 : zB (g42 18 0 7) (-1) 120 := hI42 18 0 7
          refine z_iload_n (pc := 97) C dX7_readMarks_97 rfl ?_
          exact z_iret (pc := 98) C hr dX7_readMarks_98 ⟨⟨_, rfl, (zB.wk (a' := 0) (b' := 63) b40x (by decide) (by decide))⟩, hI42, hF42, (by
                                                                                          intro v hv; cases hv
                                                                                          rcases hR85_0 with ⟨e, h1, h2, h3⟩ | ⟨h1, h2, h3⟩
                                                                                          · refine Or.inl ⟨e, h1, h2, ?_⟩
                                                                                            have e3 : (g85_ 18 0 7).toInt = (e : Int) := by rw [h3]; exact nI_toInt (by omega)
                                                                                            have e4 := hp42_1
                                                                                            rw [z32eq, nI_toInt (by omega)]
                                                                                            omega
                                                                                          · rw [if_pos (by assumption)] at h3
                                                                                            refine Or.inl ⟨_, h3, h2, ?_⟩
                                                                                            rw [hp42_2 (by rw [h1]; decide), q41]
                                                                                            exact (nI_ofI (hI85_ 18 0 6).1).1)⟩
  obtain ⟨J0, J1⟩ := J 41
  show Z X 0 [some (zr 18 0), some (zi a1), none, none, none, none] [] f
  refine z_iconst (pc := 0) (v := 0) C dX7_readMarks_0 (by decide) ?_
  refine z_istore_n (pc := 1) C dX7_readMarks_1 (by rw [hn]; decide) rfl ?_
  refine z_iconst (pc := 2) (v := 0) C dX7_readMarks_2 (by decide) ?_
  refine z_istore_n (pc := 3) C dX7_readMarks_3 (by rw [hn]; decide) rfl ?_
  exact J0 0 (zB.wk (a' := 0) (b' := 63) (zB.of (x := 0) 0 (by decide)) (by decide) (by decide)) 0 (zB.wk (a' := 0) (b' := 6) (zB.of (x := 0) 0 (by decide)) (by decide) (by decide)) f hI hF ct18_0_6 ct18_0_7 (by exact h18) (by exact hTp) (by exact ft) (by rw [hp, nI_tt (by omega)]; exact hb) (by rw [hp, nI_tt (by omega)]; rfl) (by have qc0 : (0 : Int32).toInt = 0 := (by decide); omega)
