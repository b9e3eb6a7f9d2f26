set_option maxRecDepth 100000 in
set_option maxHeartbeats 4000000 in
theorem e_X7_readLetters_0 (d : Nat) (f : zM) (a2 : Int32) (b2 : zB a2 0 0) (T : Nat → Int32) (n p : Nat) (hN : n ≤ 120) (h18 : f 18 0 3 = nI n) (hTp : ∀ i, i < n → f 19 0 i = T i) (hp : f 18 0 6 = nI p) (hb : p ≤ n) (ft : f 18 0 7 = -1) (hI : zInv f) : ZMs (d + 4) yX7_readLetters cX7_readLetters 8 (some .int) [zr 18 0, zr 44 1, zi a2] f (fun r g => (∃ v, r = some (zi v) ∧ zB v 0 31) ∧ zInv g ∧ zFr [(18, some 6), (18, some 7)] f g ∧ (∀ v : Int32, r = some (zi v) → (∃ e, zcl T n 0 0 5 p 0 = .inl e ∧ e ≤ n ∧ g 18 0 7 = nI e) ∨ (∃ q, zcl T n 0 0 5 p 0 = .inr (v, q) ∧ g 18 0 6 = nI q ∧ q ≤ n ∧ g 18 0 7 = -1))) := by
  refine ZMs.intro (by decide +kernel) (Nat.le_of_ble_eq_true rfl) ?_
  intro X C hr hn hT
  have hF : zFr [(18, some 6), (18, some 7)] f f := zFr.rf _ _
  have ct18_0_6 : zB (f 18 0 6) 0 120 := hI 18 0 6
  have ct18_0_7 : zB (f 18 0 7) (-1) 120 := hI 18 0 7
  have J : ∀ t : Nat, (∀ a5_3 : Int32, zB a5_3 0 31 → ∀ a5_4 : Int32, zB a5_4 0 5 → ∀ g : zM, zInv g → zFr [(18, some 6), (18, some 7)] f g → zB (g 18 0 6) 0 120 → zB (g 18 0 7) (-1) 120 → (g 18 0 3 = nI n) → (∀ i, i < n → g 19 0 i = T i) → (g 18 0 7 = -1) → ((g 18 0 6).toInt.toNat ≤ n) → (zcl T n 0 0 5 p 0 = zcl T n 0 0 (5 - a5_4.toInt.toNat) ((g 18 0 6).toInt.toNat) a5_3) → (1 + 4 * (5 - a5_4.toInt) : Int) < t → Z X 5 [some (zr 18 0), some (zr 44 1), some (zi a2), some (zi a5_3), some (zi a5_4), none, none, none] [] g) ∧ (∀ a102_3 : Int32, zB a102_3 0 31 → ∀ a102_4 : Int32, zB a102_4 0 5 → ∀ g : zM, zInv g → zFr [(18, some 6), (18, some 7)] f g → zB (g 18 0 6) 0 120 → zB (g 18 0 7) (-1) 120 → ((∃ e, zcl T n 0 0 5 p 0 = .inl e ∧ e ≤ n ∧ g 18 0 7 = nI e) ∨ (g 18 0 7 = -1 ∧ (g 18 0 6).toInt.toNat ≤ n ∧ zcl T n 0 0 5 p 0 = .inr (a102_3, (g 18 0 6).toInt.toNat))) → (0 : Int) < t → Z X 102 [some (zr 18 0), some (zr 44 1), some (zi a2), some (zi a102_3), some (zi a102_4), none, none, none] [] g) := by
    intro t
    induction t with
    | zero =>
      refine ⟨?_, ?_⟩ <;> (intros; exfalso; omega)
    | succ t ih =>
      obtain ⟨ih0, ih1⟩ := ih
      refine ⟨?_, ?_⟩
      · skip
        intro a5_3 b5_3 a5_4 b5_4 g5_ hI5_ hF5_ f5_18_0_6 f5_18_0_7 hR5_0 hR5_1 hR5_2 hR5_3 hR5_4 hM5_
        have hpl5 : g5_ 18 0 6 = nI ((g5_ 18 0 6).toInt.toNat) := (nI_ofI (hI5_ 18 0 6).1).1
        refine z_iload (pc := 5) C dX7_readLetters_5 rfl ?_
        refine z_aload_n (pc := 7) C dX7_readLetters_7 rfl ?_
        refine z_callT (pc := 8) C hT zk_X7_117 (t_J0_length_8abf5 _ _ 0 (by decide)) (by decide) rfl rfl rfl (Nat.le_of_ble_eq_true rfl) dX7_readLetters_8 (fun r8 g8 q8 => ?_)
        obtain ⟨rfl, hm8⟩ := q8
        obtain rfl := hm8.symm
        simp only [Option.toList, List.cons_append, List.nil_append]
        refine w_gp (fun v => v = (5 : Int32)) (by decide) (fun v1 q1 => ?_)
        have b1x : zB v1 5 5 := by rw [q1]; exact (zB.of (x := 5) 5 (by decide))
        refine z_icmp_ge (pc := 11) 102 C dX7_readLetters_11 (by decide) (fun h11_1 => ?_) (fun h11_1 => ?_)
        · skip
          have rr3 : a5_4.toInt ≥ v1.toInt := by simp only [z32lt, z32le, z32eq] at h11_1; omega
          have b4x : zB a5_4 5 5 := by have q1 := b5_4; have q2 := b1x; simp only [z32lt, z32le, z32eq, Int32.reduceToInt, Int32.toInt_zero] at h11_1; constructor <;> omega
          exact ih1 a5_3 b5_3 a5_4 (zB.wk (a' := 0) (b' := 5) b4x (by decide) (by decide)) g5_ hI5_ hF5_ f5_18_0_6 f5_18_0_7 (by
                                                                                          refine Or.inr ⟨hR5_2, hR5_3, ?_⟩
                                                                                          rw [hR5_4, show 5 - a5_4.toInt.toNat = 0 by omega, zcl_0]) (by omega)
        · skip
          have rr5 : a5_4.toInt < v1.toInt := by simp only [z32lt, z32le, z32eq] at h11_1; omega
          have b6x : zB a5_4 0 4 := by have q1 := b5_4; have q2 := b1x; simp only [z32lt, z32le, z32eq, Int32.reduceToInt, Int32.toInt_zero] at h11_1; constructor <;> omega
          refine z_aload_n (pc := 14) C dX7_readLetters_14 rfl ?_
          refine z_callV (pc := 15) C zk_X7_52 (e_X7_next _ _ T n ((g5_ 18 0 6).toInt.toNat) hN hR5_0 hR5_1 hpl5 hR5_3 hI5_) rfl rfl (by decide) rfl rfl (Nat.le_of_ble_eq_true rfl) dX7_readLetters_15 (fun r7 g7 q7 => ?_)
          obtain ⟨⟨v7, rfl, b7x⟩, hI7, hF7q, hp7⟩ := q7
          have hp7 := hp7 _ rfl
          have hF7 := zFr.tr hF5_ hF7q (by decide)
          simp only [Option.toList, List.cons_append, List.nil_append]
          have cr7_18_0_6 : zB (g7 18 0 6) 0 120 := hI7 18 0 6
          have ek7_18_0_7 : (g7 18 0 7).toInt = (g5_ 18 0 7).toInt := by rw [hF7q 18 0 7 rfl]
          have c7_18_0_7x : zB (g7 18 0 7) (-1) 120 := by first | exact zB.eqv ek7_18_0_7 f5_18_0_7 | (have q9 := f5_18_0_7; constructor <;> omega)
          obtain ⟨hv7, hq7, hj7⟩ := hp7
          have h187 : g7 18 0 3 = nI n := (hF7q 18 0 3 rfl).trans hR5_0
          have hTp7 : ∀ i, i < n → g7 19 0 i = T i := fun i hi => (hF7q 19 0 i rfl).trans (hR5_1 i hi)
          have ft7 : g7 18 0 7 = -1 := (hF7q 18 0 7 rfl).trans hR5_2
          have hb7 : zsp T n ((g5_ 18 0 6).toInt.toNat) ≤ n := zsp_len hR5_3
          refine z_istore (pc := 18) C dX7_readLetters_18 (by rw [hn]; decide) rfl ?_
          refine z_iload (pc := 20) C dX7_readLetters_20 rfl ?_
          refine z_iconst (pc := 22) (v := -1) C dX7_readLetters_22 (by decide) ?_
          refine z_icmp_ne (pc := 23) 30 C dX7_readLetters_23 (by decide) (fun h23_7 => ?_) (fun h23_7 => ?_)
          · skip
            have b9x : zB v7 0 255 := by have q1 := b7x; have q2 := (zB.of (x := (-1)) (-1) (by decide)); simp only [z32lt, z32le, z32eq, Int32.reduceToInt, Int32.toInt_zero] at h23_7; constructor <;> omega
            have c10x : zB (g7 18 0 6) 0 119 := by first | assumption | (constructor <;> omega)
            refine z_aload_n (pc := 30) C dX7_readLetters_30 rfl ?_
            refine z_iload (pc := 31) C dX7_readLetters_31 rfl ?_
            refine z_i2c (pc := 33) C dX7_readLetters_33 ?_
            refine w_gp (fun v => v = v7) (zu16 b9x (by decide) (by decide)) (fun v11 q11 => ?_)
            have b11x : zB v11 0 255 := by rw [q11]; exact b9x
            refine z_callT (pc := 34) C hT zk_X7_121 (tx_J0_indexOf_0f7a4 _ _ 0 (by decide) v11 b11x) (by decide) rfl rfl rfl (Nat.le_of_ble_eq_true rfl) dX7_readLetters_34 (fun r34 g34 q34 => ?_)
            obtain ⟨rfl, hm34⟩ := q34
            obtain rfl := hm34.symm
            simp only [Option.toList, List.cons_append, List.nil_append]
            refine w_gp (fun v => v = zix 0 v11) rfl (fun v12 q12 => ?_)
            have b12x : zB v12 (-1) 4 := by rw [q12]; exact (zix_b 0 _)
            refine z_istore (pc := 37) C dX7_readLetters_37 (by rw [hn]; decide) rfl ?_
            refine z_iload (pc := 39) C dX7_readLetters_39 rfl ?_
            refine z_if_ge (pc := 41) 47 C dX7_readLetters_41 (by decide) (fun h41_12 => ?_) (fun h41_12 => ?_)
            · skip
              have b14x : zB v12 0 4 := by have q1 := b12x; have q2 := (zB.of (x := 0) 0 (by decide)); simp only [z32lt, z32le, z32eq, Int32.reduceToInt, Int32.toInt_zero] at h41_12; constructor <;> omega
              refine z_iconst (pc := 47) (v := 1) C dX7_readLetters_47 (by decide) ?_
              refine z_iload (pc := 48) C dX7_readLetters_48 rfl ?_
              refine z_ishl (pc := 50) C dX7_readLetters_50 ?_
              refine w_gp (fun v => v = (1 : Int32) <<< (v12 &&& 31)) rfl (fun v15 q15 => ?_)
              have b15x : zB v15 0 16 := by rw [q15]; exact (zshl_b b14x 4 (by decide) (by decide))
              refine z_istore (pc := 51) C dX7_readLetters_51 (by rw [hn]; decide) rfl ?_
              refine z_iload_n (pc := 53) C dX7_readLetters_53 rfl ?_
              refine z_iload (pc := 54) C dX7_readLetters_54 rfl ?_
              refine z_iand (pc := 56) C dX7_readLetters_56 ?_
              refine w_gp (fun v => v = a5_3 &&& v15) rfl (fun v16 q16 => ?_)
              have b16x : zB v16 0 16 := by rw [q16]; exact (zand_b b5_3 b15x (by decide))
              refine z_if_ne (pc := 57) 70 C dX7_readLetters_57 (by decide) (fun h57_16 => ?_) (fun h57_16 => ?_)
              · skip
                have b18x : zB v16 1 16 := by have q1 := b16x; have q2 := (zB.of (x := 0) 0 (by decide)); simp only [z32lt, z32le, z32eq, Int32.reduceToInt, Int32.toInt_zero] at h57_16; constructor <;> omega
                refine z_aload_n (pc := 70) C dX7_readLetters_70 rfl ?_
                refine z_aload_n (pc := 71) C dX7_readLetters_71 rfl ?_
                refine z_getI (pc := 72) C zf_X7_33 rfl rfl (by decide) dX7_readLetters_72 ?_
                refine w_gp (fun v => v = g7 18 0 6) rfl (fun v19 q19 => ?_)
                have e19 : v19.toInt = (g7 18 0 6).toInt := by rw [q19]
                have b19x : zB v19 0 119 := by first | exact zB.eqv e19 c10x | (have q9 := c10x; constructor <;> omega)
                refine z_callV (pc := 75) C zk_X7_56 (x_X7_fail _ _ v19 (zB.wk (a' := 0) (b' := 120) b19x (by decide) (by decide)) hI7) rfl rfl (by decide) rfl rfl (Nat.le_of_ble_eq_true rfl) dX7_readLetters_75 (fun r20 g20 q20 => ?_)
                obtain ⟨rfl, hI20, hF20q, hp20_0, hp20_1, hp20_2⟩ := q20
                have hF20 := zFr.tr hF7 hF20q (by decide)
                simp only [Option.toList, List.cons_append, List.nil_append]
                have ek20_18_0_6 : (g20 18 0 6).toInt = (g7 18 0 6).toInt := by rw [hF20q 18 0 6 rfl]
                have c20_18_0_6x : zB (g20 18 0 6) 0 119 := by first | exact zB.eqv ek20_18_0_6 c10x | (have q9 := c10x; constructor <;> omega)
                have cr20_18_0_7 : zB (g20 18 0 7) (-1) 120 := hI20 18 0 7
                refine z_goto (pc := 78) 102 C dX7_readLetters_78 (by decide) ?_
                refine w_mask [5, 6, 7] ?_
                exact ih1 a5_3 b5_3 a5_4 (zB.wk (a' := 0) (b' := 5) b6x (by decide) (by decide)) g20 hI20 hF20 (zB.wk c20_18_0_6x (by decide) (by decide)) cr20_18_0_7 (by
                                                                                          have hk : 5 - a5_4.toInt.toNat = (4 - a5_4.toInt.toNat) + 1 := by omega
                                                                                          have hs := hv7
                                                                                          have hl : zix 0 (zch T n (zsp T n ((g5_ 18 0 6).toInt.toNat))) = v12 := by rw [q12, q11, hs]
                                                                                          have hbit : v15 = 1 <<< (v12 &&& 31) := q15
                                                                                          refine Or.inl ⟨zsp T n ((g5_ 18 0 6).toInt.toNat), ?_, hb7, ?_⟩
                                                                                          · rw [hR5_4, hk, zcl_s, hl, if_neg (by omega), ← hbit, if_pos]
                                                                                            (refine Or.inl ?_; rw [← q16]; assumption)
                                                                                          · rw [hp20_2 (by rw [ft7]; decide), q19]; exact hq7) (by omega)
              · skip
                have b21x : zB v16 0 0 := by have q1 := b16x; have q2 := (zB.of (x := 0) 0 (by decide)); simp only [z32lt, z32le, z32eq, Int32.reduceToInt, Int32.toInt_zero] at h57_16; constructor <;> omega
                refine z_iload_n (pc := 60) C dX7_readLetters_60 rfl ?_
                refine z_if_eq (pc := 61) 81 C dX7_readLetters_61 (by decide) (fun h61_21 => ?_) (fun h61_21 => absurd h61_21 (by have q1 := b2; have q2 := (zB.of (x := 0) 0 (by decide)); first | (simp only [z32lt, z32le, z32eq]; omega) | (simp only [z32lt, z32le, z32eq] at *; omega)))
                refine z_iload_n (pc := 81) C dX7_readLetters_81 rfl ?_
                refine z_iload (pc := 82) C dX7_readLetters_82 rfl ?_
                refine z_ior (pc := 84) C dX7_readLetters_84 ?_
                refine w_gp (fun v => v = a5_3 ||| v15) rfl (fun v23 q23 => ?_)
                have b23x : zB v23 0 31 := by rw [q23]; exact (zor_b 5 b5_3 b15x (by decide) (by decide) (by decide) (by decide) (by decide))
                refine z_istore_n (pc := 85) C dX7_readLetters_85 (by rw [hn]; decide) rfl ?_
                refine z_aload_n (pc := 86) C dX7_readLetters_86 rfl ?_
                refine z_dupr (pc := 87) C dX7_readLetters_87 ?_
                refine z_getI (pc := 88) C zf_X7_33 rfl rfl (by decide) dX7_readLetters_88 ?_
                refine w_gp (fun v => v = g7 18 0 6) rfl (fun v24 q24 => ?_)
                have e24 : v24.toInt = (g7 18 0 6).toInt := by rw [q24]
                have b24x : zB v24 0 119 := by first | exact zB.eqv e24 c10x | (have q9 := c10x; constructor <;> omega)
                refine z_iconst (pc := 91) (v := 1) C dX7_readLetters_91 (by decide) ?_
                refine z_iadd (pc := 92) C dX7_readLetters_92 ?_
                refine w_gp (fun v => v = v24 + (1 : Int32)) rfl (fun v25 q25 => ?_)
                have e25 : v25.toInt = v24.toInt + 1 := by rw [q25]; exact (zadd_eb b24x (zB.of (x := 1) 1 (by decide)) (by decide) (by decide))
                have b25x : zB v25 1 120 := by have q1 := b24x; have q2 := (zB.of (x := 1) 1 (by decide)); constructor <;> omega
                refine z_putI (pc := 93) C zf_X7_33 zp_7_6 rfl rfl (by decide) dX7_readLetters_93 ?_
                refine w_memx hI7 hF7 (zB.wk (a' := 0) (b' := 120) b25x (by decide) (by decide)) rfl (fun g26 qm26 hI26 hF26 hq26 hx26 => ?_)
                have ec26 : (g26 18 0 6).toInt = v25.toInt := by rw [hx26]
                have c26x : zB (g26 18 0 6) 1 120 := by first | exact zB.eqv ec26 b25x | (have q9 := b25x; constructor <;> omega)
                have ek26_18_0_7 : (g26 18 0 7).toInt = (g7 18 0 7).toInt := by rw [hq26 18 0 7 (by omega)]
                have c26_18_0_7x : zB (g26 18 0 7) (-1) 120 := by first | exact zB.eqv ek26_18_0_7 c7_18_0_7x | (have q9 := c7_18_0_7x; constructor <;> omega)
                refine z_iinc (pc := 96) (v := 1) C dX7_readLetters_96 rfl (by decide) (by rw [hn]; decide) rfl ?_
                obtain ⟨v27, hv27, e27⟩ : ∃ v : Int32, v = a5_4 + 1 ∧ v.toInt = a5_4.toInt + 1 := ⟨_, rfl, zadd_eb b6x (zB.of (x := 1) 1 (by decide)) (by decide) (by decide)⟩
                rw [← hv27]
                have b27x : zB v27 1 5 := by have q9 := b6x; constructor <;> omega
                refine z_goto (pc := 99) 5 C dX7_readLetters_99 (by decide) ?_
                refine w_mask [5, 6, 7] ?_
                exact ih0 v23 b23x v27 (zB.wk (a' := 0) (b' := 5) b27x (by decide) (by decide)) g26 hI26 hF26 (zB.wk c26x (by decide) (by decide)) c26_18_0_7x (by subst qm26; exact (zup_ne _ _ (by omega)).trans h187) (by intro i hi; subst qm26; exact (zup_ne _ _ (by omega)).trans (hTp7 i hi)) (by subst qm26; exact (zup_ne _ _ (by omega)).trans ft7) (by
                                                                                          have hk : 5 - a5_4.toInt.toNat = (4 - a5_4.toInt.toNat) + 1 := by omega
                                                                                          have hs := hv7
                                                                                          have hl : zix 0 (zch T n (zsp T n ((g5_ 18 0 6).toInt.toNat))) = v12 := by rw [q12, q11, hs]
                                                                                          have ez : (g7 18 0 6).toInt = ((zsp T n ((g5_ 18 0 6).toInt.toNat) : Nat) : Int) := by rw [hq7]; exact nI_toInt (by have := hb7; omega)
                                                                                          have hlt : zsp T n ((g5_ 18 0 6).toInt.toNat) < n := zch_lt (fun h => by
                                                                                            rw [← hs] at h
                                                                                            exact absurd h (by assumption))
                                                                                          omega) (by
                                                                                          have hk : 5 - a5_4.toInt.toNat = (4 - a5_4.toInt.toNat) + 1 := by omega
                                                                                          have hs := hv7
                                                                                          have hl : zix 0 (zch T n (zsp T n ((g5_ 18 0 6).toInt.toNat))) = v12 := by rw [q12, q11, hs]
                                                                                          have hbit : v15 = 1 <<< (v12 &&& 31) := q15
                                                                                          have c56 : a5_3 &&& v15 = 0 := by rw [← q16]; assumption
                                                                                          have ez : (g7 18 0 6).toInt = ((zsp T n ((g5_ 18 0 6).toInt.toNat) : Nat) : Int) := by rw [hq7]; exact nI_toInt (by have := hb7; omega)
                                                                                          have eP : (g26 18 0 6).toInt.toNat = zsp T n ((g5_ 18 0 6).toInt.toNat) + 1 := by omega
                                                                                          rw [hR5_4, hk, zcl_s, hl, if_neg (by omega), ← hbit, if_neg (fun hh => hh.elim (fun h1 => h1 c56) (fun h1 => absurd rfl h1.1)), show 5 - (v27).toInt.toNat = 4 - a5_4.toInt.toNat by omega, eP, q23]) (by omega)
            · skip
              have b28x : zB v12 (-1) (-1) := by have q1 := b12x; have q2 := (zB.of (x := 0) 0 (by decide)); simp only [z32lt, z32le, z32eq, Int32.reduceToInt, Int32.toInt_zero] at h41_12; constructor <;> omega
              refine z_goto (pc := 44) 102 C dX7_readLetters_44 (by decide) ?_
              refine w_mask [5, 6] ?_
              exact ih1 a5_3 b5_3 a5_4 (zB.wk (a' := 0) (b' := 5) b6x (by decide) (by decide)) g7 hI7 hF7 (zB.wk c10x (by decide) (by decide)) c7_18_0_7x (by
                                                                                          have hk : 5 - a5_4.toInt.toNat = (4 - a5_4.toInt.toNat) + 1 := by omega
                                                                                          have hs := hv7
                                                                                          have hl : zix 0 (zch T n (zsp T n ((g5_ 18 0 6).toInt.toNat))) = v12 := by rw [q12, q11, hs]
                                                                                          have ez : (g7 18 0 6).toInt.toNat = zsp T n ((g5_ 18 0 6).toInt.toNat) := by rw [hq7]; exact nI_tt (by have := hb7; omega)
                                                                                          have c1 : (-1 : Int32).toInt = -1 := by decide
                                                                                          refine Or.inr ⟨ft7, by rw [ez]; exact hb7, ?_⟩
                                                                                          rw [hR5_4, hk, zcl_s, hl, if_pos (by omega), ez]) (by omega)
          · skip
            have b29x : zB v7 (-1) (-1) := by have q1 := b7x; have q2 := (zB.of (x := (-1)) (-1) (by decide)); simp only [z32lt, z32le, z32eq, Int32.reduceToInt, Int32.toInt_zero] at h23_7; constructor <;> omega
            refine z_iconst (pc := 26) (v := -1) C dX7_readLetters_26 (by decide) ?_
            refine z_goto (pc := 27) 37 C dX7_readLetters_27 (by decide) ?_
            refine z_istore (pc := 37) C dX7_readLetters_37 (by rw [hn]; decide) rfl ?_
            refine z_iload (pc := 39) C dX7_readLetters_39 rfl ?_
            refine z_if_ge (pc := 41) 47 C dX7_readLetters_41 (by decide) (fun h41_29 => absurd h41_29 (by decide)) (fun h41_29 => ?_)
            refine z_goto (pc := 44) 102 C dX7_readLetters_44 (by decide) ?_
            refine w_mask [5, 6] ?_
            exact ih1 a5_3 b5_3 a5_4 (zB.wk (a' := 0) (b' := 5) b6x (by decide) (by decide)) g7 hI7 hF7 cr7_18_0_6 c7_18_0_7x (by
                                                                                          have hk : 5 - a5_4.toInt.toNat = (4 - a5_4.toInt.toNat) + 1 := by omega
                                                                                          have hs := hv7
                                                                                          have hl : zix 0 (zch T n (zsp T n ((g5_ 18 0 6).toInt.toNat))) = -1 := by rw [← hs, show v7 = -1 by assumption]; exact zix_m1 0
                                                                                          have ez : (g7 18 0 6).toInt.toNat = zsp T n ((g5_ 18 0 6).toInt.toNat) := by rw [hq7]; exact nI_tt (by have := hb7; omega)
                                                                                          have c1 : (-1 : Int32).toInt = -1 := by decide
                                                                                          refine Or.inr ⟨ft7, by rw [ez]; exact hb7, ?_⟩
                                                                                          rw [hR5_4, hk, zcl_s, hl, if_pos (by omega), ez]) (by have qc0 : ((-1) : Int32).toInt = (-1) := (by decide); omega)
      · skip
        intro a102_3 b102_3 a102_4 b102_4 g102_ hI102_ hF102_ f102_18_0_6 f102_18_0_7 hR102_0 hM102_
        refine z_iload_n (pc := 102) C dX7_readLetters_102 rfl ?_
        exact z_iret (pc := 103) C hr dX7_readLetters_103 ⟨⟨_, rfl, b102_3⟩, hI102_, hF102_, (by
                                                                                          intro v hv; cases hv
                                                                                          rcases hR102_0 with ⟨e, h1, h2, h3⟩ | ⟨h1, h2, h3⟩
                                                                                          · exact Or.inl ⟨e, h1, h2, h3⟩
                                                                                          · exact Or.inr ⟨_, h3, (nI_ofI (hI102_ 18 0 6).1).1, h2, h1⟩)⟩
  obtain ⟨J0, J1⟩ := J 37
  show Z X 0 [some (zr 18 0), some (zr 44 1), some (zi a2), none, none, none, none, none] [] f
  refine z_iconst (pc := 0) (v := 0) C dX7_readLetters_0 (by decide) ?_
  refine z_istore_n (pc := 1) C dX7_readLetters_1 (by rw [hn]; decide) rfl ?_
  refine z_iconst (pc := 2) (v := 0) C dX7_readLetters_2 (by decide) ?_
  refine z_istore (pc := 3) C dX7_readLetters_3 (by rw [hn]; decide) rfl ?_
  exact J0 0 (zB.wk (a' := 0) (b' := 31) (zB.of (x := 0) 0 (by decide)) (by decide) (by decide)) 0 (zB.wk (a' := 0) (b' := 5) (zB.of (x := 0) 0 (by decide)) (by decide) (by decide)) f hI hF ct18_0_6 ct18_0_7 (by exact h18) (by exact hTp) (by exact ft) (by rw [hp, nI_tt (by omega)]; exact hb) (by rw [hp, nI_tt (by omega)]; rfl) (by have qc0 : (0 : Int32).toInt = 0 := (by decide); omega)

set_option maxRecDepth 100000 in
set_option maxHeartbeats 4000000 in
theorem e_X7_readLetters_1 (d : Nat) (f : zM) (a2 : Int32) (b2 : zB a2 1 1) (T : Nat → Int32) (n p : Nat) (hN : n ≤ 120) (h18 : f 18 0 3 = nI n) (hTp : ∀ i, i < n → f 19 0 i = T i) (hp : f 18 0 6 = nI p) (hb : p ≤ n) (ft : f 18 0 7 = -1) (hI : zInv f) : ZMs (d + 4) yX7_readLetters cX7_readLetters 8 (some .int) [zr 18 0, zr 44 2, zi a2] f (fun r g => (∃ v, r = some (zi v) ∧ zB v 0 7) ∧ zInv g ∧ zFr [(18, some 6), (18, some 7)] f g ∧ (∀ v : Int32, r = some (zi v) → (∃ e, zcl T n 1 1 3 p 0 = .inl e ∧ e ≤ n ∧ g 18 0 7 = nI e) ∨ (∃ q, zcl T n 1 1 3 p 0 = .inr (v, q) ∧ g 18 0 6 = nI q ∧ q ≤ n ∧ g 18 0 7 = -1))) := by
  refine ZMs.intro (by decide +kernel) (Nat.le_of_ble_eq_true rfl) ?_
  intro X C hr hn hT
  have hF : zFr [(18, some 6), (18, some 7)] f f := zFr.rf _ _
  have ct18_0_6 : zB (f 18 0 6) 0 120 := hI 18 0 6
  have ct18_0_7 : zB (f 18 0 7) (-1) 120 := hI 18 0 7
  have J : ∀ t : Nat, (∀ a5_3 : Int32, zB a5_3 0 7 → ∀ a5_4 : Int32, zB a5_4 0 3 → ∀ g : zM, zInv g → zFr [(18, some 6), (18, some 7)] f g → zB (g 18 0 6) 0 120 → zB (g 18 0 7) (-1) 120 → (g 18 0 3 = nI n) → (∀ i, i < n → g 19 0 i = T i) → (g 18 0 7 = -1) → ((g 18 0 6).toInt.toNat ≤ n) → (zcl T n 1 1 3 p 0 = zcl T n 1 1 (3 - a5_4.toInt.toNat) ((g 18 0 6).toInt.toNat) a5_3) → (1 + 4 * (3 - a5_4.toInt) : Int) < t → Z X 5 [some (zr 18 0), some (zr 44 2), some (zi a2), some (zi a5_3), some (zi a5_4), none, none, none] [] g) ∧ (∀ a102_3 : Int32, zB a102_3 0 7 → ∀ a102_4 : Int32, zB a102_4 0 3 → ∀ g : zM, zInv g → zFr [(18, some 6), (18, some 7)] f g → zB (g 18 0 6) 0 120 → zB (g 18 0 7) (-1) 120 → ((∃ e, zcl T n 1 1 3 p 0 = .inl e ∧ e ≤ n ∧ g 18 0 7 = nI e) ∨ (g 18 0 7 = -1 ∧ (g 18 0 6).toInt.toNat ≤ n ∧ zcl T n 1 1 3 p 0 = .inr (a102_3, (g 18 0 6).toInt.toNat))) → (0 : Int) < t → Z X 102 [some (zr 18 0), some (zr 44 2), some (zi a2), some (zi a102_3), some (zi a102_4), none, none, none] [] g) := by
    intro t
    induction t with
    | zero =>
      refine ⟨?_, ?_⟩ <;> (intros; exfalso; omega)
    | succ t ih =>
      obtain ⟨ih0, ih1⟩ := ih
      refine ⟨?_, ?_⟩
      · skip
        intro a5_3 b5_3 a5_4 b5_4 g5_ hI5_ hF5_ f5_18_0_6 f5_18_0_7 hR5_0 hR5_1 hR5_2 hR5_3 hR5_4 hM5_
        have hpl5 : g5_ 18 0 6 = nI ((g5_ 18 0 6).toInt.toNat) := (nI_ofI (hI5_ 18 0 6).1).1
        refine z_iload (pc := 5) C dX7_readLetters_5 rfl ?_
        refine z_aload_n (pc := 7) C dX7_readLetters_7 rfl ?_
        refine z_callT (pc := 8) C hT zk_X7_117 (t_J0_length_8abf5 _ _ 1 (by decide)) (by decide) rfl rfl rfl (Nat.le_of_ble_eq_true rfl) dX7_readLetters_8 (fun r8 g8 q8 => ?_)
        obtain ⟨rfl, hm8⟩ := q8
        obtain rfl := hm8.symm
        simp only [Option.toList, List.cons_append, List.nil_append]
        refine w_gp (fun v => v = (3 : Int32)) (by decide) (fun v1 q1 => ?_)
        have b1x : zB v1 3 3 := by rw [q1]; exact (zB.of (x := 3) 3 (by decide))
        refine z_icmp_ge (pc := 11) 102 C dX7_readLetters_11 (by decide) (fun h11_1 => ?_) (fun h11_1 => ?_)
        · skip
          have rr3 : a5_4.toInt ≥ v1.toInt := by simp only [z32lt, z32le, z32eq] at h11_1; omega
          have b4x : zB a5_4 3 3 := by have q1 := b5_4; have q2 := b1x; simp only [z32lt, z32le, z32eq, Int32.reduceToInt, Int32.toInt_zero] at h11_1; constructor <;> omega
          exact ih1 a5_3 b5_3 a5_4 (zB.wk (a' := 0) (b' := 3) b4x (by decide) (by decide)) g5_ hI5_ hF5_ f5_18_0_6 f5_18_0_7 (by
                                                                                          refine Or.inr ⟨hR5_2, hR5_3, ?_⟩
                                                                                          rw [hR5_4, show 3 - a5_4.toInt.toNat = 0 by omega, zcl_0]) (by omega)
        · skip
          have rr5 : a5_4.toInt < v1.toInt := by simp only [z32lt, z32le, z32eq] at h11_1; omega
          have b6x : zB a5_4 0 2 := by have q1 := b5_4; have q2 := b1x; simp only [z32lt, z32le, z32eq, Int32.reduceToInt, Int32.toInt_zero] at h11_1; constructor <;> omega
          refine z_aload_n (pc := 14) C dX7_readLetters_14 rfl ?_
          refine z_callV (pc := 15) C zk_X7_52 (e_X7_next _ _ T n ((g5_ 18 0 6).toInt.toNat) hN hR5_0 hR5_1 hpl5 hR5_3 hI5_) rfl rfl (by decide) rfl rfl (Nat.le_of_ble_eq_true rfl) dX7_readLetters_15 (fun r7 g7 q7 => ?_)
          obtain ⟨⟨v7, rfl, b7x⟩, hI7, hF7q, hp7⟩ := q7
          have hp7 := hp7 _ rfl
          have hF7 := zFr.tr hF5_ hF7q (by decide)
          simp only [Option.toList, List.cons_append, List.nil_append]
          have cr7_18_0_6 : zB (g7 18 0 6) 0 120 := hI7 18 0 6
          have ek7_18_0_7 : (g7 18 0 7).toInt = (g5_ 18 0 7).toInt := by rw [hF7q 18 0 7 rfl]
          have c7_18_0_7x : zB (g7 18 0 7) (-1) 120 := by first | exact zB.eqv ek7_18_0_7 f5_18_0_7 | (have q9 := f5_18_0_7; constructor <;> omega)
          obtain ⟨hv7, hq7, hj7⟩ := hp7
          have h187 : g7 18 0 3 = nI n := (hF7q 18 0 3 rfl).trans hR5_0
          have hTp7 : ∀ i, i < n → g7 19 0 i = T i := fun i hi => (hF7q 19 0 i rfl).trans (hR5_1 i hi)
          have ft7 : g7 18 0 7 = -1 := (hF7q 18 0 7 rfl).trans hR5_2
          have hb7 : zsp T n ((g5_ 18 0 6).toInt.toNat) ≤ n := zsp_len hR5_3
          refine z_istore (pc := 18) C dX7_readLetters_18 (by rw [hn]; decide) rfl ?_
          refine z_iload (pc := 20) C dX7_readLetters_20 rfl ?_
          refine z_iconst (pc := 22) (v := -1) C dX7_readLetters_22 (by decide) ?_
          refine z_icmp_ne (pc := 23) 30 C dX7_readLetters_23 (by decide) (fun h23_7 => ?_) (fun h23_7 => ?_)
          · skip
            have b9x : zB v7 0 255 := by have q1 := b7x; have q2 := (zB.of (x := (-1)) (-1) (by decide)); simp only [z32lt, z32le, z32eq, Int32.reduceToInt, Int32.toInt_zero] at h23_7; constructor <;> omega
            have c10x : zB (g7 18 0 6) 0 119 := by first | assumption | (constructor <;> omega)
            refine z_aload_n (pc := 30) C dX7_readLetters_30 rfl ?_
            refine z_iload (pc := 31) C dX7_readLetters_31 rfl ?_
            refine z_i2c (pc := 33) C dX7_readLetters_33 ?_
            refine w_gp (fun v => v = v7) (zu16 b9x (by decide) (by decide)) (fun v11 q11 => ?_)
            have b11x : zB v11 0 255 := by rw [q11]; exact b9x
            refine z_callT (pc := 34) C hT zk_X7_121 (tx_J0_indexOf_0f7a4 _ _ 1 (by decide) v11 b11x) (by decide) rfl rfl rfl (Nat.le_of_ble_eq_true rfl) dX7_readLetters_34 (fun r34 g34 q34 => ?_)
            obtain ⟨rfl, hm34⟩ := q34
            obtain rfl := hm34.symm
            simp only [Option.toList, List.cons_append, List.nil_append]
            refine w_gp (fun v => v = zix 1 v11) rfl (fun v12 q12 => ?_)
            have b12x : zB v12 (-1) 2 := by rw [q12]; exact (zix_b1 _)
            refine z_istore (pc := 37) C dX7_readLetters_37 (by rw [hn]; decide) rfl ?_
            refine z_iload (pc := 39) C dX7_readLetters_39 rfl ?_
            refine z_if_ge (pc := 41) 47 C dX7_readLetters_41 (by decide) (fun h41_12 => ?_) (fun h41_12 => ?_)
            · skip
              have b14x : zB v12 0 2 := by have q1 := b12x; have q2 := (zB.of (x := 0) 0 (by decide)); simp only [z32lt, z32le, z32eq, Int32.reduceToInt, Int32.toInt_zero] at h41_12; constructor <;> omega
              refine z_iconst (pc := 47) (v := 1) C dX7_readLetters_47 (by decide) ?_
              refine z_iload (pc := 48) C dX7_readLetters_48 rfl ?_
              refine z_ishl (pc := 50) C dX7_readLetters_50 ?_
              refine w_gp (fun v => v = (1 : Int32) <<< (v12 &&& 31)) rfl (fun v15 q15 => ?_)
              have b15x : zB v15 0 4 := by rw [q15]; exact (zshl_b b14x 2 (by decide) (by decide))
              refine z_istore (pc := 51) C dX7_readLetters_51 (by rw [hn]; decide) rfl ?_
              refine z_iload_n (pc := 53) C dX7_readLetters_53 rfl ?_
              refine z_iload (pc := 54) C dX7_readLetters_54 rfl ?_
              refine z_iand (pc := 56) C dX7_readLetters_56 ?_
              refine w_gp (fun v => v = a5_3 &&& v15) rfl (fun v16 q16 => ?_)
              have b16x : zB v16 0 4 := by rw [q16]; exact (zand_b b5_3 b15x (by decide))
              refine z_if_ne (pc := 57) 70 C dX7_readLetters_57 (by decide) (fun h57_16 => ?_) (fun h57_16 => ?_)
              · skip
                have b18x : zB v16 1 4 := by have q1 := b16x; have q2 := (zB.of (x := 0) 0 (by decide)); simp only [z32lt, z32le, z32eq, Int32.reduceToInt, Int32.toInt_zero] at h57_16; constructor <;> omega
                refine z_aload_n (pc := 70) C dX7_readLetters_70 rfl ?_
                refine z_aload_n (pc := 71) C dX7_readLetters_71 rfl ?_
                refine z_getI (pc := 72) C zf_X7_33 rfl rfl (by decide) dX7_readLetters_72 ?_
                refine w_gp (fun v => v = g7 18 0 6) rfl (fun v19 q19 => ?_)
                have e19 : v19.toInt = (g7 18 0 6).toInt := by rw [q19]
                have b19x : zB v19 0 119 := by first | exact zB.eqv e19 c10x | (have q9 := c10x; constructor <;> omega)
                refine z_callV (pc := 75) C zk_X7_56 (x_X7_fail _ _ v19 (zB.wk (a' := 0) (b' := 120) b19x (by decide) (by decide)) hI7) rfl rfl (by decide) rfl rfl (Nat.le_of_ble_eq_true rfl) dX7_readLetters_75 (fun r20 g20 q20 => ?_)
                obtain ⟨rfl, hI20, hF20q, hp20_0, hp20_1, hp20_2⟩ := q20
                have hF20 := zFr.tr hF7 hF20q (by decide)
                simp only [Option.toList, List.cons_append, List.nil_append]
                have ek20_18_0_6 : (g20 18 0 6).toInt = (g7 18 0 6).toInt := by rw [hF20q 18 0 6 rfl]
                have c20_18_0_6x : zB (g20 18 0 6) 0 119 := by first | exact zB.eqv ek20_18_0_6 c10x | (have q9 := c10x; constructor <;> omega)
                have cr20_18_0_7 : zB (g20 18 0 7) (-1) 120 := hI20 18 0 7
                refine z_goto (pc := 78) 102 C dX7_readLetters_78 (by decide) ?_
                refine w_mask [5, 6, 7] ?_
                exact ih1 a5_3 b5_3 a5_4 (zB.wk (a' := 0) (b' := 3) b6x (by decide) (by decide)) g20 hI20 hF20 (zB.wk c20_18_0_6x (by decide) (by decide)) cr20_18_0_7 (by
                                                                                          have hk : 3 - a5_4.toInt.toNat = (2 - a5_4.toInt.toNat) + 1 := by omega
                                                                                          have hs := hv7
                                                                                          have hl : zix 1 (zch T n (zsp T n ((g5_ 18 0 6).toInt.toNat))) = v12 := by rw [q12, q11, hs]
                                                                                          have hbit : v15 = 1 <<< (v12 &&& 31) := q15
                                                                                          refine Or.inl ⟨zsp T n ((g5_ 18 0 6).toInt.toNat), ?_, hb7, ?_⟩
                                                                                          · rw [hR5_4, hk, zcl_s, hl, if_neg (by omega), ← hbit, if_pos]
                                                                                            first
                                                                                              | (refine Or.inl ?_; rw [← q16]; assumption)
                                                                                              | (refine Or.inr ⟨by decide, ?_⟩; omega)
                                                                                          · rw [hp20_2 (by rw [ft7]; decide), q19]; exact hq7) (by omega)
              · skip
                have b21x : zB v16 0 0 := by have q1 := b16x; have q2 := (zB.of (x := 0) 0 (by decide)); simp only [z32lt, z32le, z32eq, Int32.reduceToInt, Int32.toInt_zero] at h57_16; constructor <;> omega
                refine z_iload_n (pc := 60) C dX7_readLetters_60 rfl ?_
                refine z_if_eq (pc := 61) 81 C dX7_readLetters_61 (by decide) (fun h61_21 => absurd h61_21 (by have q1 := b2; have q2 := (zB.of (x := 0) 0 (by decide)); first | (simp only [z32lt, z32le, z32eq]; omega) | (simp only [z32lt, z32le, z32eq] at *; omega))) (fun h61_21 => ?_)
                refine z_iload (pc := 64) C dX7_readLetters_64 rfl ?_
                refine z_iload_n (pc := 66) C dX7_readLetters_66 rfl ?_
                refine z_icmp_ge (pc := 67) 81 C dX7_readLetters_67 (by decide) (fun h67_22 => ?_) (fun h67_22 => ?_)
                · skip
                  have rr24 : v15.toInt ≥ a5_3.toInt := by simp only [z32lt, z32le, z32eq] at h67_22; omega
                  have b25x : zB a5_3 0 4 := by have q1 := b15x; have q2 := b5_3; simp only [z32lt, z32le, z32eq, Int32.reduceToInt, Int32.toInt_zero] at h67_22; constructor <;> omega
                  refine z_iload_n (pc := 81) C dX7_readLetters_81 rfl ?_
                  refine z_iload (pc := 82) C dX7_readLetters_82 rfl ?_
                  refine z_ior (pc := 84) C dX7_readLetters_84 ?_
                  refine w_gp (fun v => v = a5_3 ||| v15) rfl (fun v26 q26 => ?_)
                  have b26x : zB v26 0 7 := by rw [q26]; exact (zor_b 3 b25x b15x (by decide) (by decide) (by decide) (by decide) (by decide))
                  refine z_istore_n (pc := 85) C dX7_readLetters_85 (by rw [hn]; decide) rfl ?_
                  refine z_aload_n (pc := 86) C dX7_readLetters_86 rfl ?_
                  refine z_dupr (pc := 87) C dX7_readLetters_87 ?_
                  refine z_getI (pc := 88) C zf_X7_33 rfl rfl (by decide) dX7_readLetters_88 ?_
                  refine w_gp (fun v => v = g7 18 0 6) rfl (fun v27 q27 => ?_)
                  have e27 : v27.toInt = (g7 18 0 6).toInt := by rw [q27]
                  have b27x : zB v27 0 119 := by first | exact zB.eqv e27 c10x | (have q9 := c10x; constructor <;> omega)
                  refine z_iconst (pc := 91) (v := 1) C dX7_readLetters_91 (by decide) ?_
                  refine z_iadd (pc := 92) C dX7_readLetters_92 ?_
                  refine w_gp (fun v => v = v27 + (1 : Int32)) rfl (fun v28 q28 => ?_)
                  have e28 : v28.toInt = v27.toInt + 1 := by rw [q28]; exact (zadd_eb b27x (zB.of (x := 1) 1 (by decide)) (by decide) (by decide))
                  have b28x : zB v28 1 120 := by have q1 := b27x; have q2 := (zB.of (x := 1) 1 (by decide)); constructor <;> omega
                  refine z_putI (pc := 93) C zf_X7_33 zp_7_6 rfl rfl (by decide) dX7_readLetters_93 ?_
                  refine w_memx hI7 hF7 (zB.wk (a' := 0) (b' := 120) b28x (by decide) (by decide)) rfl (fun g29 qm29 hI29 hF29 hq29 hx29 => ?_)
                  have ec29 : (g29 18 0 6).toInt = v28.toInt := by rw [hx29]
                  have c29x : zB (g29 18 0 6) 1 120 := by first | exact zB.eqv ec29 b28x | (have q9 := b28x; constructor <;> omega)
                  have ek29_18_0_7 : (g29 18 0 7).toInt = (g7 18 0 7).toInt := by rw [hq29 18 0 7 (by omega)]
                  have c29_18_0_7x : zB (g29 18 0 7) (-1) 120 := by first | exact zB.eqv ek29_18_0_7 c7_18_0_7x | (have q9 := c7_18_0_7x; constructor <;> omega)
                  refine z_iinc (pc := 96) (v := 1) C dX7_readLetters_96 rfl (by decide) (by rw [hn]; decide) rfl ?_
                  obtain ⟨v30, hv30, e30⟩ : ∃ v : Int32, v = a5_4 + 1 ∧ v.toInt = a5_4.toInt + 1 := ⟨_, rfl, zadd_eb b6x (zB.of (x := 1) 1 (by decide)) (by decide) (by decide)⟩
                  rw [← hv30]
                  have b30x : zB v30 1 3 := by have q9 := b6x; constructor <;> omega
                  refine z_goto (pc := 99) 5 C dX7_readLetters_99 (by decide) ?_
                  refine w_mask [5, 6, 7] ?_
                  exact ih0 v26 b26x v30 (zB.wk (a' := 0) (b' := 3) b30x (by decide) (by decide)) g29 hI29 hF29 (zB.wk c29x (by decide) (by decide)) c29_18_0_7x (by subst qm29; exact (zup_ne _ _ (by omega)).trans h187) (by intro i hi; subst qm29; exact (zup_ne _ _ (by omega)).trans (hTp7 i hi)) (by subst qm29; exact (zup_ne _ _ (by omega)).trans ft7) (by
                                                                                          have hk : 3 - a5_4.toInt.toNat = (2 - a5_4.toInt.toNat) + 1 := by omega
                                                                                          have hs := hv7
                                                                                          have hl : zix 1 (zch T n (zsp T n ((g5_ 18 0 6).toInt.toNat))) = v12 := by rw [q12, q11, hs]
                                                                                          have ez : (g7 18 0 6).toInt = ((zsp T n ((g5_ 18 0 6).toInt.toNat) : Nat) : Int) := by rw [hq7]; exact nI_toInt (by have := hb7; omega)
                                                                                          have hlt : zsp T n ((g5_ 18 0 6).toInt.toNat) < n := zch_lt (fun h => by
                                                                                            rw [← hs] at h
                                                                                            exact absurd h (by assumption))
                                                                                          omega) (by
                                                                                          have hk : 3 - a5_4.toInt.toNat = (2 - a5_4.toInt.toNat) + 1 := by omega
                                                                                          have hs := hv7
                                                                                          have hl : zix 1 (zch T n (zsp T n ((g5_ 18 0 6).toInt.toNat))) = v12 := by rw [q12, q11, hs]
                                                                                          have hbit : v15 = 1 <<< (v12 &&& 31) := q15
                                                                                          have c56 : a5_3 &&& v15 = 0 := by rw [← q16]; assumption
                                                                                          have ez : (g7 18 0 6).toInt = ((zsp T n ((g5_ 18 0 6).toInt.toNat) : Nat) : Int) := by rw [hq7]; exact nI_toInt (by have := hb7; omega)
                                                                                          have eP : (g29 18 0 6).toInt.toNat = zsp T n ((g5_ 18 0 6).toInt.toNat) + 1 := by omega
                                                                                          rw [hR5_4, hk, zcl_s, hl, if_neg (by omega), ← hbit, if_neg (fun hh => hh.elim (fun h1 => h1 c56) (fun h1 => by have h2 := h1.2; omega)), show 3 - (v30).toInt.toNat = 2 - a5_4.toInt.toNat by omega, eP, q26]) (by omega)
                · skip
                  have rr31 : v15.toInt < a5_3.toInt := by simp only [z32lt, z32le, z32eq] at h67_22; omega
                  have b32x : zB a5_3 1 7 := by have q1 := b15x; have q2 := b5_3; simp only [z32lt, z32le, z32eq, Int32.reduceToInt, Int32.toInt_zero] at h67_22; constructor <;> omega
                  refine z_aload_n (pc := 70) C dX7_readLetters_70 rfl ?_
                  refine z_aload_n (pc := 71) C dX7_readLetters_71 rfl ?_
                  refine z_getI (pc := 72) C zf_X7_33 rfl rfl (by decide) dX7_readLetters_72 ?_
                  refine w_gp (fun v => v = g7 18 0 6) rfl (fun v33 q33 => ?_)
                  have e33 : v33.toInt = (g7 18 0 6).toInt := by rw [q33]
                  have b33x : zB v33 0 119 := by first | exact zB.eqv e33 c10x | (have q9 := c10x; constructor <;> omega)
                  refine z_callV (pc := 75) C zk_X7_56 (x_X7_fail _ _ v33 (zB.wk (a' := 0) (b' := 120) b33x (by decide) (by decide)) hI7) rfl rfl (by decide) rfl rfl (Nat.le_of_ble_eq_true rfl) dX7_readLetters_75 (fun r34 g34 q34 => ?_)
                  obtain ⟨rfl, hI34, hF34q, hp34_0, hp34_1, hp34_2⟩ := q34
                  have hF34 := zFr.tr hF7 hF34q (by decide)
                  simp only [Option.toList, List.cons_append, List.nil_append]
                  have ek34_18_0_6 : (g34 18 0 6).toInt = (g7 18 0 6).toInt := by rw [hF34q 18 0 6 rfl]
                  have c34_18_0_6x : zB (g34 18 0 6) 0 119 := by first | exact zB.eqv ek34_18_0_6 c10x | (have q9 := c10x; constructor <;> omega)
                  have cr34_18_0_7 : zB (g34 18 0 7) (-1) 120 := hI34 18 0 7
                  refine z_goto (pc := 78) 102 C dX7_readLetters_78 (by decide) ?_
                  refine w_mask [5, 6, 7] ?_
                  exact ih1 a5_3 (zB.wk (a' := 0) (b' := 7) b32x (by decide) (by decide)) a5_4 (zB.wk (a' := 0) (b' := 3) b6x (by decide) (by decide)) g34 hI34 hF34 (zB.wk c34_18_0_6x (by decide) (by decide)) cr34_18_0_7 (by
                                                                                          have hk : 3 - a5_4.toInt.toNat = (2 - a5_4.toInt.toNat) + 1 := by omega
                                                                                          have hs := hv7
                                                                                          have hl : zix 1 (zch T n (zsp T n ((g5_ 18 0 6).toInt.toNat))) = v12 := by rw [q12, q11, hs]
                                                                                          have hbit : v15 = 1 <<< (v12 &&& 31) := q15
                                                                                          refine Or.inl ⟨zsp T n ((g5_ 18 0 6).toInt.toNat), ?_, hb7, ?_⟩
                                                                                          · rw [hR5_4, hk, zcl_s, hl, if_neg (by omega), ← hbit, if_pos]
                                                                                            first
                                                                                              | (refine Or.inl ?_; rw [← q16]; assumption)
                                                                                              | (refine Or.inr ⟨by decide, ?_⟩; omega)
                                                                                          · rw [hp34_2 (by rw [ft7]; decide), q33]; exact hq7) (by omega)
            · skip
              have b35x : zB v12 (-1) (-1) := by have q1 := b12x; have q2 := (zB.of (x := 0) 0 (by decide)); simp only [z32lt, z32le, z32eq, Int32.reduceToInt, Int32.toInt_zero] at h41_12; constructor <;> omega
              refine z_goto (pc := 44) 102 C dX7_readLetters_44 (by decide) ?_
              refine w_mask [5, 6] ?_
              exact ih1 a5_3 b5_3 a5_4 (zB.wk (a' := 0) (b' := 3) b6x (by decide) (by decide)) g7 hI7 hF7 (zB.wk c10x (by decide) (by decide)) c7_18_0_7x (by
                                                                                          have hk : 3 - a5_4.toInt.toNat = (2 - a5_4.toInt.toNat) + 1 := by omega
                                                                                          have hs := hv7
                                                                                          have hl : zix 1 (zch T n (zsp T n ((g5_ 18 0 6).toInt.toNat))) = v12 := by rw [q12, q11, hs]
                                                                                          have ez : (g7 18 0 6).toInt.toNat = zsp T n ((g5_ 18 0 6).toInt.toNat) := by rw [hq7]; exact nI_tt (by have := hb7; omega)
                                                                                          have c1 : (-1 : Int32).toInt = -1 := by decide
                                                                                          refine Or.inr ⟨ft7, by rw [ez]; exact hb7, ?_⟩
                                                                                          rw [hR5_4, hk, zcl_s, hl, if_pos (by omega), ez]) (by omega)
          · skip
            have b36x : zB v7 (-1) (-1) := by have q1 := b7x; have q2 := (zB.of (x := (-1)) (-1) (by decide)); simp only [z32lt, z32le, z32eq, Int32.reduceToInt, Int32.toInt_zero] at h23_7; constructor <;> omega
            refine z_iconst (pc := 26) (v := -1) C dX7_readLetters_26 (by decide) ?_
            refine z_goto (pc := 27) 37 C dX7_readLetters_27 (by decide) ?_
            refine z_istore (pc := 37) C dX7_readLetters_37 (by rw [hn]; decide) rfl ?_
            refine z_iload (pc := 39) C dX7_readLetters_39 rfl ?_
            refine z_if_ge (pc := 41) 47 C dX7_readLetters_41 (by decide) (fun h41_36 => absurd h41_36 (by decide)) (fun h41_36 => ?_)
            refine z_goto (pc := 44) 102 C dX7_readLetters_44 (by decide) ?_
            refine w_mask [5, 6] ?_
            exact ih1 a5_3 b5_3 a5_4 (zB.wk (a' := 0) (b' := 3) b6x (by decide) (by decide)) g7 hI7 hF7 cr7_18_0_6 c7_18_0_7x (by
                                                                                          have hk : 3 - a5_4.toInt.toNat = (2 - a5_4.toInt.toNat) + 1 := by omega
                                                                                          have hs := hv7
                                                                                          have hl : zix 1 (zch T n (zsp T n ((g5_ 18 0 6).toInt.toNat))) = -1 := by rw [← hs, show v7 = -1 by assumption]; exact zix_m1 1
                                                                                          have ez : (g7 18 0 6).toInt.toNat = zsp T n ((g5_ 18 0 6).toInt.toNat) := by rw [hq7]; exact nI_tt (by have := hb7; omega)
                                                                                          have c1 : (-1 : Int32).toInt = -1 := by decide
                                                                                          refine Or.inr ⟨ft7, by rw [ez]; exact hb7, ?_⟩
                                                                                          rw [hR5_4, hk, zcl_s, hl, if_pos (by omega), ez]) (by have qc0 : ((-1) : Int32).toInt = (-1) := (by decide); omega)
      · skip
        intro a102_3 b102_3 a102_4 b102_4 g102_ hI102_ hF102_ f102_18_0_6 f102_18_0_7 hR102_0 hM102_
        refine z_iload_n (pc := 102) C dX7_readLetters_102 rfl ?_
        exact z_iret (pc := 103) C hr dX7_readLetters_103 ⟨⟨_, rfl, b102_3⟩, hI102_, hF102_, (by
                                                                                          intro v hv; cases hv
                                                                                          rcases hR102_0 with ⟨e, h1, h2, h3⟩ | ⟨h1, h2, h3⟩
                                                                                          · exact Or.inl ⟨e, h1, h2, h3⟩
                                                                                          · exact Or.inr ⟨_, h3, (nI_ofI (hI102_ 18 0 6).1).1, h2, h1⟩)⟩
  obtain ⟨J0, J1⟩ := J 29
  show Z X 0 [some (zr 18 0), some (zr 44 2), some (zi a2), none, none, none, none, none] [] f
  refine z_iconst (pc := 0) (v := 0) C dX7_readLetters_0 (by decide) ?_
  refine z_istore_n (pc := 1) C dX7_readLetters_1 (by rw [hn]; decide) rfl ?_
  refine z_iconst (pc := 2) (v := 0) C dX7_readLetters_2 (by decide) ?_
  refine z_istore (pc := 3) C dX7_readLetters_3 (by rw [hn]; decide) rfl ?_
  exact J0 0 (zB.wk (a' := 0) (b' := 7) (zB.of (x := 0) 0 (by decide)) (by decide) (by decide)) 0 (zB.wk (a' := 0) (b' := 3) (zB.of (x := 0) 0 (by decide)) (by decide) (by decide)) f hI hF ct18_0_6 ct18_0_7 (by exact h18) (by exact hTp) (by exact ft) (by rw [hp, nI_tt (by omega)]; exact hb) (by rw [hp, nI_tt (by omega)]; rfl) (by have qc0 : (0 : Int32).toInt = 0 := (by decide); omega)

set_option maxRecDepth 100000 in
set_option maxHeartbeats 4000000 in
theorem e_X7_readPromises (d : Nat) (f : zM) (T : Nat → Int32) (n p : Nat) (hN : n ≤ 120) (h18 : f 18 0 3 = nI n) (hTp : ∀ i, i < n → f 19 0 i = T i) (hp : f 18 0 6 = nI p) (hb : p ≤ n) (ft : f 18 0 7 = -1) (hI : zInv f) : ZMs (d + 5) yX7_readPromises cX7_readPromises 2 (some .int) [zr 18 0] f (fun r g => (∃ v, r = some (zi v) ∧ zB v 0 7) ∧ zInv g ∧ zFr [(18, some 6), (18, some 7)] f g ∧ (∀ v : Int32, r = some (zi v) → (∃ e, zprC T n p = .inl e ∧ e ≤ n ∧ g 18 0 7 = nI e) ∨ (∃ q, zprC T n p = .inr (v, q) ∧ g 18 0 6 = nI q ∧ q ≤ n ∧ g 18 0 7 = -1))) := by
  refine ZMs.intro (by decide +kernel) (Nat.le_of_ble_eq_true rfl) ?_
  intro X C hr hn hT
  have hF : zFr [(18, some 6), (18, some 7)] f f := zFr.rf _ _
  have ct18_0_6 : zB (f 18 0 6) 0 120 := hI 18 0 6
  have ct18_0_7 : zB (f 18 0 7) (-1) 120 := hI 18 0 7
  show Z X 0 [some (zr 18 0), none] [] f
  refine z_aload_n (pc := 0) C dX7_readPromises_0 rfl ?_
  refine z_ldcT (pc := 1) (i := 1) (tx := "") C hT (Or.inr ⟨rfl, rfl⟩) dX7_readPromises_1 ?_
  refine z_iconst (pc := 3) (v := 1) C dX7_readPromises_3 (by decide) ?_
  refine z_callVS (pc := 4) C hT zk_X7_91 (e_X7_readLetters_1 _ _ 1 (zB.of (x := 1) 1 (by decide)) T n (p) hN h18 hTp hp hb ft hI) rfl rfl (by decide) rfl rfl (Nat.le_of_ble_eq_true rfl) dX7_readPromises_4 (fun r1 g1 q1 => ?_)
  obtain ⟨⟨v1, rfl, b1x⟩, hI1, hF1q, hp1⟩ := q1
  have hp1 := hp1 _ rfl
  have hF1 := zFr.tr hF hF1q (by decide)
  simp only [Option.toList, List.cons_append, List.nil_append]
  have cr1_18_0_6 : zB (g1 18 0 6) 0 120 := hI1 18 0 6
  have cr1_18_0_7 : zB (g1 18 0 7) (-1) 120 := hI1 18 0 7
  rcases hp1 with ⟨u1, hc1, hb1, hz1⟩ | ⟨u1, hc1, hq1, hb1, ft1⟩
  · skip
    have hzi1 : (g1 18 0 7).toInt = (u1 : Int) := by rw [hz1]; exact nI_toInt (by omega)
    have c2x : zB (g1 18 0 7) 0 120 := by first | assumption | (constructor <;> omega)
    refine z_istore_n (pc := 7) C dX7_readPromises_7 (by rw [hn]; decide) rfl ?_
    refine z_iload_n (pc := 8) C dX7_readPromises_8 rfl ?_
    refine z_if_ne (pc := 9) 20 C dX7_readPromises_9 (by decide) (fun h9_2 => ?_) (fun h9_2 => ?_)
    · skip
      have b4x : zB v1 1 7 := by have q1 := b1x; have q2 := (zB.of (x := 0) 0 (by decide)); simp only [z32lt, z32le, z32eq, Int32.reduceToInt, Int32.toInt_zero] at h9_2; constructor <;> omega
      refine z_iload_n (pc := 20) C dX7_readPromises_20 rfl ?_
      exact z_iret (pc := 21) C hr dX7_readPromises_21 ⟨⟨_, rfl, (zB.wk (a' := 0) (b' := 7) b4x (by decide) (by decide))⟩, hI1, hF1, (by
                                                                                          intro v hv; cases hv
                                                                                          refine Or.inl ⟨u1, ?_, hb1, ?_⟩
                                                                                          · unfold zprC; simp only [zbd, hc1]
                                                                                          · rw [z32eq, nI_toInt (by omega)]
                                                                                            omega)⟩
    · skip
      have b5x : zB v1 0 0 := by have q1 := b1x; have q2 := (zB.of (x := 0) 0 (by decide)); simp only [z32lt, z32le, z32eq, Int32.reduceToInt, Int32.toInt_zero] at h9_2; constructor <;> omega
      refine z_aload_n (pc := 12) C dX7_readPromises_12 rfl ?_
      refine z_aload_n (pc := 13) C dX7_readPromises_13 rfl ?_
      refine z_getI (pc := 14) C zf_X7_33 rfl rfl (by decide) dX7_readPromises_14 ?_
      refine w_gp (fun v => v = g1 18 0 6) rfl (fun v6 q6 => ?_)
      have e6 : v6.toInt = (g1 18 0 6).toInt := by rw [q6]
      have b6x : zB v6 0 120 := by first | exact zB.eqv e6 cr1_18_0_6 | (have q9 := cr1_18_0_6; constructor <;> omega)
      refine z_callV (pc := 17) C zk_X7_56 (x_X7_fail _ _ v6 b6x hI1) rfl rfl (by decide) rfl rfl (Nat.le_of_ble_eq_true rfl) dX7_readPromises_17 (fun r7 g7 q7 => ?_)
      obtain ⟨rfl, hI7, hF7q, hp7_0, hp7_1, hp7_2⟩ := q7
      have hF7 := zFr.tr hF1 hF7q (by decide)
      simp only [Option.toList, List.cons_append, List.nil_append]
      have ek7_18_0_6 : (g7 18 0 6).toInt = (g1 18 0 6).toInt := by rw [hF7q 18 0 6 rfl]
      have c7_18_0_6x : zB (g7 18 0 6) 0 120 := by first | exact zB.eqv ek7_18_0_6 cr1_18_0_6 | (have q9 := cr1_18_0_6; constructor <;> omega)
      have cr7_18_0_7 : zB (g7 18 0 7) (-1) 120 := hI7 18 0 7
      refine z_iload_n (pc := 20) C dX7_readPromises_20 rfl ?_
      exact z_iret (pc := 21) C hr dX7_readPromises_21 ⟨⟨_, rfl, (zB.wk (a' := 0) (b' := 7) b5x (by decide) (by decide))⟩, hI7, hF7, (by
                                                                                          intro v hv; cases hv
                                                                                          refine Or.inl ⟨u1, ?_, hb1, ?_⟩
                                                                                          · unfold zprC; simp only [zbd, hc1]
                                                                                          · rw [z32eq, nI_toInt (by omega)]
                                                                                            omega)⟩
  · skip
    have h181 : g1 18 0 3 = nI n := (hF1q 18 0 3 rfl).trans h18
    have hTp1 : ∀ i, i < n → g1 19 0 i = T i := fun i hi => (hF1q 19 0 i rfl).trans (hTp i hi)
    have fti1 : (g1 18 0 7).toInt = -1 := by rw [ft1]; decide
    have c8x : zB (g1 18 0 7) (-1) (-1) := by first | assumption | (constructor <;> omega)
    refine z_istore_n (pc := 7) C dX7_readPromises_7 (by rw [hn]; decide) rfl ?_
    refine z_iload_n (pc := 8) C dX7_readPromises_8 rfl ?_
    refine z_if_ne (pc := 9) 20 C dX7_readPromises_9 (by decide) (fun h9_8 => ?_) (fun h9_8 => ?_)
    · skip
      have b10x : zB v1 1 7 := by have q1 := b1x; have q2 := (zB.of (x := 0) 0 (by decide)); simp only [z32lt, z32le, z32eq, Int32.reduceToInt, Int32.toInt_zero] at h9_8; constructor <;> omega
      refine z_iload_n (pc := 20) C dX7_readPromises_20 rfl ?_
      exact z_iret (pc := 21) C hr dX7_readPromises_21 ⟨⟨_, rfl, (zB.wk (a' := 0) (b' := 7) b10x (by decide) (by decide))⟩, hI1, hF1, (by
                                                                                          intro v hv; cases hv
                                                                                          refine Or.inr ⟨_, ?_, hq1, hb1, ft1⟩
                                                                                          unfold zprC
                                                                                          simp only [zbd, hc1]
                                                                                          rw [if_neg (by assumption)])⟩
    · skip
      have b11x : zB v1 0 0 := by have q1 := b1x; have q2 := (zB.of (x := 0) 0 (by decide)); simp only [z32lt, z32le, z32eq, Int32.reduceToInt, Int32.toInt_zero] at h9_8; constructor <;> omega
      refine z_aload_n (pc := 12) C dX7_readPromises_12 rfl ?_
      refine z_aload_n (pc := 13) C dX7_readPromises_13 rfl ?_
      refine z_getI (pc := 14) C zf_X7_33 rfl rfl (by decide) dX7_readPromises_14 ?_
      refine w_gp (fun v => v = g1 18 0 6) rfl (fun v12 q12 => ?_)
      have e12 : v12.toInt = (g1 18 0 6).toInt := by rw [q12]
      have b12x : zB v12 0 120 := by first | exact zB.eqv e12 cr1_18_0_6 | (have q9 := cr1_18_0_6; constructor <;> omega)
      refine z_callV (pc := 17) C zk_X7_56 (x_X7_fail _ _ v12 b12x hI1) rfl rfl (by decide) rfl rfl (Nat.le_of_ble_eq_true rfl) dX7_readPromises_17 (fun r13 g13 q13 => ?_)
      obtain ⟨rfl, hI13, hF13q, hp13_0, hp13_1, hp13_2⟩ := q13
      have hF13 := zFr.tr hF1 hF13q (by decide)
      simp only [Option.toList, List.cons_append, List.nil_append]
      have ek13_18_0_6 : (g13 18 0 6).toInt = (g1 18 0 6).toInt := by rw [hF13q 18 0 6 rfl]
      have c13_18_0_6x : zB (g13 18 0 6) 0 120 := by first | exact zB.eqv ek13_18_0_6 cr1_18_0_6 | (have q9 := cr1_18_0_6; constructor <;> omega)
      have cr13_18_0_7 : zB (g13 18 0 7) (-1) 120 := hI13 18 0 7
      refine z_iload_n (pc := 20) C dX7_readPromises_20 rfl ?_
      exact z_iret (pc := 21) C hr dX7_readPromises_21 ⟨⟨_, rfl, (zB.wk (a' := 0) (b' := 7) b11x (by decide) (by decide))⟩, hI13, hF13, (by
                                                                                          intro v hv; cases hv
                                                                                          refine Or.inl ⟨u1, ?_, hb1, ?_⟩
                                                                                          · unfold zprC
                                                                                            simp only [zbd, hc1]
                                                                                            rw [if_pos (by assumption)]
                                                                                          · rw [hp13_2 (by rw [ft1]; decide), q12]; exact hq1)⟩
