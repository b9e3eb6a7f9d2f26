theorem zcx_k {f g : zM} {p d : Nat} (a : ∀ j, j < 8 → g 11 p j = f 11 p j) (b : ∀ n j, g 8 n j = f 8 n j) (c : ∀ n j, g 9 n j = f 9 n j) (e : ∀ n j, g 10 n j = f 10 n j) : zcx g p d ↔ zcx f p d := by
  unfold zcx
  rw [a 0 (by decide), a 1 (by decide), a 2 (by decide), a 3 (by decide), a 4 (by decide), b, b, b, c, e]
theorem zbx_k {f g : zM} {p d : Nat} (a : ∀ j, j < 8 → g 11 p j = f 11 p j) (b : ∀ n j, g 8 n j = f 8 n j) (c : ∀ n j, g 6 n j = f 6 n j) : zbx g p d = zbx f p d := by
  unfold zbx
  rw [a 1 (by decide), a 2 (by decide), a 5 (by decide), a 6 (by decide), a 7 (by decide), b, b, b, b, b, c, c]

set_option maxRecDepth 100000 in
set_option maxHeartbeats 4000000 in
theorem x_X8_weigh (d : Nat) (f : zM) (m1 : Nat) (h1 : m1 < zcnt 11) (hI : zInv f) : ZM (d + 2) yX8_weigh cX8_weigh 4 none [zr 1 0, zr 11 m1] f (fun r g => r = none ∧ zInv g ∧ zFr [(11, some 8), (11, some 9)] f g ∧ ((∀ a b c, ¬ (a = 11 ∧ b = m1 ∧ (c = 8 ∨ c = 9)) → g a b c = f a b c)) ∧ (g 11 m1 8 = zbf (fun i => zcx f m1 i ∧ zbx f m1 i = 0) (f 1 0 6).toInt.toNat) ∧ (g 11 m1 9 = zbf (fun i => bt (f 8 i 7) (f 11 m1 2).toInt.toNat = true) (f 1 0 6).toInt.toNat)) := by
  refine ZM.intro (by decide +kernel) (Nat.le_of_ble_eq_true rfl) ?_
  intro X C hr hn
  have hF : zFr [(11, some 8), (11, some 9)] f f := zFr.rf _ _
  have ct1_0_6 : zB (f 1 0 6) 0 8 := hI 1 0 6
  have J : ∀ t : Nat, (∀ a12_2 : Int32, zB a12_2 0 8 → ∀ g : zM, zInv g → zFr [(11, some 8), (11, some 9)] f g → zB (g 1 0 6) 0 8 → ((∀ a b c, ¬ (a = 11 ∧ b = m1 ∧ (c = 8 ∨ c = 9)) → g a b c = f a b c)) → (g 11 m1 8 = zbf (fun i => zcx f m1 i ∧ zbx f m1 i = 0) (a12_2.toInt.toNat)) → (g 11 m1 9 = zbf (fun i => bt (f 8 i 7) (f 11 m1 2).toInt.toNat = true) (a12_2.toInt.toNat)) → (a12_2.toInt ≤ (f 1 0 6).toInt) → ((g 1 0 6).toInt = (f 1 0 6).toInt) → (0 + 3 * (8 - a12_2.toInt) : Int) < t → Z X 12 [some (zr 1 0), some (zr 11 m1), some (zi a12_2), none] [] g) := by
    intro t
    induction t with
    | zero =>
      intros; exfalso; omega
    | succ t ih =>
      have ih0 := ih
      intro a12_2 b12_2 g12_ hI12_ hF12_ f12_1_0_6 hR12_0 hR12_1 hR12_2 hR12_3 hR12_4 hM12_
      refine z_iload_n (pc := 12) C dX8_weigh_12 rfl ?_
      refine z_aload_n (pc := 13) C dX8_weigh_13 rfl ?_
      refine z_getI (pc := 14) C zf_X8_54 rfl rfl (by decide) dX8_weigh_14 ?_
      refine w_gp (fun v => v = g12_ 1 0 6) rfl (fun v1 q1 => ?_)
      have e1 : v1.toInt = (g12_ 1 0 6).toInt := by rw [q1]
      have b1x : zB v1 0 8 := by first | exact zB.eqv e1 f12_1_0_6 | (have q9 := f12_1_0_6; constructor <;> omega)
      refine z_icmp_ge (pc := 17) 93 C dX8_weigh_17 (by decide) (fun h17_1 => ?_) (fun h17_1 => ?_)
      · skip
        have rr3 : a12_2.toInt ≥ v1.toInt := by simp only [z32lt, z32le, z32eq] at h17_1; omega
        exact z_vret (pc := 93) C hr dX8_weigh_93 ⟨rfl, hI12_, hF12_, (by exact hR12_0), (by
                                                                                          have hn : (f 1 0 6).toInt.toNat = a12_2.toInt.toNat := by omega
                                                                                          rw [hn]; exact hR12_1), (by
                                                                                          have hn : (f 1 0 6).toInt.toNat = a12_2.toInt.toNat := by omega
                                                                                          rw [hn]; exact hR12_2)⟩
      · skip
        have rr4 : a12_2.toInt < v1.toInt := by simp only [z32lt, z32le, z32eq] at h17_1; omega
        have b5x : zB a12_2 0 7 := by have q1 := b12_2; have q2 := b1x; simp only [z32lt, z32le, z32eq, Int32.reduceToInt, Int32.toInt_zero] at h17_1; constructor <;> omega
        have b6x : zB v1 1 8 := by have q1 := b12_2; have q2 := b1x; simp only [z32lt, z32le, z32eq, Int32.reduceToInt, Int32.toInt_zero] at h17_1; constructor <;> omega
        have c7x : zB (g12_ 1 0 6) 1 8 := by first | assumption | (constructor <;> omega)
        refine z_aload_n (pc := 20) C dX8_weigh_20 rfl ?_
        refine z_getR (pc := 21) C zf_X8_19 rfl rfl (by decide) dX8_weigh_21 ?_
        refine z_iload_n (pc := 24) C dX8_weigh_24 rfl ?_
        refine z_aald (pc := 25) C rfl ⟨rfl, by decide⟩ (by decide) (zIx b5x (by decide) (by decide)) dX8_weigh_25 ?_
        refine w_grx (by have hq := zN b5x (by decide); show 8 * 0 + a12_2.toNatClampNeg < 16; omega) (fun m8 q8r h8x => ?_)
        have q8r : m8 = 8 * 0 + a12_2.toNatClampNeg := q8r
        have k8r : a12_2.toNatClampNeg = a12_2.toInt.toNat := rfl
        refine z_astore_n (pc := 26) C dX8_weigh_26 (by rw [hn]; decide) rfl ?_
        refine z_aload_n (pc := 27) C dX8_weigh_27 rfl ?_
        refine z_dupr (pc := 28) C dX8_weigh_28 ?_
        refine z_getI (pc := 29) C zf_X8_137 rfl rfl h1 dX8_weigh_29 ?_
        refine w_gp (fun v => v = g12_ 11 m1 8) rfl (fun v10 q10 => ?_)
        have b10x : zB v10 0 255 := by rw [q10]; exact (hI12_ 11 m1 8)
        refine z_aload_n (pc := 32) C dX8_weigh_32 rfl ?_
        refine z_aload_n (pc := 33) C dX8_weigh_33 rfl ?_
        refine z_callV (pc := 34) C zk_X8_100 (x_X4_isFor _ _ m1 h1 m8 h8x hI12_) rfl rfl h1 rfl rfl (Nat.le_of_ble_eq_true rfl) dX8_weigh_34 (fun r11 g11 q11 => ?_)
        obtain ⟨⟨v11, rfl, b11x⟩, hI11, hF11q, hp11_0⟩ := q11
        have hp11_0 := hp11_0 _ rfl
        obtain rfl := zFr_nil hF11q
        simp only [Option.toList, List.cons_append, List.nil_append]
        refine z_if_eq (pc := 37) 55 C dX8_weigh_37 (by decide) (fun h37_11 => ?_) (fun h37_11 => ?_)
        · skip
          have b13x : zB v11 0 0 := by have q1 := b11x; have q2 := (zB.of (x := 0) 0 (by decide)); simp only [z32lt, z32le, z32eq, Int32.reduceToInt, Int32.toInt_zero] at h37_11; constructor <;> omega
          refine z_iconst (pc := 55) (v := 0) C dX8_weigh_55 (by decide) ?_
          refine z_ior (pc := 56) C dX8_weigh_56 ?_
          refine w_gp (fun v => v = v10 ||| (0 : Int32)) rfl (fun v14 q14 => ?_)
          have b14x : zB v14 0 255 := by rw [q14]; exact (zor_b 8 b10x (zB.of (x := 0) 0 (by decide)) (by decide) (by decide) (by decide) (by decide) (by decide))
          refine z_putI (pc := 57) C zf_X8_137 zp_4_8 rfl rfl h1 dX8_weigh_57 ?_
          refine w_memx hI12_ hF12_ b14x rfl (fun g15 qm15 hI15 hF15 hq15 hx15 => ?_)
          have ek15_1_0_6 : (g15 1 0 6).toInt = (g12_ 1 0 6).toInt := by rw [hq15 1 0 6 (by omega)]
          have c15_1_0_6x : zB (g15 1 0 6) 1 8 := by rw [hq15 1 0 6 (by omega)]; exact c7x
          refine z_aload_n (pc := 60) C dX8_weigh_60 rfl ?_
          refine z_dupr (pc := 61) C dX8_weigh_61 ?_
          refine z_getI (pc := 62) C zf_X8_140 rfl rfl h1 dX8_weigh_62 ?_
          refine w_gp (fun v => v = g15 11 m1 9) rfl (fun v17 q17 => ?_)
          have b17x : zB v17 0 255 := by rw [q17]; exact (hI15 11 m1 9)
          refine z_aload_n (pc := 65) C dX8_weigh_65 rfl ?_
          refine z_aload_n (pc := 66) C dX8_weigh_66 rfl ?_
          refine z_getI (pc := 67) C zf_X8_117 rfl rfl h1 dX8_weigh_67 ?_
          refine w_gp (fun v => v = g15 11 m1 2) rfl (fun v19 q19 => ?_)
          have b19x : zB v19 0 5 := by rw [q19]; exact (hI15 11 m1 2)
          refine z_callV (pc := 70) C zk_X8_120 (x_X1_isDeadly _ _ m8 h8x v19 b19x hI15) rfl rfl h8x rfl rfl (Nat.le_of_ble_eq_true rfl) dX8_weigh_70 (fun r20 g20 q20 => ?_)
          obtain ⟨⟨v20, rfl, b20x⟩, hI20, hF20q, hp20_0⟩ := q20
          have hp20_0 := hp20_0 _ rfl
          obtain rfl := zFr_nil hF20q
          simp only [Option.toList, List.cons_append, List.nil_append]
          refine z_if_eq (pc := 73) 82 C dX8_weigh_73 (by decide) (fun h73_20 => ?_) (fun h73_20 => ?_)
          · skip
            have b22x : zB v20 0 0 := by have q1 := b20x; have q2 := (zB.of (x := 0) 0 (by decide)); simp only [z32lt, z32le, z32eq, Int32.reduceToInt, Int32.toInt_zero] at h73_20; constructor <;> omega
            refine z_iconst (pc := 82) (v := 0) C dX8_weigh_82 (by decide) ?_
            refine z_ior (pc := 83) C dX8_weigh_83 ?_
            refine w_gp (fun v => v = v17 ||| (0 : Int32)) rfl (fun v23 q23 => ?_)
            have b23x : zB v23 0 255 := by rw [q23]; exact (zor_b 8 b17x (zB.of (x := 0) 0 (by decide)) (by decide) (by decide) (by decide) (by decide) (by decide))
            refine z_putI (pc := 84) C zf_X8_140 zp_4_9 rfl rfl h1 dX8_weigh_84 ?_
            refine w_memx hI15 hF15 b23x rfl (fun g24 qm24 hI24 hF24 hq24 hx24 => ?_)
            have ek24_1_0_6 : (g24 1 0 6).toInt = (g15 1 0 6).toInt := by rw [hq24 1 0 6 (by omega)]
            have c24_1_0_6x : zB (g24 1 0 6) 1 8 := by rw [hq24 1 0 6 (by omega)]; exact c15_1_0_6x
            refine z_iinc (pc := 87) (v := 1) C dX8_weigh_87 rfl (by decide) (by rw [hn]; decide) rfl ?_
            obtain ⟨v25, hv25, e25⟩ : ∃ v : Int32, v = a12_2 + 1 ∧ v.toInt = a12_2.toInt + 1 := ⟨_, rfl, zadd_eb b5x (zB.of (x := 1) 1 (by decide)) (by decide) (by decide)⟩
            rw [← hv25]
            have b25x : zB v25 1 8 := by have q9 := b5x; constructor <;> omega
            refine z_goto (pc := 90) 12 C dX8_weigh_90 (by decide) ?_
            refine w_mask [3] ?_
            exact ih0 v25 (zB.wk (a' := 0) (b' := 8) b25x (by decide) (by decide)) g24 hI24 hF24 (zB.wk c24_1_0_6x (by decide) (by decide)) (by intro a b c h; rw [qm24, zup_ne _ _ (by omega), qm15, zup_ne _ _ (by omega)]; exact hR12_0 a b c h) (by
                                                                                          have hn : (v25).toInt.toNat = a12_2.toInt.toNat + 1 := by omega
                                                                                          have hi : a12_2 = nI a12_2.toInt.toNat := (nI_ofI (by omega)).1
                                                                                          have hx : m8 = a12_2.toInt.toNat := by omega
                                                                                          have k11 : ∀ j, j < 8 → g12_ 11 m1 j = f 11 m1 j := fun j hj => hR12_0 _ _ _ (by omega)
                                                                                          have k8 : ∀ n j, g12_ 8 n j = f 8 n j := fun n j => hR12_0 _ _ _ (by omega)
                                                                                          have k9 : ∀ n j, g12_ 9 n j = f 9 n j := fun n j => hR12_0 _ _ _ (by omega)
                                                                                          have k10 : ∀ n j, g12_ 10 n j = f 10 n j := fun n j => hR12_0 _ _ _ (by omega)
                                                                                          have k6 : ∀ n j, g12_ 6 n j = f 6 n j := fun n j => hR12_0 _ _ _ (by omega)
                                                                                          rw [qm24, zup_ne _ _ (by omega), qm15, zup_same, q14, q10, hR12_1, hn, zbf]
                                                                                          congr 1
                                                                                          have ha := hp11_0
                                                                                          rw [hx] at ha
                                                                                          have hz := zcx_k (d := a12_2.toInt.toNat) k11 k8 k9 k10
                                                                                          rw [if_neg (fun h => zbo_n ha (by omega) (hz.mpr h.1))]) (by
                                                                                          have hn : (v25).toInt.toNat = a12_2.toInt.toNat + 1 := by omega
                                                                                          have hi : a12_2 = nI a12_2.toInt.toNat := (nI_ofI (by omega)).1
                                                                                          have hx : m8 = a12_2.toInt.toNat := by omega
                                                                                          have k11 : ∀ j, j < 8 → g12_ 11 m1 j = f 11 m1 j := fun j hj => hR12_0 _ _ _ (by omega)
                                                                                          have k8 : ∀ n j, g12_ 8 n j = f 8 n j := fun n j => hR12_0 _ _ _ (by omega)
                                                                                          have k9 : ∀ n j, g12_ 9 n j = f 9 n j := fun n j => hR12_0 _ _ _ (by omega)
                                                                                          have k10 : ∀ n j, g12_ 10 n j = f 10 n j := fun n j => hR12_0 _ _ _ (by omega)
                                                                                          have k6 : ∀ n j, g12_ 6 n j = f 6 n j := fun n j => hR12_0 _ _ _ (by omega)
                                                                                          have g0 : ∀ a b c, ¬ (a = 11 ∧ b = m1 ∧ c = 8) → g15 a b c = g12_ a b c := fun a b c h => by rw [qm15]; exact zup_ne _ _ h
                                                                                          rw [qm24, zup_same, q23, q17, g0 11 m1 9 (by omega), hR12_2, hn, zbf]
                                                                                          congr 1
                                                                                          have r67 := q19
                                                                                          rw [g0 11 m1 2 (by omega), k11 2 (by decide)] at r67
                                                                                          have ha := hp20_0
                                                                                          rw [hx, r67, g0 8 _ 7 (by omega), k8] at ha
                                                                                          rw [if_neg (zbo_n ha (by omega))]) (by omega) (by omega) (by omega)
          · skip
            have b26x : zB v20 1 1 := by have q1 := b20x; have q2 := (zB.of (x := 0) 0 (by decide)); simp only [z32lt, z32le, z32eq, Int32.reduceToInt, Int32.toInt_zero] at h73_20; constructor <;> omega
            refine z_iconst (pc := 76) (v := 1) C dX8_weigh_76 (by decide) ?_
            refine z_iload_n (pc := 77) C dX8_weigh_77 rfl ?_
            refine z_ishl (pc := 78) C dX8_weigh_78 ?_
            refine w_gp (fun v => v = (1 : Int32) <<< (a12_2 &&& 31)) rfl (fun v27 q27 => ?_)
            have b27x : zB v27 0 128 := by rw [q27]; exact (zshl_b b5x 7 (by decide) (by decide))
            refine z_goto (pc := 79) 83 C dX8_weigh_79 (by decide) ?_
            refine z_ior (pc := 83) C dX8_weigh_83 ?_
            refine w_gp (fun v => v = v17 ||| v27) rfl (fun v28 q28 => ?_)
            have b28x : zB v28 0 255 := by rw [q28]; exact (zor_b 8 b17x b27x (by decide) (by decide) (by decide) (by decide) (by decide))
            refine z_putI (pc := 84) C zf_X8_140 zp_4_9 rfl rfl h1 dX8_weigh_84 ?_
            refine w_memx hI15 hF15 b28x rfl (fun g29 qm29 hI29 hF29 hq29 hx29 => ?_)
            have ek29_1_0_6 : (g29 1 0 6).toInt = (g15 1 0 6).toInt := by rw [hq29 1 0 6 (by omega)]
            have c29_1_0_6x : zB (g29 1 0 6) 1 8 := by rw [hq29 1 0 6 (by omega)]; exact c15_1_0_6x
            refine z_iinc (pc := 87) (v := 1) C dX8_weigh_87 rfl (by decide) (by rw [hn]; decide) rfl ?_
            obtain ⟨v30, hv30, e30⟩ : ∃ v : Int32, v = a12_2 + 1 ∧ v.toInt = a12_2.toInt + 1 := ⟨_, rfl, zadd_eb b5x (zB.of (x := 1) 1 (by decide)) (by decide) (by decide)⟩
            rw [← hv30]
            have b30x : zB v30 1 8 := by have q9 := b5x; constructor <;> omega
            refine z_goto (pc := 90) 12 C dX8_weigh_90 (by decide) ?_
            refine w_mask [3] ?_
            exact ih0 v30 (zB.wk (a' := 0) (b' := 8) b30x (by decide) (by decide)) g29 hI29 hF29 (zB.wk c29_1_0_6x (by decide) (by decide)) (by intro a b c h; rw [qm29, zup_ne _ _ (by omega), qm15, zup_ne _ _ (by omega)]; exact hR12_0 a b c h) (by
                                                                                          have hn : (v30).toInt.toNat = a12_2.toInt.toNat + 1 := by omega
                                                                                          have hi : a12_2 = nI a12_2.toInt.toNat := (nI_ofI (by omega)).1
                                                                                          have hx : m8 = a12_2.toInt.toNat := by omega
                                                                                          have k11 : ∀ j, j < 8 → g12_ 11 m1 j = f 11 m1 j := fun j hj => hR12_0 _ _ _ (by omega)
                                                                                          have k8 : ∀ n j, g12_ 8 n j = f 8 n j := fun n j => hR12_0 _ _ _ (by omega)
                                                                                          have k9 : ∀ n j, g12_ 9 n j = f 9 n j := fun n j => hR12_0 _ _ _ (by omega)
                                                                                          have k10 : ∀ n j, g12_ 10 n j = f 10 n j := fun n j => hR12_0 _ _ _ (by omega)
                                                                                          have k6 : ∀ n j, g12_ 6 n j = f 6 n j := fun n j => hR12_0 _ _ _ (by omega)
                                                                                          rw [qm29, zup_ne _ _ (by omega), qm15, zup_same, q14, q10, hR12_1, hn, zbf]
                                                                                          congr 1
                                                                                          have ha := hp11_0
                                                                                          rw [hx] at ha
                                                                                          have hz := zcx_k (d := a12_2.toInt.toNat) k11 k8 k9 k10
                                                                                          rw [if_neg (fun h => zbo_n ha (by omega) (hz.mpr h.1))]) (by
                                                                                          have hn : (v30).toInt.toNat = a12_2.toInt.toNat + 1 := by omega
                                                                                          have hi : a12_2 = nI a12_2.toInt.toNat := (nI_ofI (by omega)).1
                                                                                          have hx : m8 = a12_2.toInt.toNat := by omega
                                                                                          have k11 : ∀ j, j < 8 → g12_ 11 m1 j = f 11 m1 j := fun j hj => hR12_0 _ _ _ (by omega)
                                                                                          have k8 : ∀ n j, g12_ 8 n j = f 8 n j := fun n j => hR12_0 _ _ _ (by omega)
                                                                                          have k9 : ∀ n j, g12_ 9 n j = f 9 n j := fun n j => hR12_0 _ _ _ (by omega)
                                                                                          have k10 : ∀ n j, g12_ 10 n j = f 10 n j := fun n j => hR12_0 _ _ _ (by omega)
                                                                                          have k6 : ∀ n j, g12_ 6 n j = f 6 n j := fun n j => hR12_0 _ _ _ (by omega)
                                                                                          have g0 : ∀ a b c, ¬ (a = 11 ∧ b = m1 ∧ c = 8) → g15 a b c = g12_ a b c := fun a b c h => by rw [qm15]; exact zup_ne _ _ h
                                                                                          rw [qm29, zup_same, q28, q17, g0 11 m1 9 (by omega), hR12_2, hn, zbf]
                                                                                          congr 1
                                                                                          have r67 := q19
                                                                                          rw [g0 11 m1 2 (by omega), k11 2 (by decide)] at r67
                                                                                          have ha := hp20_0
                                                                                          rw [hx, r67, g0 8 _ 7 (by omega), k8] at ha
                                                                                          rw [if_pos (zbo_y ha (by omega)), ← hi]
                                                                                          first | exact q27 | rfl) (by omega) (by omega) (by omega)
        · skip
          have b31x : zB v11 1 1 := by have q1 := b11x; have q2 := (zB.of (x := 0) 0 (by decide)); simp only [z32lt, z32le, z32eq, Int32.reduceToInt, Int32.toInt_zero] at h37_11; constructor <;> omega
          refine z_aload_n (pc := 40) C dX8_weigh_40 rfl ?_
          refine z_aload_n (pc := 41) C dX8_weigh_41 rfl ?_
          refine z_aload_n (pc := 42) C dX8_weigh_42 rfl ?_
          refine z_callV (pc := 43) C zk_X8_143 (x_X8_barsAgainst _ _ m1 h1 m8 h8x hI12_) rfl rfl (by decide) rfl rfl (Nat.le_of_ble_eq_true rfl) dX8_weigh_43 (fun r32 g32 q32 => ?_)
          obtain ⟨⟨v32, rfl, b32x⟩, hI32, hF32q, hp32_0⟩ := q32
          have hp32_0 := hp32_0 _ rfl
          obtain rfl := zFr_nil hF32q
          simp only [Option.toList, List.cons_append, List.nil_append]
          refine z_if_ne (pc := 46) 55 C dX8_weigh_46 (by decide) (fun h46_32 => ?_) (fun h46_32 => ?_)
          · skip
            have b34x : zB v32 1 63 := by have q1 := b32x; have q2 := (zB.of (x := 0) 0 (by decide)); simp only [z32lt, z32le, z32eq, Int32.reduceToInt, Int32.toInt_zero] at h46_32; constructor <;> omega
            refine z_iconst (pc := 55) (v := 0) C dX8_weigh_55 (by decide) ?_
            refine z_ior (pc := 56) C dX8_weigh_56 ?_
            refine w_gp (fun v => v = v10 ||| (0 : Int32)) rfl (fun v35 q35 => ?_)
            have b35x : zB v35 0 255 := by rw [q35]; exact (zor_b 8 b10x (zB.of (x := 0) 0 (by decide)) (by decide) (by decide) (by decide) (by decide) (by decide))
            refine z_putI (pc := 57) C zf_X8_137 zp_4_8 rfl rfl h1 dX8_weigh_57 ?_
            refine w_memx hI12_ hF12_ b35x rfl (fun g36 qm36 hI36 hF36 hq36 hx36 => ?_)
            have ek36_1_0_6 : (g36 1 0 6).toInt = (g12_ 1 0 6).toInt := by rw [hq36 1 0 6 (by omega)]
            have c36_1_0_6x : zB (g36 1 0 6) 1 8 := by rw [hq36 1 0 6 (by omega)]; exact c7x
            refine z_aload_n (pc := 60) C dX8_weigh_60 rfl ?_
            refine z_dupr (pc := 61) C dX8_weigh_61 ?_
            refine z_getI (pc := 62) C zf_X8_140 rfl rfl h1 dX8_weigh_62 ?_
            refine w_gp (fun v => v = g36 11 m1 9) rfl (fun v38 q38 => ?_)
            have b38x : zB v38 0 255 := by rw [q38]; exact (hI36 11 m1 9)
            refine z_aload_n (pc := 65) C dX8_weigh_65 rfl ?_
            refine z_aload_n (pc := 66) C dX8_weigh_66 rfl ?_
            refine z_getI (pc := 67) C zf_X8_117 rfl rfl h1 dX8_weigh_67 ?_
            refine w_gp (fun v => v = g36 11 m1 2) rfl (fun v40 q40 => ?_)
            have b40x : zB v40 0 5 := by rw [q40]; exact (hI36 11 m1 2)
            refine z_callV (pc := 70) C zk_X8_120 (x_X1_isDeadly _ _ m8 h8x v40 b40x hI36) rfl rfl h8x rfl rfl (Nat.le_of_ble_eq_true rfl) dX8_weigh_70 (fun r41 g41 q41 => ?_)
            obtain ⟨⟨v41, rfl, b41x⟩, hI41, hF41q, hp41_0⟩ := q41
            have hp41_0 := hp41_0 _ rfl
            obtain rfl := zFr_nil hF41q
            simp only [Option.toList, List.cons_append, List.nil_append]
            refine z_if_eq (pc := 73) 82 C dX8_weigh_73 (by decide) (fun h73_41 => ?_) (fun h73_41 => ?_)
            · skip
              have b43x : zB v41 0 0 := by have q1 := b41x; have q2 := (zB.of (x := 0) 0 (by decide)); simp only [z32lt, z32le, z32eq, Int32.reduceToInt, Int32.toInt_zero] at h73_41; constructor <;> omega
              refine z_iconst (pc := 82) (v := 0) C dX8_weigh_82 (by decide) ?_
              refine z_ior (pc := 83) C dX8_weigh_83 ?_
              refine w_gp (fun v => v = v38 ||| (0 : Int32)) rfl (fun v44 q44 => ?_)
              have b44x : zB v44 0 255 := by rw [q44]; exact (zor_b 8 b38x (zB.of (x := 0) 0 (by decide)) (by decide) (by decide) (by decide) (by decide) (by decide))
              refine z_putI (pc := 84) C zf_X8_140 zp_4_9 rfl rfl h1 dX8_weigh_84 ?_
              refine w_memx hI36 hF36 b44x rfl (fun g45 qm45 hI45 hF45 hq45 hx45 => ?_)
              have ek45_1_0_6 : (g45 1 0 6).toInt = (g36 1 0 6).toInt := by rw [hq45 1 0 6 (by omega)]
              have c45_1_0_6x : zB (g45 1 0 6) 1 8 := by rw [hq45 1 0 6 (by omega)]; exact c36_1_0_6x
              refine z_iinc (pc := 87) (v := 1) C dX8_weigh_87 rfl (by decide) (by rw [hn]; decide) rfl ?_
              obtain ⟨v46, hv46, e46⟩ : ∃ v : Int32, v = a12_2 + 1 ∧ v.toInt = a12_2.toInt + 1 := ⟨_, rfl, zadd_eb b5x (zB.of (x := 1) 1 (by decide)) (by decide) (by decide)⟩
              rw [← hv46]
              have b46x : zB v46 1 8 := by have q9 := b5x; constructor <;> omega
              refine z_goto (pc := 90) 12 C dX8_weigh_90 (by decide) ?_
              refine w_mask [3] ?_
              exact ih0 v46 (zB.wk (a' := 0) (b' := 8) b46x (by decide) (by decide)) g45 hI45 hF45 (zB.wk c45_1_0_6x (by decide) (by decide)) (by intro a b c h; rw [qm45, zup_ne _ _ (by omega), qm36, zup_ne _ _ (by omega)]; exact hR12_0 a b c h) (by
                                                                                          have hn : (v46).toInt.toNat = a12_2.toInt.toNat + 1 := by omega
                                                                                          have hi : a12_2 = nI a12_2.toInt.toNat := (nI_ofI (by omega)).1
                                                                                          have hx : m8 = a12_2.toInt.toNat := by omega
                                                                                          have k11 : ∀ j, j < 8 → g12_ 11 m1 j = f 11 m1 j := fun j hj => hR12_0 _ _ _ (by omega)
                                                                                          have k8 : ∀ n j, g12_ 8 n j = f 8 n j := fun n j => hR12_0 _ _ _ (by omega)
                                                                                          have k9 : ∀ n j, g12_ 9 n j = f 9 n j := fun n j => hR12_0 _ _ _ (by omega)
                                                                                          have k10 : ∀ n j, g12_ 10 n j = f 10 n j := fun n j => hR12_0 _ _ _ (by omega)
                                                                                          have k6 : ∀ n j, g12_ 6 n j = f 6 n j := fun n j => hR12_0 _ _ _ (by omega)
                                                                                          rw [qm45, zup_ne _ _ (by omega), qm36, zup_same, q35, q10, hR12_1, hn, zbf]
                                                                                          congr 1
                                                                                          have ha := hp11_0
                                                                                          rw [hx] at ha
                                                                                          have hz := zcx_k (d := a12_2.toInt.toNat) k11 k8 k9 k10
                                                                                          have hb := hp32_0
                                                                                          rw [hx, zbx_k k11 k8 k6] at hb
                                                                                          rw [if_neg (fun h => absurd (hb.trans h.2) (by assumption))]) (by
                                                                                          have hn : (v46).toInt.toNat = a12_2.toInt.toNat + 1 := by omega
                                                                                          have hi : a12_2 = nI a12_2.toInt.toNat := (nI_ofI (by omega)).1
                                                                                          have hx : m8 = a12_2.toInt.toNat := by omega
                                                                                          have k11 : ∀ j, j < 8 → g12_ 11 m1 j = f 11 m1 j := fun j hj => hR12_0 _ _ _ (by omega)
                                                                                          have k8 : ∀ n j, g12_ 8 n j = f 8 n j := fun n j => hR12_0 _ _ _ (by omega)
                                                                                          have k9 : ∀ n j, g12_ 9 n j = f 9 n j := fun n j => hR12_0 _ _ _ (by omega)
                                                                                          have k10 : ∀ n j, g12_ 10 n j = f 10 n j := fun n j => hR12_0 _ _ _ (by omega)
                                                                                          have k6 : ∀ n j, g12_ 6 n j = f 6 n j := fun n j => hR12_0 _ _ _ (by omega)
                                                                                          have g0 : ∀ a b c, ¬ (a = 11 ∧ b = m1 ∧ c = 8) → g36 a b c = g12_ a b c := fun a b c h => by rw [qm36]; exact zup_ne _ _ h
                                                                                          rw [qm45, zup_same, q44, q38, g0 11 m1 9 (by omega), hR12_2, hn, zbf]
                                                                                          congr 1
                                                                                          have r67 := q40
                                                                                          rw [g0 11 m1 2 (by omega), k11 2 (by decide)] at r67
                                                                                          have ha := hp41_0
                                                                                          rw [hx, r67, g0 8 _ 7 (by omega), k8] at ha
                                                                                          rw [if_neg (zbo_n ha (by omega))]) (by omega) (by omega) (by omega)
            · skip
              have b47x : zB v41 1 1 := by have q1 := b41x; have q2 := (zB.of (x := 0) 0 (by decide)); simp only [z32lt, z32le, z32eq, Int32.reduceToInt, Int32.toInt_zero] at h73_41; constructor <;> omega
              refine z_iconst (pc := 76) (v := 1) C dX8_weigh_76 (by decide) ?_
              refine z_iload_n (pc := 77) C dX8_weigh_77 rfl ?_
              refine z_ishl (pc := 78) C dX8_weigh_78 ?_
              refine w_gp (fun v => v = (1 : Int32) <<< (a12_2 &&& 31)) rfl (fun v48 q48 => ?_)
              have b48x : zB v48 0 128 := by rw [q48]; exact (zshl_b b5x 7 (by decide) (by decide))
              refine z_goto (pc := 79) 83 C dX8_weigh_79 (by decide) ?_
              refine z_ior (pc := 83) C dX8_weigh_83 ?_
              refine w_gp (fun v => v = v38 ||| v48) rfl (fun v49 q49 => ?_)
              have b49x : zB v49 0 255 := by rw [q49]; exact (zor_b 8 b38x b48x (by decide) (by decide) (by decide) (by decide) (by decide))
              refine z_putI (pc := 84) C zf_X8_140 zp_4_9 rfl rfl h1 dX8_weigh_84 ?_
              refine w_memx hI36 hF36 b49x rfl (fun g50 qm50 hI50 hF50 hq50 hx50 => ?_)
              have ek50_1_0_6 : (g50 1 0 6).toInt = (g36 1 0 6).toInt := by rw [hq50 1 0 6 (by omega)]
              have c50_1_0_6x : zB (g50 1 0 6) 1 8 := by rw [hq50 1 0 6 (by omega)]; exact c36_1_0_6x
              refine z_iinc (pc := 87) (v := 1) C dX8_weigh_87 rfl (by decide) (by rw [hn]; decide) rfl ?_
              obtain ⟨v51, hv51, e51⟩ : ∃ v : Int32, v = a12_2 + 1 ∧ v.toInt = a12_2.toInt + 1 := ⟨_, rfl, zadd_eb b5x (zB.of (x := 1) 1 (by decide)) (by decide) (by decide)⟩
              rw [← hv51]
              have b51x : zB v51 1 8 := by have q9 := b5x; constructor <;> omega
              refine z_goto (pc := 90) 12 C dX8_weigh_90 (by decide) ?_
              refine w_mask [3] ?_
              exact ih0 v51 (zB.wk (a' := 0) (b' := 8) b51x (by decide) (by decide)) g50 hI50 hF50 (zB.wk c50_1_0_6x (by decide) (by decide)) (by intro a b c h; rw [qm50, zup_ne _ _ (by omega), qm36, zup_ne _ _ (by omega)]; exact hR12_0 a b c h) (by
                                                                                          have hn : (v51).toInt.toNat = a12_2.toInt.toNat + 1 := by omega
                                                                                          have hi : a12_2 = nI a12_2.toInt.toNat := (nI_ofI (by omega)).1
                                                                                          have hx : m8 = a12_2.toInt.toNat := by omega
                                                                                          have k11 : ∀ j, j < 8 → g12_ 11 m1 j = f 11 m1 j := fun j hj => hR12_0 _ _ _ (by omega)
                                                                                          have k8 : ∀ n j, g12_ 8 n j = f 8 n j := fun n j => hR12_0 _ _ _ (by omega)
                                                                                          have k9 : ∀ n j, g12_ 9 n j = f 9 n j := fun n j => hR12_0 _ _ _ (by omega)
                                                                                          have k10 : ∀ n j, g12_ 10 n j = f 10 n j := fun n j => hR12_0 _ _ _ (by omega)
                                                                                          have k6 : ∀ n j, g12_ 6 n j = f 6 n j := fun n j => hR12_0 _ _ _ (by omega)
                                                                                          rw [qm50, zup_ne _ _ (by omega), qm36, zup_same, q35, q10, hR12_1, hn, zbf]
                                                                                          congr 1
                                                                                          have ha := hp11_0
                                                                                          rw [hx] at ha
                                                                                          have hz := zcx_k (d := a12_2.toInt.toNat) k11 k8 k9 k10
                                                                                          have hb := hp32_0
                                                                                          rw [hx, zbx_k k11 k8 k6] at hb
                                                                                          rw [if_neg (fun h => absurd (hb.trans h.2) (by assumption))]) (by
                                                                                          have hn : (v51).toInt.toNat = a12_2.toInt.toNat + 1 := by omega
                                                                                          have hi : a12_2 = nI a12_2.toInt.toNat := (nI_ofI (by omega)).1
                                                                                          have hx : m8 = a12_2.toInt.toNat := by omega
                                                                                          have k11 : ∀ j, j < 8 → g12_ 11 m1 j = f 11 m1 j := fun j hj => hR12_0 _ _ _ (by omega)
                                                                                          have k8 : ∀ n j, g12_ 8 n j = f 8 n j := fun n j => hR12_0 _ _ _ (by omega)
                                                                                          have k9 : ∀ n j, g12_ 9 n j = f 9 n j := fun n j => hR12_0 _ _ _ (by omega)
                                                                                          have k10 : ∀ n j, g12_ 10 n j = f 10 n j := fun n j => hR12_0 _ _ _ (by omega)
                                                                                          have k6 : ∀ n j, g12_ 6 n j = f 6 n j := fun n j => hR12_0 _ _ _ (by omega)
                                                                                          have g0 : ∀ a b c, ¬ (a = 11 ∧ b = m1 ∧ c = 8) → g36 a b c = g12_ a b c := fun a b c h => by rw [qm36]; exact zup_ne _ _ h
                                                                                          rw [qm50, zup_same, q49, q38, g0 11 m1 9 (by omega), hR12_2, hn, zbf]
                                                                                          congr 1
                                                                                          have r67 := q40
                                                                                          rw [g0 11 m1 2 (by omega), k11 2 (by decide)] at r67
                                                                                          have ha := hp41_0
                                                                                          rw [hx, r67, g0 8 _ 7 (by omega), k8] at ha
                                                                                          rw [if_pos (zbo_y ha (by omega)), ← hi]
                                                                                          first | exact q48 | rfl) (by omega) (by omega) (by omega)
          · skip
            have b52x : zB v32 0 0 := by have q1 := b32x; have q2 := (zB.of (x := 0) 0 (by decide)); simp only [z32lt, z32le, z32eq, Int32.reduceToInt, Int32.toInt_zero] at h46_32; constructor <;> omega
            refine z_iconst (pc := 49) (v := 1) C dX8_weigh_49 (by decide) ?_
            refine z_iload_n (pc := 50) C dX8_weigh_50 rfl ?_
            refine z_ishl (pc := 51) C dX8_weigh_51 ?_
            refine w_gp (fun v => v = (1 : Int32) <<< (a12_2 &&& 31)) rfl (fun v53 q53 => ?_)
            have b53x : zB v53 0 128 := by rw [q53]; exact (zshl_b b5x 7 (by decide) (by decide))
            refine z_goto (pc := 52) 56 C dX8_weigh_52 (by decide) ?_
            refine z_ior (pc := 56) C dX8_weigh_56 ?_
            refine w_gp (fun v => v = v10 ||| v53) rfl (fun v54 q54 => ?_)
            have b54x : zB v54 0 255 := by rw [q54]; exact (zor_b 8 b10x b53x (by decide) (by decide) (by decide) (by decide) (by decide))
            refine z_putI (pc := 57) C zf_X8_137 zp_4_8 rfl rfl h1 dX8_weigh_57 ?_
            refine w_memx hI12_ hF12_ b54x rfl (fun g55 qm55 hI55 hF55 hq55 hx55 => ?_)
            have ek55_1_0_6 : (g55 1 0 6).toInt = (g12_ 1 0 6).toInt := by rw [hq55 1 0 6 (by omega)]
            have c55_1_0_6x : zB (g55 1 0 6) 1 8 := by rw [hq55 1 0 6 (by omega)]; exact c7x
            refine z_aload_n (pc := 60) C dX8_weigh_60 rfl ?_
            refine z_dupr (pc := 61) C dX8_weigh_61 ?_
            refine z_getI (pc := 62) C zf_X8_140 rfl rfl h1 dX8_weigh_62 ?_
            refine w_gp (fun v => v = g55 11 m1 9) rfl (fun v57 q57 => ?_)
            have b57x : zB v57 0 255 := by rw [q57]; exact (hI55 11 m1 9)
            refine z_aload_n (pc := 65) C dX8_weigh_65 rfl ?_
            refine z_aload_n (pc := 66) C dX8_weigh_66 rfl ?_
            refine z_getI (pc := 67) C zf_X8_117 rfl rfl h1 dX8_weigh_67 ?_
            refine w_gp (fun v => v = g55 11 m1 2) rfl (fun v59 q59 => ?_)
            have b59x : zB v59 0 5 := by rw [q59]; exact (hI55 11 m1 2)
            refine z_callV (pc := 70) C zk_X8_120 (x_X1_isDeadly _ _ m8 h8x v59 b59x hI55) rfl rfl h8x rfl rfl (Nat.le_of_ble_eq_true rfl) dX8_weigh_70 (fun r60 g60 q60 => ?_)
            obtain ⟨⟨v60, rfl, b60x⟩, hI60, hF60q, hp60_0⟩ := q60
            have hp60_0 := hp60_0 _ rfl
            obtain rfl := zFr_nil hF60q
            simp only [Option.toList, List.cons_append, List.nil_append]
            refine z_if_eq (pc := 73) 82 C dX8_weigh_73 (by decide) (fun h73_60 => ?_) (fun h73_60 => ?_)
            · skip
              have b62x : zB v60 0 0 := by have q1 := b60x; have q2 := (zB.of (x := 0) 0 (by decide)); simp only [z32lt, z32le, z32eq, Int32.reduceToInt, Int32.toInt_zero] at h73_60; constructor <;> omega
              refine z_iconst (pc := 82) (v := 0) C dX8_weigh_82 (by decide) ?_
              refine z_ior (pc := 83) C dX8_weigh_83 ?_
              refine w_gp (fun v => v = v57 ||| (0 : Int32)) rfl (fun v63 q63 => ?_)
              have b63x : zB v63 0 255 := by rw [q63]; exact (zor_b 8 b57x (zB.of (x := 0) 0 (by decide)) (by decide) (by decide) (by decide) (by decide) (by decide))
              refine z_putI (pc := 84) C zf_X8_140 zp_4_9 rfl rfl h1 dX8_weigh_84 ?_
              refine w_memx hI55 hF55 b63x rfl (fun g64 qm64 hI64 hF64 hq64 hx64 => ?_)
              have ek64_1_0_6 : (g64 1 0 6).toInt = (g55 1 0 6).toInt := by rw [hq64 1 0 6 (by omega)]
              have c64_1_0_6x : zB (g64 1 0 6) 1 8 := by rw [hq64 1 0 6 (by omega)]; exact c55_1_0_6x
              refine z_iinc (pc := 87) (v := 1) C dX8_weigh_87 rfl (by decide) (by rw [hn]; decide) rfl ?_
              obtain ⟨v65, hv65, e65⟩ : ∃ v : Int32, v = a12_2 + 1 ∧ v.toInt = a12_2.toInt + 1 := ⟨_, rfl, zadd_eb b5x (zB.of (x := 1) 1 (by decide)) (by decide) (by decide)⟩
              rw [← hv65]
              have b65x : zB v65 1 8 := by have q9 := b5x; constructor <;> omega
              refine z_goto (pc := 90) 12 C dX8_weigh_90 (by decide) ?_
              refine w_mask [3] ?_
              exact ih0 v65 (zB.wk (a' := 0) (b' := 8) b65x (by decide) (by decide)) g64 hI64 hF64 (zB.wk c64_1_0_6x (by decide) (by decide)) (by intro a b c h; rw [qm64, zup_ne _ _ (by omega), qm55, zup_ne _ _ (by omega)]; exact hR12_0 a b c h) (by
                                                                                          have hn : (v65).toInt.toNat = a12_2.toInt.toNat + 1 := by omega
                                                                                          have hi : a12_2 = nI a12_2.toInt.toNat := (nI_ofI (by omega)).1
                                                                                          have hx : m8 = a12_2.toInt.toNat := by omega
                                                                                          have k11 : ∀ j, j < 8 → g12_ 11 m1 j = f 11 m1 j := fun j hj => hR12_0 _ _ _ (by omega)
                                                                                          have k8 : ∀ n j, g12_ 8 n j = f 8 n j := fun n j => hR12_0 _ _ _ (by omega)
                                                                                          have k9 : ∀ n j, g12_ 9 n j = f 9 n j := fun n j => hR12_0 _ _ _ (by omega)
                                                                                          have k10 : ∀ n j, g12_ 10 n j = f 10 n j := fun n j => hR12_0 _ _ _ (by omega)
                                                                                          have k6 : ∀ n j, g12_ 6 n j = f 6 n j := fun n j => hR12_0 _ _ _ (by omega)
                                                                                          rw [qm64, zup_ne _ _ (by omega), qm55, zup_same, q54, q10, hR12_1, hn, zbf]
                                                                                          congr 1
                                                                                          have ha := hp11_0
                                                                                          rw [hx] at ha
                                                                                          have hz := zcx_k (d := a12_2.toInt.toNat) k11 k8 k9 k10
                                                                                          have hb := hp32_0
                                                                                          rw [hx, zbx_k k11 k8 k6] at hb
                                                                                          rw [if_pos ⟨hz.mp (zbo_y ha (by omega)), by rw [← hb]; assumption⟩, ← hi]
                                                                                          first | exact q53 | rfl) (by
                                                                                          have hn : (v65).toInt.toNat = a12_2.toInt.toNat + 1 := by omega
                                                                                          have hi : a12_2 = nI a12_2.toInt.toNat := (nI_ofI (by omega)).1
                                                                                          have hx : m8 = a12_2.toInt.toNat := by omega
                                                                                          have k11 : ∀ j, j < 8 → g12_ 11 m1 j = f 11 m1 j := fun j hj => hR12_0 _ _ _ (by omega)
                                                                                          have k8 : ∀ n j, g12_ 8 n j = f 8 n j := fun n j => hR12_0 _ _ _ (by omega)
                                                                                          have k9 : ∀ n j, g12_ 9 n j = f 9 n j := fun n j => hR12_0 _ _ _ (by omega)
                                                                                          have k10 : ∀ n j, g12_ 10 n j = f 10 n j := fun n j => hR12_0 _ _ _ (by omega)
                                                                                          have k6 : ∀ n j, g12_ 6 n j = f 6 n j := fun n j => hR12_0 _ _ _ (by omega)
                                                                                          have g0 : ∀ a b c, ¬ (a = 11 ∧ b = m1 ∧ c = 8) → g55 a b c = g12_ a b c := fun a b c h => by rw [qm55]; exact zup_ne _ _ h
                                                                                          rw [qm64, zup_same, q63, q57, g0 11 m1 9 (by omega), hR12_2, hn, zbf]
                                                                                          congr 1
                                                                                          have r67 := q59
                                                                                          rw [g0 11 m1 2 (by omega), k11 2 (by decide)] at r67
                                                                                          have ha := hp60_0
                                                                                          rw [hx, r67, g0 8 _ 7 (by omega), k8] at ha
                                                                                          rw [if_neg (zbo_n ha (by omega))]) (by omega) (by omega) (by omega)
            · skip
              have b66x : zB v60 1 1 := by have q1 := b60x; have q2 := (zB.of (x := 0) 0 (by decide)); simp only [z32lt, z32le, z32eq, Int32.reduceToInt, Int32.toInt_zero] at h73_60; constructor <;> omega
              refine z_iconst (pc := 76) (v := 1) C dX8_weigh_76 (by decide) ?_
              refine z_iload_n (pc := 77) C dX8_weigh_77 rfl ?_
              refine z_ishl (pc := 78) C dX8_weigh_78 ?_
              refine w_gp (fun v => v = (1 : Int32) <<< (a12_2 &&& 31)) rfl (fun v67 q67 => ?_)
              have b67x : zB v67 0 128 := by rw [q67]; exact (zshl_b b5x 7 (by decide) (by decide))
              refine z_goto (pc := 79) 83 C dX8_weigh_79 (by decide) ?_
              refine z_ior (pc := 83) C dX8_weigh_83 ?_
              refine w_gp (fun v => v = v57 ||| v67) rfl (fun v68 q68 => ?_)
              have b68x : zB v68 0 255 := by rw [q68]; exact (zor_b 8 b57x b67x (by decide) (by decide) (by decide) (by decide) (by decide))
              refine z_putI (pc := 84) C zf_X8_140 zp_4_9 rfl rfl h1 dX8_weigh_84 ?_
              refine w_memx hI55 hF55 b68x rfl (fun g69 qm69 hI69 hF69 hq69 hx69 => ?_)
              have ek69_1_0_6 : (g69 1 0 6).toInt = (g55 1 0 6).toInt := by rw [hq69 1 0 6 (by omega)]
              have c69_1_0_6x : zB (g69 1 0 6) 1 8 := by rw [hq69 1 0 6 (by omega)]; exact c55_1_0_6x
              refine z_iinc (pc := 87) (v := 1) C dX8_weigh_87 rfl (by decide) (by rw [hn]; decide) rfl ?_
              obtain ⟨v70, hv70, e70⟩ : ∃ v : Int32, v = a12_2 + 1 ∧ v.toInt = a12_2.toInt + 1 := ⟨_, rfl, zadd_eb b5x (zB.of (x := 1) 1 (by decide)) (by decide) (by decide)⟩
              rw [← hv70]
              have b70x : zB v70 1 8 := by have q9 := b5x; constructor <;> omega
              refine z_goto (pc := 90) 12 C dX8_weigh_90 (by decide) ?_
              refine w_mask [3] ?_
              exact ih0 v70 (zB.wk (a' := 0) (b' := 8) b70x (by decide) (by decide)) g69 hI69 hF69 (zB.wk c69_1_0_6x (by decide) (by decide)) (by intro a b c h; rw [qm69, zup_ne _ _ (by omega), qm55, zup_ne _ _ (by omega)]; exact hR12_0 a b c h) (by
                                                                                          have hn : (v70).toInt.toNat = a12_2.toInt.toNat + 1 := by omega
                                                                                          have hi : a12_2 = nI a12_2.toInt.toNat := (nI_ofI (by omega)).1
                                                                                          have hx : m8 = a12_2.toInt.toNat := by omega
                                                                                          have k11 : ∀ j, j < 8 → g12_ 11 m1 j = f 11 m1 j := fun j hj => hR12_0 _ _ _ (by omega)
                                                                                          have k8 : ∀ n j, g12_ 8 n j = f 8 n j := fun n j => hR12_0 _ _ _ (by omega)
                                                                                          have k9 : ∀ n j, g12_ 9 n j = f 9 n j := fun n j => hR12_0 _ _ _ (by omega)
                                                                                          have k10 : ∀ n j, g12_ 10 n j = f 10 n j := fun n j => hR12_0 _ _ _ (by omega)
                                                                                          have k6 : ∀ n j, g12_ 6 n j = f 6 n j := fun n j => hR12_0 _ _ _ (by omega)
                                                                                          rw [qm69, zup_ne _ _ (by omega), qm55, zup_same, q54, q10, hR12_1, hn, zbf]
                                                                                          congr 1
                                                                                          have ha := hp11_0
                                                                                          rw [hx] at ha
                                                                                          have hz := zcx_k (d := a12_2.toInt.toNat) k11 k8 k9 k10
                                                                                          have hb := hp32_0
                                                                                          rw [hx, zbx_k k11 k8 k6] at hb
                                                                                          rw [if_pos ⟨hz.mp (zbo_y ha (by omega)), by rw [← hb]; assumption⟩, ← hi]
                                                                                          first | exact q53 | rfl) (by
                                                                                          have hn : (v70).toInt.toNat = a12_2.toInt.toNat + 1 := by omega
                                                                                          have hi : a12_2 = nI a12_2.toInt.toNat := (nI_ofI (by omega)).1
                                                                                          have hx : m8 = a12_2.toInt.toNat := by omega
                                                                                          have k11 : ∀ j, j < 8 → g12_ 11 m1 j = f 11 m1 j := fun j hj => hR12_0 _ _ _ (by omega)
                                                                                          have k8 : ∀ n j, g12_ 8 n j = f 8 n j := fun n j => hR12_0 _ _ _ (by omega)
                                                                                          have k9 : ∀ n j, g12_ 9 n j = f 9 n j := fun n j => hR12_0 _ _ _ (by omega)
                                                                                          have k10 : ∀ n j, g12_ 10 n j = f 10 n j := fun n j => hR12_0 _ _ _ (by omega)
                                                                                          have k6 : ∀ n j, g12_ 6 n j = f 6 n j := fun n j => hR12_0 _ _ _ (by omega)
                                                                                          have g0 : ∀ a b c, ¬ (a = 11 ∧ b = m1 ∧ c = 8) → g55 a b c = g12_ a b c := fun a b c h => by rw [qm55]; exact zup_ne _ _ h
                                                                                          rw [qm69, zup_same, q68, q57, g0 11 m1 9 (by omega), hR12_2, hn, zbf]
                                                                                          congr 1
                                                                                          have r67 := q59
                                                                                          rw [g0 11 m1 2 (by omega), k11 2 (by decide)] at r67
                                                                                          have ha := hp60_0
                                                                                          rw [hx, r67, g0 8 _ 7 (by omega), k8] at ha
                                                                                          rw [if_pos (zbo_y ha (by omega)), ← hi]
                                                                                          first | exact q67 | rfl) (by omega) (by omega) (by omega)
  have J0 := J 39
  show Z X 0 [some (zr 1 0), some (zr 11 m1), none, none] [] f
  refine z_aload_n (pc := 0) C dX8_weigh_0 rfl ?_
  refine z_iconst (pc := 1) (v := 0) C dX8_weigh_1 (by decide) ?_
  refine z_putI (pc := 2) C zf_X8_137 zp_4_8 rfl rfl h1 dX8_weigh_2 ?_
  refine w_memx hI hF (zB.wk (a' := 0) (b' := 255) (zB.of (x := 0) 0 (by decide)) (by decide) (by decide)) rfl (fun g71 qm71 hI71 hF71 hq71 hx71 => ?_)
  have ek71_1_0_6 : (g71 1 0 6).toInt = (f 1 0 6).toInt := by rw [hq71 1 0 6 (by omega)]
  have c71_1_0_6x : zB (g71 1 0 6) 0 8 := by rw [hq71 1 0 6 (by omega)]; exact ct1_0_6
  refine z_aload_n (pc := 5) C dX8_weigh_5 rfl ?_
  refine z_iconst (pc := 6) (v := 0) C dX8_weigh_6 (by decide) ?_
  refine z_putI (pc := 7) C zf_X8_140 zp_4_9 rfl rfl h1 dX8_weigh_7 ?_
  refine w_memx hI71 hF71 (zB.wk (a' := 0) (b' := 255) (zB.of (x := 0) 0 (by decide)) (by decide) (by decide)) rfl (fun g72 qm72 hI72 hF72 hq72 hx72 => ?_)
  have ek72_1_0_6 : (g72 1 0 6).toInt = (g71 1 0 6).toInt := by rw [hq72 1 0 6 (by omega)]
  have c72_1_0_6x : zB (g72 1 0 6) 0 8 := by rw [hq72 1 0 6 (by omega)]; exact c71_1_0_6x
  refine z_iconst (pc := 10) (v := 0) C dX8_weigh_10 (by decide) ?_
  refine z_istore_n (pc := 11) C dX8_weigh_11 (by rw [hn]; decide) rfl ?_
  exact J0 0 (zB.wk (a' := 0) (b' := 8) (zB.of (x := 0) 0 (by decide)) (by decide) (by decide)) g72 hI72 hF72 c72_1_0_6x (by intro a b c h; rw [qm72, zup_ne _ _ (by omega), qm71, zup_ne _ _ (by omega)]) (by
                                                                                          show g72 11 m1 8 = 0
                                                                                          rw [qm72, zup_ne _ _ (by omega), qm71, zup_same]) (by
                                                                                          show g72 11 m1 9 = 0
                                                                                          rw [qm72, zup_same]) (by have qc0 : (0 : Int32).toInt = 0 := (by decide); omega) (by have qc0 : (0 : Int32).toInt = 0 := (by decide); omega) (by have qc0 : (0 : Int32).toInt = 0 := (by decide); omega)

set_option maxRecDepth 100000 in
set_option maxHeartbeats 4000000 in
theorem x_X3_goesBy (d : Nat) (f : zM) (m0 : Nat) (h0 : m0 < zcnt 6) (m1 : Nat) (h1 : m1 < zcnt 11) (hI : zInv f) : ZM (d + 1) yX3_goesBy cX3_goesBy 3 (some .int) [zr 6 m0, zr 11 m1] f (fun r g => (∃ v, r = some (zi v) ∧ zB v 0 255) ∧ zInv g ∧ zFr [] f g ∧ (∀ v : Int32, r = some (zi v) → (¬ (f 11 m1 1 = f 6 m0 1 ∧ (f 6 m0 5 = -4 ∨ f 6 m0 5 = f 11 m1 2)) ∧ v = 0) ∨ ((f 11 m1 1 = f 6 m0 1 ∧ (f 6 m0 5 = -4 ∨ f 6 m0 5 = f 11 m1 2)) ∧ ¬ (¬ f 6 m0 4 = 0 ∧ f 11 m1 7 &&& 1 = 0) ∧ v = f 11 m1 8 &&& f 6 m0 6) ∨ ((f 11 m1 1 = f 6 m0 1 ∧ (f 6 m0 5 = -4 ∨ f 6 m0 5 = f 11 m1 2)) ∧ (¬ f 6 m0 4 = 0 ∧ f 11 m1 7 &&& 1 = 0) ∧ v = (f 11 m1 8 &&& f 6 m0 6) &&& (f 11 m1 9 ^^^ -1)))) := by
  refine ZM.intro (by decide +kernel) (Nat.le_of_ble_eq_true rfl) ?_
  intro X C hr hn
  have hF : zFr [] f f := zFr.rf _ _
  show Z X 0 [some (zr 6 m0), some (zr 11 m1), none] [] f
  refine z_aload_n (pc := 0) C dX3_goesBy_0 rfl ?_
  refine z_getI (pc := 1) C zf_X3_38 rfl rfl h1 dX3_goesBy_1 ?_
  refine w_gp (fun v => v = f 11 m1 1) rfl (fun v2 q2 => ?_)
  have b2x : zB v2 0 5 := by rw [q2]; exact (hI 11 m1 1)
  refine z_aload_n (pc := 4) C dX3_goesBy_4 rfl ?_
  refine z_getI (pc := 5) C zf_X3_18 rfl rfl h0 dX3_goesBy_5 ?_
  refine w_gp (fun v => v = f 6 m0 1) rfl (fun v4 q4 => ?_)
  have b4x : zB v4 0 5 := by rw [q4]; exact (hI 6 m0 1)
  refine z_icmp_ne (pc := 8) 31 C dX3_goesBy_8 (by decide) (fun h8_4 => ?_) (fun h8_4 => ?_)
  · skip
    refine z_iconst (pc := 31) (v := 0) C dX3_goesBy_31 (by decide) ?_
    exact z_iret (pc := 32) C hr dX3_goesBy_32 ⟨⟨_, rfl, (zB.wk (a' := 0) (b' := 255) (zB.of (x := 0) 0 (by decide)) (by decide) (by decide))⟩, hI, hF, (by
                                                                                          intro v hv; cases hv
                                                                                          have r1 := q2
                                                                                          have r5 := q4
                                                                                          exact Or.inl ⟨fun h => absurd (show v2 = v4 by rw [r1, r5]; exact h.1) (by assumption), rfl⟩)⟩
  · skip
    have rr6 : v2.toInt = v4.toInt := by simp only [z32lt, z32le, z32eq] at h8_4; omega
    refine z_aload_n (pc := 11) C dX3_goesBy_11 rfl ?_
    refine z_getI (pc := 12) C zf_X3_9 rfl rfl h0 dX3_goesBy_12 ?_
    refine w_gp (fun v => v = f 6 m0 5) rfl (fun v8 q8 => ?_)
    have b8x : zB v8 (-4) 5 := by rw [q8]; exact (hI 6 m0 5)
    refine z_bipush (pc := 15) (v := -4) C dX3_goesBy_15 (by decide) ?_
    refine z_icmp_eq (pc := 17) 33 C dX3_goesBy_17 (by decide) (fun h17_8 => ?_) (fun h17_8 => ?_)
    · skip
      have b10x : zB v8 (-4) (-4) := by have q1 := b8x; have q2 := (zB.of (x := (-4)) (-4) (by decide)); simp only [z32lt, z32le, z32eq, Int32.reduceToInt, Int32.toInt_zero] at h17_8; constructor <;> omega
      refine z_aload_n (pc := 33) C dX3_goesBy_33 rfl ?_
      refine z_getI (pc := 34) C zf_X3_46 rfl rfl h1 dX3_goesBy_34 ?_
      refine w_gp (fun v => v = f 11 m1 8) rfl (fun v12 q12 => ?_)
      have b12x : zB v12 0 255 := by rw [q12]; exact (hI 11 m1 8)
      refine z_aload_n (pc := 37) C dX3_goesBy_37 rfl ?_
      refine z_getI (pc := 38) C zf_X3_15 rfl rfl h0 dX3_goesBy_38 ?_
      refine w_gp (fun v => v = f 6 m0 6) rfl (fun v14 q14 => ?_)
      have b14x : zB v14 0 255 := by rw [q14]; exact (hI 6 m0 6)
      refine z_iand (pc := 41) C dX3_goesBy_41 ?_
      refine w_gp (fun v => v = v12 &&& v14) rfl (fun v15 q15 => ?_)
      have b15x : zB v15 0 255 := by rw [q15]; exact (zand_b b12x b14x (by decide))
      refine z_istore_n (pc := 42) C dX3_goesBy_42 (by rw [hn]; decide) rfl ?_
      refine z_aload_n (pc := 43) C dX3_goesBy_43 rfl ?_
      refine z_getI (pc := 44) C zf_X3_21 rfl rfl h0 dX3_goesBy_44 ?_
      refine w_gp (fun v => v = f 6 m0 4) rfl (fun v17 q17 => ?_)
      have b17x : zB v17 0 1 := by rw [q17]; exact (hI 6 m0 4)
      refine z_if_eq (pc := 47) 69 C dX3_goesBy_47 (by decide) (fun h47_17 => ?_) (fun h47_17 => ?_)
      · skip
        have b19x : zB v17 0 0 := by have q1 := b17x; have q2 := (zB.of (x := 0) 0 (by decide)); simp only [z32lt, z32le, z32eq, Int32.reduceToInt, Int32.toInt_zero] at h47_17; constructor <;> omega
        refine z_iload_n (pc := 69) C dX3_goesBy_69 rfl ?_
        exact z_iret (pc := 70) C hr dX3_goesBy_70 ⟨⟨_, rfl, b15x⟩, hI, hF, (by
                                                                                          intro v hv; cases hv
                                                                                          have r1 := q2
                                                                                          have r5 := q4
                                                                                          have r12 := q8
                                                                                          have hG : (f 11 m1 1 = f 6 m0 1 ∧ (f 6 m0 5 = -4 ∨ f 6 m0 5 = f 11 m1 2)) := ⟨(show f 11 m1 1 = f 6 m0 1 by rw [← r1, ← r5]; assumption), Or.inl (by rw [← r12]; assumption)⟩
                                                                                          have e41 : v15 = f 11 m1 8 &&& f 6 m0 6 := by rw [q15, q12, q14]
                                                                                          have r44 := q17
                                                                                          exact Or.inr (Or.inl ⟨hG, fun h => h.1 (by rw [← r44]; assumption), e41⟩))⟩
      · skip
        have b20x : zB v17 1 1 := by have q1 := b17x; have q2 := (zB.of (x := 0) 0 (by decide)); simp only [z32lt, z32le, z32eq, Int32.reduceToInt, Int32.toInt_zero] at h47_17; constructor <;> omega
        refine z_aload_n (pc := 50) C dX3_goesBy_50 rfl ?_
        refine z_iconst (pc := 51) (v := 1) C dX3_goesBy_51 (by decide) ?_
        refine z_callV (pc := 52) C zk_X3_49 (x_X4_pledges _ _ m1 h1 1 (zB.wk (a' := 0) (b' := 7) (zB.of (x := 1) 1 (by decide)) (by decide) (by decide)) hI) rfl rfl h1 rfl rfl (Nat.le_of_ble_eq_true rfl) dX3_goesBy_52 (fun r21 g21 q21 => ?_)
        have qa21_1 : (1 : Int32).toInt = 1 := by decide
        obtain ⟨⟨v21, rfl, b21x⟩, hI21, hF21q, hp21_0⟩ := q21
        have hp21_0 := hp21_0 _ rfl
        obtain rfl := zFr_nil hF21q
        simp only [Option.toList, List.cons_append, List.nil_append]
        refine z_if_ne (pc := 55) 69 C dX3_goesBy_55 (by decide) (fun h55_21 => ?_) (fun h55_21 => ?_)
        · skip
          have b23x : zB v21 1 1 := by have q1 := b21x; have q2 := (zB.of (x := 0) 0 (by decide)); simp only [z32lt, z32le, z32eq, Int32.reduceToInt, Int32.toInt_zero] at h55_21; constructor <;> omega
          refine z_iload_n (pc := 69) C dX3_goesBy_69 rfl ?_
          exact z_iret (pc := 70) C hr dX3_goesBy_70 ⟨⟨_, rfl, b15x⟩, hI, hF, (by
                                                                                          intro v hv; cases hv
                                                                                          have r1 := q2
                                                                                          have r5 := q4
                                                                                          have r12 := q8
                                                                                          have hG : (f 11 m1 1 = f 6 m0 1 ∧ (f 6 m0 5 = -4 ∨ f 6 m0 5 = f 11 m1 2)) := ⟨(show f 11 m1 1 = f 6 m0 1 by rw [← r1, ← r5]; assumption), Or.inl (by rw [← r12]; assumption)⟩
                                                                                          have e41 : v15 = f 11 m1 8 &&& f 6 m0 6 := by rw [q15, q12, q14]
                                                                                          have r44 := q17
                                                                                          have hp := hp21_0
                                                                                          exact Or.inr (Or.inl ⟨hG, fun h => zbo_y hp (by omega) h.2, e41⟩))⟩
        · skip
          have b24x : zB v21 0 0 := by have q1 := b21x; have q2 := (zB.of (x := 0) 0 (by decide)); simp only [z32lt, z32le, z32eq, Int32.reduceToInt, Int32.toInt_zero] at h55_21; constructor <;> omega
          refine z_iload_n (pc := 58) C dX3_goesBy_58 rfl ?_
          refine z_aload_n (pc := 59) C dX3_goesBy_59 rfl ?_
          refine z_getI (pc := 60) C zf_X3_53 rfl rfl h1 dX3_goesBy_60 ?_
          refine w_gp (fun v => v = f 11 m1 9) rfl (fun v26 q26 => ?_)
          have b26x : zB v26 0 255 := by rw [q26]; exact (hI 11 m1 9)
          refine z_iconst (pc := 63) (v := -1) C dX3_goesBy_63 (by decide) ?_
          refine z_ixor (pc := 64) C dX3_goesBy_64 ?_
          refine w_gp (fun v => v = v26 ^^^ ((-1) : Int32)) rfl (fun v27 q27 => ?_)
          refine z_iand (pc := 65) C dX3_goesBy_65 ?_
          refine w_gp (fun v => v = v15 &&& v27) rfl (fun v28 q28 => ?_)
          have b28x : zB v28 0 255 := by rw [q28]; exact (zand_bl b15x (zB_any v27) (by decide))
          refine z_goto (pc := 66) 70 C dX3_goesBy_66 (by decide) ?_
          exact z_iret (pc := 70) C hr dX3_goesBy_70 ⟨⟨_, rfl, b28x⟩, hI, hF, (by
                                                                                          intro v hv; cases hv
                                                                                          have r1 := q2
                                                                                          have r5 := q4
                                                                                          have r12 := q8
                                                                                          have hG : (f 11 m1 1 = f 6 m0 1 ∧ (f 6 m0 5 = -4 ∨ f 6 m0 5 = f 11 m1 2)) := ⟨(show f 11 m1 1 = f 6 m0 1 by rw [← r1, ← r5]; assumption), Or.inl (by rw [← r12]; assumption)⟩
                                                                                          have e41 : v15 = f 11 m1 8 &&& f 6 m0 6 := by rw [q15, q12, q14]
                                                                                          have r44 := q17
                                                                                          have hp := hp21_0
                                                                                          exact Or.inr (Or.inr ⟨hG, ⟨by rw [← r44]; assumption, Classical.byContradiction (zbo_n hp (by omega))⟩, by rw [q28, q27, q26, e41]⟩))⟩
    · skip
      have b29x : zB v8 (-3) 5 := by have q1 := b8x; have q2 := (zB.of (x := (-4)) (-4) (by decide)); simp only [z32lt, z32le, z32eq, Int32.reduceToInt, Int32.toInt_zero] at h17_8; constructor <;> omega
      refine z_aload_n (pc := 20) C dX3_goesBy_20 rfl ?_
      refine z_getI (pc := 21) C zf_X3_9 rfl rfl h0 dX3_goesBy_21 ?_
      refine w_gp (fun v => v = f 6 m0 5) rfl (fun v31 q31 => ?_)
      have b31x : zB v31 (-4) 5 := by rw [q31]; exact (hI 6 m0 5)
      refine z_aload_n (pc := 24) C dX3_goesBy_24 rfl ?_
      refine z_getI (pc := 25) C zf_X3_43 rfl rfl h1 dX3_goesBy_25 ?_
      refine w_gp (fun v => v = f 11 m1 2) rfl (fun v33 q33 => ?_)
      have b33x : zB v33 0 5 := by rw [q33]; exact (hI 11 m1 2)
      refine z_icmp_eq (pc := 28) 33 C dX3_goesBy_28 (by decide) (fun h28_33 => ?_) (fun h28_33 => ?_)
      · skip
        have rr35 : v31.toInt = v33.toInt := by simp only [z32lt, z32le, z32eq] at h28_33; omega
        have b36x : zB v31 0 5 := by have q1 := b31x; have q2 := b33x; simp only [z32lt, z32le, z32eq, Int32.reduceToInt, Int32.toInt_zero] at h28_33; constructor <;> omega
        refine z_aload_n (pc := 33) C dX3_goesBy_33 rfl ?_
        refine z_getI (pc := 34) C zf_X3_46 rfl rfl h1 dX3_goesBy_34 ?_
        refine w_gp (fun v => v = f 11 m1 8) rfl (fun v38 q38 => ?_)
        have b38x : zB v38 0 255 := by rw [q38]; exact (hI 11 m1 8)
        refine z_aload_n (pc := 37) C dX3_goesBy_37 rfl ?_
        refine z_getI (pc := 38) C zf_X3_15 rfl rfl h0 dX3_goesBy_38 ?_
        refine w_gp (fun v => v = f 6 m0 6) rfl (fun v40 q40 => ?_)
        have b40x : zB v40 0 255 := by rw [q40]; exact (hI 6 m0 6)
        refine z_iand (pc := 41) C dX3_goesBy_41 ?_
        refine w_gp (fun v => v = v38 &&& v40) rfl (fun v41 q41 => ?_)
        have b41x : zB v41 0 255 := by rw [q41]; exact (zand_b b38x b40x (by decide))
        refine z_istore_n (pc := 42) C dX3_goesBy_42 (by rw [hn]; decide) rfl ?_
        refine z_aload_n (pc := 43) C dX3_goesBy_43 rfl ?_
        refine z_getI (pc := 44) C zf_X3_21 rfl rfl h0 dX3_goesBy_44 ?_
        refine w_gp (fun v => v = f 6 m0 4) rfl (fun v43 q43 => ?_)
        have b43x : zB v43 0 1 := by rw [q43]; exact (hI 6 m0 4)
        refine z_if_eq (pc := 47) 69 C dX3_goesBy_47 (by decide) (fun h47_43 => ?_) (fun h47_43 => ?_)
        · skip
          have b45x : zB v43 0 0 := by have q1 := b43x; have q2 := (zB.of (x := 0) 0 (by decide)); simp only [z32lt, z32le, z32eq, Int32.reduceToInt, Int32.toInt_zero] at h47_43; constructor <;> omega
          refine z_iload_n (pc := 69) C dX3_goesBy_69 rfl ?_
          exact z_iret (pc := 70) C hr dX3_goesBy_70 ⟨⟨_, rfl, b41x⟩, hI, hF, (by
                                                                                          intro v hv; cases hv
                                                                                          have r1 := q2
                                                                                          have r5 := q4
                                                                                          have r12 := q8
                                                                                          have r21 := q31
                                                                                          have r25 := q33
                                                                                          have hG : (f 11 m1 1 = f 6 m0 1 ∧ (f 6 m0 5 = -4 ∨ f 6 m0 5 = f 11 m1 2)) := ⟨(show f 11 m1 1 = f 6 m0 1 by rw [← r1, ← r5]; assumption), Or.inr (by rw [← r21, ← r25]; assumption)⟩
                                                                                          have e41 : v41 = f 11 m1 8 &&& f 6 m0 6 := by rw [q41, q38, q40]
                                                                                          have r44 := q43
                                                                                          exact Or.inr (Or.inl ⟨hG, fun h => h.1 (by rw [← r44]; assumption), e41⟩))⟩
        · skip
          have b46x : zB v43 1 1 := by have q1 := b43x; have q2 := (zB.of (x := 0) 0 (by decide)); simp only [z32lt, z32le, z32eq, Int32.reduceToInt, Int32.toInt_zero] at h47_43; constructor <;> omega
          refine z_aload_n (pc := 50) C dX3_goesBy_50 rfl ?_
          refine z_iconst (pc := 51) (v := 1) C dX3_goesBy_51 (by decide) ?_
          refine z_callV (pc := 52) C zk_X3_49 (x_X4_pledges _ _ m1 h1 1 (zB.wk (a' := 0) (b' := 7) (zB.of (x := 1) 1 (by decide)) (by decide) (by decide)) hI) rfl rfl h1 rfl rfl (Nat.le_of_ble_eq_true rfl) dX3_goesBy_52 (fun r47 g47 q47 => ?_)
          have qa47_1 : (1 : Int32).toInt = 1 := by decide
          obtain ⟨⟨v47, rfl, b47x⟩, hI47, hF47q, hp47_0⟩ := q47
          have hp47_0 := hp47_0 _ rfl
          obtain rfl := zFr_nil hF47q
          simp only [Option.toList, List.cons_append, List.nil_append]
          refine z_if_ne (pc := 55) 69 C dX3_goesBy_55 (by decide) (fun h55_47 => ?_) (fun h55_47 => ?_)
          · skip
            have b49x : zB v47 1 1 := by have q1 := b47x; have q2 := (zB.of (x := 0) 0 (by decide)); simp only [z32lt, z32le, z32eq, Int32.reduceToInt, Int32.toInt_zero] at h55_47; constructor <;> omega
            refine z_iload_n (pc := 69) C dX3_goesBy_69 rfl ?_
            exact z_iret (pc := 70) C hr dX3_goesBy_70 ⟨⟨_, rfl, b41x⟩, hI, hF, (by
                                                                                          intro v hv; cases hv
                                                                                          have r1 := q2
                                                                                          have r5 := q4
                                                                                          have r12 := q8
                                                                                          have r21 := q31
                                                                                          have r25 := q33
                                                                                          have hG : (f 11 m1 1 = f 6 m0 1 ∧ (f 6 m0 5 = -4 ∨ f 6 m0 5 = f 11 m1 2)) := ⟨(show f 11 m1 1 = f 6 m0 1 by rw [← r1, ← r5]; assumption), Or.inr (by rw [← r21, ← r25]; assumption)⟩
                                                                                          have e41 : v41 = f 11 m1 8 &&& f 6 m0 6 := by rw [q41, q38, q40]
                                                                                          have r44 := q43
                                                                                          have hp := hp47_0
                                                                                          exact Or.inr (Or.inl ⟨hG, fun h => zbo_y hp (by omega) h.2, e41⟩))⟩
          · skip
            have b50x : zB v47 0 0 := by have q1 := b47x; have q2 := (zB.of (x := 0) 0 (by decide)); simp only [z32lt, z32le, z32eq, Int32.reduceToInt, Int32.toInt_zero] at h55_47; constructor <;> omega
            refine z_iload_n (pc := 58) C dX3_goesBy_58 rfl ?_
            refine z_aload_n (pc := 59) C dX3_goesBy_59 rfl ?_
            refine z_getI (pc := 60) C zf_X3_53 rfl rfl h1 dX3_goesBy_60 ?_
            refine w_gp (fun v => v = f 11 m1 9) rfl (fun v52 q52 => ?_)
            have b52x : zB v52 0 255 := by rw [q52]; exact (hI 11 m1 9)
            refine z_iconst (pc := 63) (v := -1) C dX3_goesBy_63 (by decide) ?_
            refine z_ixor (pc := 64) C dX3_goesBy_64 ?_
            refine w_gp (fun v => v = v52 ^^^ ((-1) : Int32)) rfl (fun v53 q53 => ?_)
            refine z_iand (pc := 65) C dX3_goesBy_65 ?_
            refine w_gp (fun v => v = v41 &&& v53) rfl (fun v54 q54 => ?_)
            have b54x : zB v54 0 255 := by rw [q54]; exact (zand_bl b41x (zB_any v53) (by decide))
            refine z_goto (pc := 66) 70 C dX3_goesBy_66 (by decide) ?_
            exact z_iret (pc := 70) C hr dX3_goesBy_70 ⟨⟨_, rfl, b54x⟩, hI, hF, (by
                                                                                          intro v hv; cases hv
                                                                                          have r1 := q2
                                                                                          have r5 := q4
                                                                                          have r12 := q8
                                                                                          have r21 := q31
                                                                                          have r25 := q33
                                                                                          have hG : (f 11 m1 1 = f 6 m0 1 ∧ (f 6 m0 5 = -4 ∨ f 6 m0 5 = f 11 m1 2)) := ⟨(show f 11 m1 1 = f 6 m0 1 by rw [← r1, ← r5]; assumption), Or.inr (by rw [← r21, ← r25]; assumption)⟩
                                                                                          have e41 : v41 = f 11 m1 8 &&& f 6 m0 6 := by rw [q41, q38, q40]
                                                                                          have r44 := q43
                                                                                          have hp := hp47_0
                                                                                          exact Or.inr (Or.inr ⟨hG, ⟨by rw [← r44]; assumption, Classical.byContradiction (zbo_n hp (by omega))⟩, by rw [q54, q53, q52, e41]⟩))⟩
      · skip
        refine z_iconst (pc := 31) (v := 0) C dX3_goesBy_31 (by decide) ?_
        exact z_iret (pc := 32) C hr dX3_goesBy_32 ⟨⟨_, rfl, (zB.wk (a' := 0) (b' := 255) (zB.of (x := 0) 0 (by decide)) (by decide) (by decide))⟩, hI, hF, (by
                                                                                          intro v hv; cases hv
                                                                                          have r1 := q2
                                                                                          have r5 := q4
                                                                                          have r12 := q8
                                                                                          have r21 := q31
                                                                                          have r25 := q33
                                                                                          refine Or.inl ⟨fun h => ?_, rfl⟩
                                                                                          rcases h.2 with q | q
                                                                                          · exact absurd (show v8 = -4 by rw [r12]; exact q) (by assumption)
                                                                                          · exact absurd (show v31 = v33 by rw [r21, r25]; exact q) (by assumption))⟩
