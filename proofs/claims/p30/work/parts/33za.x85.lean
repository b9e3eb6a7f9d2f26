theorem zcr_k {f g : zM} {p d : Nat} (h25 : g 25 0 = f 25 0) (h26 : g 26 0 = f 26 0) (h27 : g 27 0 = f 27 0) (h28 : g 28 0 = f 28 0) : zcr g p d = zcr f p d := by
  unfold zcr; rw [h25, h26, h27, h28]
theorem zsr_k {f g : zM} {p d : Nat} (h25 : g 25 0 = f 25 0) (h26 : g 26 0 = f 26 0) (h27 : g 27 0 = f 27 0) (h28 : g 28 0 = f 28 0) (h30 : g 30 0 = f 30 0) : zsr g p d = zsr f p d := by
  unfold zsr; rw [h25, h26, h27, h28, h30]
theorem zbf_0 {P : Nat → Prop} : ∀ n : Nat, (∀ k, k < n → ¬ P k) → zbf P n = 0
  | 0, _ => rfl
  | n + 1, h => by
    rw [zbf, zbf_0 n (fun k hk => h k (by omega)), if_neg (h n (by omega))]
    decide
/-- a DEED may go by what binds him (the reference) -/
def zmg (f : zM) (p d : Nat) (dies only bound : Int32) : Prop := (dies = 0 ∨ f 28 0 (8 * p + 7) &&& 1 = 1 ∨ ¬ zdy (fun k j => f 26 0 (6 * k + j)) (f 27 0 (5 * d + 0)) (f 28 0 (8 * p + 2)) (f 25 0 0).toInt.toNat) ∧ (only.toInt < 0 ∨ f 28 0 (8 * p + 2) = only) ∧ bt bound d = true
theorem zmg_k {f g : zM} {p d : Nat} {x y z : Int32} (h25 : g 25 0 = f 25 0) (h26 : g 26 0 = f 26 0) (h27 : g 27 0 = f 27 0) (h28 : g 28 0 = f 28 0) : zmg g p d x y z = zmg f p d x y z := by
  unfold zmg; rw [h25, h26, h27, h28]

set_option maxRecDepth 100000 in
set_option maxHeartbeats 4000000 in
theorem x_X10_findOpen (d : Nat) (f : zM)  (hI : zInv f) : ZM (d + 4) yX10_findOpen cX10_findOpen 3 none [zr 25 0] f (fun r g => r = none ∧ zInv g ∧ zFr [(31, none)] f g ∧ (∀ q : Nat, (q : Int) < (f 25 0 4).toInt → g 31 0 q = zbf (fun i => zcr f q i ∧ zsr f q i = 0) (f 25 0 2).toInt.toNat)) := by
  refine ZM.intro (by decide +kernel) (Nat.le_of_ble_eq_true rfl) ?_
  intro X C hr hn
  have hF : zFr [(31, none)] f f := zFr.rf _ _
  have ct25_0_2 : zB (f 25 0 2) 0 8 := hI 25 0 2
  have ct25_0_4 : zB (f 25 0 4) 0 12 := hI 25 0 4
  have J : ∀ t : Nat, (∀ a2_1 : Int32, zB a2_1 0 12 → ∀ g : zM, zInv g → zFr [(31, none)] f g → zB (g 25 0 2) 0 8 → zB (g 25 0 4) 0 12 → (∀ q, q < a2_1.toInt.toNat → g 31 0 q = zbf (fun i => zcr f q i ∧ zsr f q i = 0) (f 25 0 2).toInt.toNat) → (a2_1.toInt ≤ (f 25 0 4).toInt) → ((g 25 0 2).toInt = (f 25 0 2).toInt) → ((g 25 0 4).toInt = (f 25 0 4).toInt) → (37 + 40 * (12 - a2_1.toInt) : Int) < t → Z X 2 [some (zr 25 0), some (zi a2_1), none] [] g) ∧ (∀ a19_1 : Int32, zB a19_1 0 11 → ∀ a19_2 : Int32, zB a19_2 0 8 → ∀ g : zM, zInv g → zFr [(31, none)] f g → zB (g 25 0 2) 0 8 → zB (g 25 0 4) 1 12 → (∀ q, q < a19_1.toInt.toNat → g 31 0 q = zbf (fun i => zcr f q i ∧ zsr f q i = 0) (f 25 0 2).toInt.toNat) → (g 31 0 a19_1.toInt.toNat = zbf (fun i => zcr f a19_1.toInt.toNat i ∧ zsr f a19_1.toInt.toNat i = 0) (a19_2.toInt.toNat)) → (a19_1.toInt < (f 25 0 4).toInt) → (a19_2.toInt ≤ (f 25 0 2).toInt) → ((g 25 0 2).toInt = (f 25 0 2).toInt) → ((g 25 0 4).toInt = (f 25 0 4).toInt) → (0 + 4 * (8 - a19_2.toInt) + 40 * (12 - a19_1.toInt) : Int) < t → Z X 19 [some (zr 25 0), some (zi a19_1), some (zi a19_2)] [] g) := by
    intro t
    induction t with
    | zero =>
      refine ⟨?_, ?_⟩ <;> (intros; exfalso; omega)
    | succ t ih =>
      obtain ⟨ih0, ih1⟩ := ih
      refine ⟨?_, ?_⟩
      · skip
        intro a2_1 b2_1 g2_ hI2_ hF2_ f2_25_0_2 f2_25_0_4 hR2_0 hR2_1 hR2_2 hR2_3 hM2_
        refine z_iload_n (pc := 2) C dX10_findOpen_2 rfl ?_
        refine z_aload_n (pc := 3) C dX10_findOpen_3 rfl ?_
        refine z_getI (pc := 4) C zf_X10_77 rfl rfl (by decide) dX10_findOpen_4 ?_
        refine w_gp (fun v => v = g2_ 25 0 4) rfl (fun v1 q1 => ?_)
        have e1 : v1.toInt = (g2_ 25 0 4).toInt := by rw [q1]
        have b1x : zB v1 0 12 := by first | exact zB.eqv e1 f2_25_0_4 | (have q9 := f2_25_0_4; constructor <;> omega)
        refine z_icmp_ge (pc := 7) 73 C dX10_findOpen_7 (by decide) (fun h7_1 => ?_) (fun h7_1 => ?_)
        · skip
          have rr3 : a2_1.toInt ≥ v1.toInt := by simp only [z32lt, z32le, z32eq] at h7_1; omega
          exact z_vret (pc := 73) C hr dX10_findOpen_73 ⟨rfl, hI2_, hF2_, (by intro q hq; exact hR2_0 q (by omega))⟩
        · skip
          have rr4 : a2_1.toInt < v1.toInt := by simp only [z32lt, z32le, z32eq] at h7_1; omega
          have b5x : zB a2_1 0 11 := by have q1 := b2_1; have q2 := b1x; simp only [z32lt, z32le, z32eq, Int32.reduceToInt, Int32.toInt_zero] at h7_1; constructor <;> omega
          have b6x : zB v1 1 12 := by have q1 := b2_1; have q2 := b1x; simp only [z32lt, z32le, z32eq, Int32.reduceToInt, Int32.toInt_zero] at h7_1; constructor <;> omega
          have c7x : zB (g2_ 25 0 4) 1 12 := by first | assumption | (constructor <;> omega)
          refine z_aload_n (pc := 10) C dX10_findOpen_10 rfl ?_
          refine z_getR (pc := 11) C zf_X10_25 rfl rfl (by decide) dX10_findOpen_11 ?_
          refine z_iload_n (pc := 14) C dX10_findOpen_14 rfl ?_
          refine z_iconst (pc := 15) (v := 0) C dX10_findOpen_15 (by decide) ?_
          have kw16_7 : a2_1.toNatClampNeg = a2_1.toInt.toNat := rfl
          refine z_iast (pc := 16) C rfl (by decide) (zIx b5x (by decide) (by decide)) dX10_findOpen_16 ?_
          refine w_memx hI2_ hF2_ (zB.wk (a' := 0) (b' := 255) (zB.of (x := 0) 0 (by decide)) (by decide) (by decide)) rfl (fun g8 qm8 hI8 hF8 hq8 hx8 => ?_)
          have ek8_25_0_2 : (g8 25 0 2).toInt = (g2_ 25 0 2).toInt := by rw [hq8 25 0 2 (by omega)]
          have c8_25_0_2x : zB (g8 25 0 2) 0 8 := by rw [hq8 25 0 2 (by omega)]; exact f2_25_0_2
          have ek8_25_0_4 : (g8 25 0 4).toInt = (g2_ 25 0 4).toInt := by rw [hq8 25 0 4 (by omega)]
          have c8_25_0_4x : zB (g8 25 0 4) 1 12 := by rw [hq8 25 0 4 (by omega)]; exact c7x
          refine z_iconst (pc := 17) (v := 0) C dX10_findOpen_17 (by decide) ?_
          refine z_istore_n (pc := 18) C dX10_findOpen_18 (by rw [hn]; decide) rfl ?_
          exact ih1 a2_1 b5x 0 (zB.wk (a' := 0) (b' := 8) (zB.of (x := 0) 0 (by decide)) (by decide) (by decide)) g8 hI8 hF8 c8_25_0_2x c8_25_0_4x (by
                                                                                          have hx : a2_1.toNatClampNeg = a2_1.toInt.toNat := rfl
                                                                                          intro q hq
                                                                                          rw [qm8, zup_ne _ _ (by omega)]; exact hR2_0 q hq) (by
                                                                                          have hx : a2_1.toNatClampNeg = a2_1.toInt.toNat := rfl
                                                                                          show g8 31 0 a2_1.toInt.toNat = 0
                                                                                          rw [qm8, hx, zup_same]) (by have qc0 : (0 : Int32).toInt = 0 := (by decide); omega) (by have qc0 : (0 : Int32).toInt = 0 := (by decide); omega) (by have qc0 : (0 : Int32).toInt = 0 := (by decide); omega) (by have qc0 : (0 : Int32).toInt = 0 := (by decide); omega) (by have qc0 : (0 : Int32).toInt = 0 := (by decide); omega)
      · skip
        intro a19_1 b19_1 a19_2 b19_2 g19_ hI19_ hF19_ f19_25_0_2 f19_25_0_4 hR19_0 hR19_1 hR19_2 hR19_3 hR19_4 hR19_5 hM19_
        refine z_iload_n (pc := 19) C dX10_findOpen_19 rfl ?_
        refine z_aload_n (pc := 20) C dX10_findOpen_20 rfl ?_
        refine z_getI (pc := 21) C zf_X10_73 rfl rfl (by decide) dX10_findOpen_21 ?_
        refine w_gp (fun v => v = g19_ 25 0 2) rfl (fun v9 q9 => ?_)
        have e9 : v9.toInt = (g19_ 25 0 2).toInt := by rw [q9]
        have b9x : zB v9 0 8 := by first | exact zB.eqv e9 f19_25_0_2 | (have q9 := f19_25_0_2; constructor <;> omega)
        refine z_icmp_ge (pc := 24) 67 C dX10_findOpen_24 (by decide) (fun h24_9 => ?_) (fun h24_9 => ?_)
        · skip
          have rr11 : a19_2.toInt ≥ v9.toInt := by simp only [z32lt, z32le, z32eq] at h24_9; omega
          refine z_iinc (pc := 67) (v := 1) C dX10_findOpen_67 rfl (by decide) (by rw [hn]; decide) rfl ?_
          obtain ⟨v12, hv12, e12⟩ : ∃ v : Int32, v = a19_1 + 1 ∧ v.toInt = a19_1.toInt + 1 := ⟨_, rfl, zadd_eb b19_1 (zB.of (x := 1) 1 (by decide)) (by decide) (by decide)⟩
          rw [← hv12]
          have b12x : zB v12 1 12 := by have q9 := b19_1; constructor <;> omega
          refine z_goto (pc := 70) 2 C dX10_findOpen_70 (by decide) ?_
          refine w_mask [2] ?_
          exact ih0 v12 (zB.wk (a' := 0) (b' := 12) b12x (by decide) (by decide)) g19_ hI19_ hF19_ f19_25_0_2 (zB.wk f19_25_0_4 (by decide) (by decide)) (by
                                                                                          have hn : (v12).toInt.toNat = a19_1.toInt.toNat + 1 := by omega
                                                                                          have hd : (f 25 0 2).toInt.toNat = a19_2.toInt.toNat := by omega
                                                                                          intro q hq
                                                                                          by_cases e : q = a19_1.toInt.toNat
                                                                                          · rw [e, hd]; exact hR19_1
                                                                                          · exact hR19_0 q (by omega)) (by omega) (by omega) (by omega) (by omega)
        · skip
          have rr13 : a19_2.toInt < v9.toInt := by simp only [z32lt, z32le, z32eq] at h24_9; omega
          have b14x : zB a19_2 0 7 := by have q1 := b19_2; have q2 := b9x; simp only [z32lt, z32le, z32eq, Int32.reduceToInt, Int32.toInt_zero] at h24_9; constructor <;> omega
          have b15x : zB v9 1 8 := by have q1 := b19_2; have q2 := b9x; simp only [z32lt, z32le, z32eq, Int32.reduceToInt, Int32.toInt_zero] at h24_9; constructor <;> omega
          have c16x : zB (g19_ 25 0 2) 1 8 := by first | assumption | (constructor <;> omega)
          refine z_aload_n (pc := 27) C dX10_findOpen_27 rfl ?_
          refine z_getR (pc := 28) C zf_X10_25 rfl rfl (by decide) dX10_findOpen_28 ?_
          refine z_iload_n (pc := 31) C dX10_findOpen_31 rfl ?_
          refine z_dup2 (pc := 32) C dX10_findOpen_32 ?_
          refine z_iald (pc := 33) C rfl (by decide) (zIx b19_1 (by decide) (by decide)) dX10_findOpen_33 ?_
          have kq33_16 : a19_1.toNatClampNeg = a19_1.toInt.toNat := rfl
          refine w_gp (fun v => v = g19_ 31 0 a19_1.toNatClampNeg) rfl (fun v17 q17 => ?_)
          have b17x : zB v17 0 255 := by rw [q17]; exact (hI19_ 31 0 a19_1.toNatClampNeg)
          refine z_aload_n (pc := 34) C dX10_findOpen_34 rfl ?_
          refine z_iload_n (pc := 35) C dX10_findOpen_35 rfl ?_
          refine z_iload_n (pc := 36) C dX10_findOpen_36 rfl ?_
          refine z_callV (pc := 37) C zk_X10_138 (x_X10_isCovered _ _ a19_1 b19_1 a19_2 b14x hI19_) rfl rfl (by decide) rfl rfl (Nat.le_of_ble_eq_true rfl) dX10_findOpen_37 (fun r18 g18 q18 => ?_)
          obtain ⟨⟨v18, rfl, b18x⟩, hI18, hF18q, hp18_0⟩ := q18
          have hp18_0 := hp18_0 _ rfl
          obtain rfl := zFr_nil hF18q
          simp only [Option.toList, List.cons_append, List.nil_append]
          refine z_if_eq (pc := 40) 58 C dX10_findOpen_40 (by decide) (fun h40_18 => ?_) (fun h40_18 => ?_)
          · skip
            have b20x : zB v18 0 0 := by have q1 := b18x; have q2 := (zB.of (x := 0) 0 (by decide)); simp only [z32lt, z32le, z32eq, Int32.reduceToInt, Int32.toInt_zero] at h40_18; constructor <;> omega
            refine z_iconst (pc := 58) (v := 0) C dX10_findOpen_58 (by decide) ?_
            refine z_ior (pc := 59) C dX10_findOpen_59 ?_
            refine w_gp (fun v => v = v17 ||| (0 : Int32)) rfl (fun v21 q21 => ?_)
            have b21x : zB v21 0 255 := by rw [q21]; exact (zor_b 8 b17x (zB.of (x := 0) 0 (by decide)) (by decide) (by decide) (by decide) (by decide) (by decide))
            have kw60_21 : a19_1.toNatClampNeg = a19_1.toInt.toNat := rfl
            refine z_iast (pc := 60) C rfl (by decide) (zIx b19_1 (by decide) (by decide)) dX10_findOpen_60 ?_
            refine w_memx hI19_ hF19_ b21x rfl (fun g22 qm22 hI22 hF22 hq22 hx22 => ?_)
            have ek22_25_0_2 : (g22 25 0 2).toInt = (g19_ 25 0 2).toInt := by rw [hq22 25 0 2 (by omega)]
            have c22_25_0_2x : zB (g22 25 0 2) 1 8 := by rw [hq22 25 0 2 (by omega)]; exact c16x
            have ek22_25_0_4 : (g22 25 0 4).toInt = (g19_ 25 0 4).toInt := by rw [hq22 25 0 4 (by omega)]
            have c22_25_0_4x : zB (g22 25 0 4) 1 12 := by rw [hq22 25 0 4 (by omega)]; exact f19_25_0_4
            refine z_iinc (pc := 61) (v := 1) C dX10_findOpen_61 rfl (by decide) (by rw [hn]; decide) rfl ?_
            obtain ⟨v23, hv23, e23⟩ : ∃ v : Int32, v = a19_2 + 1 ∧ v.toInt = a19_2.toInt + 1 := ⟨_, rfl, zadd_eb b14x (zB.of (x := 1) 1 (by decide)) (by decide) (by decide)⟩
            rw [← hv23]
            have b23x : zB v23 1 8 := by have q9 := b14x; constructor <;> omega
            refine z_goto (pc := 64) 19 C dX10_findOpen_64 (by decide) ?_
            exact ih1 a19_1 b19_1 v23 (zB.wk (a' := 0) (b' := 8) b23x (by decide) (by decide)) g22 hI22 hF22 (zB.wk c22_25_0_2x (by decide) (by decide)) c22_25_0_4x (by
                                                                                          have hx : a19_1.toNatClampNeg = a19_1.toInt.toNat := rfl
                                                                                          intro q hq
                                                                                          rw [qm22, zup_ne _ _ (by omega)]; exact hR19_0 q hq) (by
                                                                                          have hx : a19_1.toNatClampNeg = a19_1.toInt.toNat := rfl
                                                                                          have k25 : g19_ 25 0 = f 25 0 := funext (fun j => hF19_ 25 0 j rfl)
                                                                                          have k26 : g19_ 26 0 = f 26 0 := funext (fun j => hF19_ 26 0 j rfl)
                                                                                          have k27 : g19_ 27 0 = f 27 0 := funext (fun j => hF19_ 27 0 j rfl)
                                                                                          have k28 : g19_ 28 0 = f 28 0 := funext (fun j => hF19_ 28 0 j rfl)
                                                                                          have k30 : g19_ 30 0 = f 30 0 := funext (fun j => hF19_ 30 0 j rfl)
                                                                                          have hn : (v23).toInt.toNat = a19_2.toInt.toNat + 1 := by omega
                                                                                          have hi : a19_2 = nI a19_2.toInt.toNat := (nI_ofI (by omega)).1
                                                                                          have r33 := q17
                                                                                          rw [hx] at r33
                                                                                          rw [qm22, hx, zup_same, q21, r33, hR19_1, hn, zbf]
                                                                                          congr 1
                                                                                          have ha := hp18_0
                                                                                          rw [zcr_k k25 k26 k27 k28] at ha
                                                                                          rw [if_neg (fun h => zbo_n ha (by omega) h.1)]) (by omega) (by omega) (by omega) (by omega) (by omega)
          · skip
            have b24x : zB v18 1 1 := by have q1 := b18x; have q2 := (zB.of (x := 0) 0 (by decide)); simp only [z32lt, z32le, z32eq, Int32.reduceToInt, Int32.toInt_zero] at h40_18; constructor <;> omega
            refine z_aload_n (pc := 43) C dX10_findOpen_43 rfl ?_
            refine z_iload_n (pc := 44) C dX10_findOpen_44 rfl ?_
            refine z_iload_n (pc := 45) C dX10_findOpen_45 rfl ?_
            refine z_callV (pc := 46) C zk_X10_141 (x_X10_standing _ _ a19_1 b19_1 a19_2 b14x hI19_) rfl rfl (by decide) rfl rfl (Nat.le_of_ble_eq_true rfl) dX10_findOpen_46 (fun r25 g25 q25 => ?_)
            obtain ⟨⟨v25, rfl, b25x⟩, hI25, hF25q, hp25_0⟩ := q25
            have hp25_0 := hp25_0 _ rfl
            obtain rfl := zFr_nil hF25q
            simp only [Option.toList, List.cons_append, List.nil_append]
            refine z_if_ne (pc := 49) 58 C dX10_findOpen_49 (by decide) (fun h49_25 => ?_) (fun h49_25 => ?_)
            · skip
              have b27x : zB v25 1 63 := by have q1 := b25x; have q2 := (zB.of (x := 0) 0 (by decide)); simp only [z32lt, z32le, z32eq, Int32.reduceToInt, Int32.toInt_zero] at h49_25; constructor <;> omega
              refine z_iconst (pc := 58) (v := 0) C dX10_findOpen_58 (by decide) ?_
              refine z_ior (pc := 59) C dX10_findOpen_59 ?_
              refine w_gp (fun v => v = v17 ||| (0 : Int32)) rfl (fun v28 q28 => ?_)
              have b28x : zB v28 0 255 := by rw [q28]; exact (zor_b 8 b17x (zB.of (x := 0) 0 (by decide)) (by decide) (by decide) (by decide) (by decide) (by decide))
              have kw60_28 : a19_1.toNatClampNeg = a19_1.toInt.toNat := rfl
              refine z_iast (pc := 60) C rfl (by decide) (zIx b19_1 (by decide) (by decide)) dX10_findOpen_60 ?_
              refine w_memx hI19_ hF19_ b28x rfl (fun g29 qm29 hI29 hF29 hq29 hx29 => ?_)
              have ek29_25_0_2 : (g29 25 0 2).toInt = (g19_ 25 0 2).toInt := by rw [hq29 25 0 2 (by omega)]
              have c29_25_0_2x : zB (g29 25 0 2) 1 8 := by rw [hq29 25 0 2 (by omega)]; exact c16x
              have ek29_25_0_4 : (g29 25 0 4).toInt = (g19_ 25 0 4).toInt := by rw [hq29 25 0 4 (by omega)]
              have c29_25_0_4x : zB (g29 25 0 4) 1 12 := by rw [hq29 25 0 4 (by omega)]; exact f19_25_0_4
              refine z_iinc (pc := 61) (v := 1) C dX10_findOpen_61 rfl (by decide) (by rw [hn]; decide) rfl ?_
              obtain ⟨v30, hv30, e30⟩ : ∃ v : Int32, v = a19_2 + 1 ∧ v.toInt = a19_2.toInt + 1 := ⟨_, rfl, zadd_eb b14x (zB.of (x := 1) 1 (by decide)) (by decide) (by decide)⟩
              rw [← hv30]
              have b30x : zB v30 1 8 := by have q9 := b14x; constructor <;> omega
              refine z_goto (pc := 64) 19 C dX10_findOpen_64 (by decide) ?_
              exact ih1 a19_1 b19_1 v30 (zB.wk (a' := 0) (b' := 8) b30x (by decide) (by decide)) g29 hI29 hF29 (zB.wk c29_25_0_2x (by decide) (by decide)) c29_25_0_4x (by
                                                                                          have hx : a19_1.toNatClampNeg = a19_1.toInt.toNat := rfl
                                                                                          intro q hq
                                                                                          rw [qm29, zup_ne _ _ (by omega)]; exact hR19_0 q hq) (by
                                                                                          have hx : a19_1.toNatClampNeg = a19_1.toInt.toNat := rfl
                                                                                          have k25 : g19_ 25 0 = f 25 0 := funext (fun j => hF19_ 25 0 j rfl)
                                                                                          have k26 : g19_ 26 0 = f 26 0 := funext (fun j => hF19_ 26 0 j rfl)
                                                                                          have k27 : g19_ 27 0 = f 27 0 := funext (fun j => hF19_ 27 0 j rfl)
                                                                                          have k28 : g19_ 28 0 = f 28 0 := funext (fun j => hF19_ 28 0 j rfl)
                                                                                          have k30 : g19_ 30 0 = f 30 0 := funext (fun j => hF19_ 30 0 j rfl)
                                                                                          have hn : (v30).toInt.toNat = a19_2.toInt.toNat + 1 := by omega
                                                                                          have hi : a19_2 = nI a19_2.toInt.toNat := (nI_ofI (by omega)).1
                                                                                          have r33 := q17
                                                                                          rw [hx] at r33
                                                                                          rw [qm29, hx, zup_same, q28, r33, hR19_1, hn, zbf]
                                                                                          congr 1
                                                                                          have ha := hp18_0
                                                                                          rw [zcr_k k25 k26 k27 k28] at ha
                                                                                          have hb := hp25_0
                                                                                          rw [zsr_k k25 k26 k27 k28 k30] at hb
                                                                                          rw [if_neg (fun h => absurd (hb.trans h.2) (by assumption))]) (by omega) (by omega) (by omega) (by omega) (by omega)
            · skip
              have b31x : zB v25 0 0 := by have q1 := b25x; have q2 := (zB.of (x := 0) 0 (by decide)); simp only [z32lt, z32le, z32eq, Int32.reduceToInt, Int32.toInt_zero] at h49_25; constructor <;> omega
              refine z_iconst (pc := 52) (v := 1) C dX10_findOpen_52 (by decide) ?_
              refine z_iload_n (pc := 53) C dX10_findOpen_53 rfl ?_
              refine z_ishl (pc := 54) C dX10_findOpen_54 ?_
              refine w_gp (fun v => v = (1 : Int32) <<< (a19_2 &&& 31)) rfl (fun v32 q32 => ?_)
              have b32x : zB v32 0 128 := by rw [q32]; exact (zshl_b b14x 7 (by decide) (by decide))
              refine z_goto (pc := 55) 59 C dX10_findOpen_55 (by decide) ?_
              refine z_ior (pc := 59) C dX10_findOpen_59 ?_
              refine w_gp (fun v => v = v17 ||| v32) rfl (fun v33 q33 => ?_)
              have b33x : zB v33 0 255 := by rw [q33]; exact (zor_b 8 b17x b32x (by decide) (by decide) (by decide) (by decide) (by decide))
              have kw60_33 : a19_1.toNatClampNeg = a19_1.toInt.toNat := rfl
              refine z_iast (pc := 60) C rfl (by decide) (zIx b19_1 (by decide) (by decide)) dX10_findOpen_60 ?_
              refine w_memx hI19_ hF19_ b33x rfl (fun g34 qm34 hI34 hF34 hq34 hx34 => ?_)
              have ek34_25_0_2 : (g34 25 0 2).toInt = (g19_ 25 0 2).toInt := by rw [hq34 25 0 2 (by omega)]
              have c34_25_0_2x : zB (g34 25 0 2) 1 8 := by rw [hq34 25 0 2 (by omega)]; exact c16x
              have ek34_25_0_4 : (g34 25 0 4).toInt = (g19_ 25 0 4).toInt := by rw [hq34 25 0 4 (by omega)]
              have c34_25_0_4x : zB (g34 25 0 4) 1 12 := by rw [hq34 25 0 4 (by omega)]; exact f19_25_0_4
              refine z_iinc (pc := 61) (v := 1) C dX10_findOpen_61 rfl (by decide) (by rw [hn]; decide) rfl ?_
              obtain ⟨v35, hv35, e35⟩ : ∃ v : Int32, v = a19_2 + 1 ∧ v.toInt = a19_2.toInt + 1 := ⟨_, rfl, zadd_eb b14x (zB.of (x := 1) 1 (by decide)) (by decide) (by decide)⟩
              rw [← hv35]
              have b35x : zB v35 1 8 := by have q9 := b14x; constructor <;> omega
              refine z_goto (pc := 64) 19 C dX10_findOpen_64 (by decide) ?_
              exact ih1 a19_1 b19_1 v35 (zB.wk (a' := 0) (b' := 8) b35x (by decide) (by decide)) g34 hI34 hF34 (zB.wk c34_25_0_2x (by decide) (by decide)) c34_25_0_4x (by
                                                                                          have hx : a19_1.toNatClampNeg = a19_1.toInt.toNat := rfl
                                                                                          intro q hq
                                                                                          rw [qm34, zup_ne _ _ (by omega)]; exact hR19_0 q hq) (by
                                                                                          have hx : a19_1.toNatClampNeg = a19_1.toInt.toNat := rfl
                                                                                          have k25 : g19_ 25 0 = f 25 0 := funext (fun j => hF19_ 25 0 j rfl)
                                                                                          have k26 : g19_ 26 0 = f 26 0 := funext (fun j => hF19_ 26 0 j rfl)
                                                                                          have k27 : g19_ 27 0 = f 27 0 := funext (fun j => hF19_ 27 0 j rfl)
                                                                                          have k28 : g19_ 28 0 = f 28 0 := funext (fun j => hF19_ 28 0 j rfl)
                                                                                          have k30 : g19_ 30 0 = f 30 0 := funext (fun j => hF19_ 30 0 j rfl)
                                                                                          have hn : (v35).toInt.toNat = a19_2.toInt.toNat + 1 := by omega
                                                                                          have hi : a19_2 = nI a19_2.toInt.toNat := (nI_ofI (by omega)).1
                                                                                          have r33 := q17
                                                                                          rw [hx] at r33
                                                                                          rw [qm34, hx, zup_same, q33, r33, hR19_1, hn, zbf]
                                                                                          congr 1
                                                                                          have ha := hp18_0
                                                                                          rw [zcr_k k25 k26 k27 k28] at ha
                                                                                          have hb := hp25_0
                                                                                          rw [zsr_k k25 k26 k27 k28 k30] at hb
                                                                                          rw [if_pos ⟨zbo_y ha (by omega), by rw [← hb]; assumption⟩, ← hi]
                                                                                          first | exact q32 | rfl) (by omega) (by omega) (by omega) (by omega) (by omega)
  obtain ⟨J0, J1⟩ := J 569
  show Z X 0 [some (zr 25 0), none, none] [] f
  refine z_iconst (pc := 0) (v := 0) C dX10_findOpen_0 (by decide) ?_
  refine z_istore_n (pc := 1) C dX10_findOpen_1 (by rw [hn]; decide) rfl ?_
  exact J0 0 (zB.wk (a' := 0) (b' := 12) (zB.of (x := 0) 0 (by decide)) (by decide) (by decide)) f hI hF ct25_0_2 ct25_0_4 (by intro q hq; exact absurd hq (Nat.not_lt_zero q)) (by have qc0 : (0 : Int32).toInt = 0 := (by decide); omega) (by have qc0 : (0 : Int32).toInt = 0 := (by decide); omega) (by have qc0 : (0 : Int32).toInt = 0 := (by decide); omega) (by have qc0 : (0 : Int32).toInt = 0 := (by decide); omega)

set_option maxRecDepth 100000 in
set_option maxHeartbeats 4000000 in
theorem x_X10_mayGo (d : Nat) (f : zM) (a1 : Int32) (b1 : zB a1 0 11) (a2 : Int32) (b2 : zB a2 0 7) (a3 : Int32) (b3 : zB a3 0 1) (a4 : Int32) (b4 : zB a4 (-4) 5) (a5 : Int32) (b5 : zB a5 0 255) (hI : zInv f) : ZM (d + 3) yX10_mayGo cX10_mayGo 8 (some .boolean) [zr 25 0, zi a1, zi a2, zi a3, zi a4, zi a5] f (fun r g => (∃ v, r = some (zi v) ∧ zB v 0 1) ∧ zInv g ∧ zFr [] f g ∧ (∀ v : Int32, r = some (zi v) → zbo v (zmg f a1.toInt.toNat a2.toInt.toNat a3 a4 a5))) := by
  refine ZM.intro (by decide +kernel) (Nat.le_of_ble_eq_true rfl) ?_
  intro X C hr hn
  have hF : zFr [] f f := zFr.rf _ _
  show Z X 0 [some (zr 25 0), some (zi a1), some (zi a2), some (zi a3), some (zi a4), some (zi a5), none, none] [] f
  refine z_bipush (pc := 0) (v := 8) C dX10_mayGo_0 (by decide) ?_
  refine z_iload_n (pc := 2) C dX10_mayGo_2 rfl ?_
  refine z_imul (pc := 3) C dX10_mayGo_3 ?_
  refine w_gp (fun v => v = (8 : Int32) * a1) rfl (fun v1 q1 => ?_)
  have e1 : v1.toInt = 8 * a1.toInt := by rw [q1]; exact (zmul_kb 8 (by decide) (by decide) b1 (by decide) (by decide))
  have b1x : zB v1 0 88 := zmul_bb e1 (by decide) b1
  refine z_istore (pc := 4) C dX10_mayGo_4 (by rw [hn]; decide) rfl ?_
  refine z_iload_n (pc := 6) C dX10_mayGo_6 rfl ?_
  refine z_if_eq (pc := 7) 43 C dX10_mayGo_7 (by decide) (fun h7_1 => ?_) (fun h7_1 => ?_)
  · skip
    have b3x : zB a3 0 0 := by have q1 := b3; have q2 := (zB.of (x := 0) 0 (by decide)); simp only [z32lt, z32le, z32eq, Int32.reduceToInt, Int32.toInt_zero] at h7_1; constructor <;> omega
    refine z_iconst (pc := 43) (v := 1) C dX10_mayGo_43 (by decide) ?_
    refine z_goto (pc := 44) 48 C dX10_mayGo_44 (by decide) ?_
    refine z_istore (pc := 48) C dX10_mayGo_48 (by rw [hn]; decide) rfl ?_
    refine z_iload (pc := 50) C dX10_mayGo_50 rfl ?_
    refine z_if_eq (pc := 52) 88 C dX10_mayGo_52 (by decide) (fun h52_3 => absurd h52_3 (by decide)) (fun h52_3 => ?_)
    refine z_iload (pc := 55) C dX10_mayGo_55 rfl ?_
    refine z_if_lt (pc := 57) 74 C dX10_mayGo_57 (by decide) (fun h57_4 => ?_) (fun h57_4 => ?_)
    · skip
      have b6x : zB a4 (-4) (-1) := by have q1 := b4; have q2 := (zB.of (x := 0) 0 (by decide)); simp only [z32lt, z32le, z32eq, Int32.reduceToInt, Int32.toInt_zero] at h57_4; constructor <;> omega
      refine z_iload (pc := 74) C dX10_mayGo_74 rfl ?_
      refine z_iload_n (pc := 76) C dX10_mayGo_76 rfl ?_
      refine z_ishr (pc := 77) C dX10_mayGo_77 ?_
      refine w_gp (fun v => v = a5 >>> (a2 &&& 31)) rfl (fun v7 q7 => ?_)
      refine z_iconst (pc := 78) (v := 1) C dX10_mayGo_78 (by decide) ?_
      refine z_iand (pc := 79) C dX10_mayGo_79 ?_
      refine w_gp (fun v => v = v7 &&& (1 : Int32)) rfl (fun v8 q8 => ?_)
      have b8x : zB v8 0 1 := by rw [q8]; exact (zand_b (zB_any v7) (zB.of (x := 1) 1 (by decide)) (by decide))
      refine z_iconst (pc := 80) (v := 1) C dX10_mayGo_80 (by decide) ?_
      refine z_icmp_ne (pc := 81) 88 C dX10_mayGo_81 (by decide) (fun h81_8 => ?_) (fun h81_8 => ?_)
      · skip
        have b10x : zB v8 0 0 := by have q1 := b8x; have q2 := (zB.of (x := 1) 1 (by decide)); simp only [z32lt, z32le, z32eq, Int32.reduceToInt, Int32.toInt_zero] at h81_8; constructor <;> omega
        refine z_iconst (pc := 88) (v := 0) C dX10_mayGo_88 (by decide) ?_
        exact z_zret (pc := 89) C hr (z01 (zB.wk (a' := 0) (b' := 1) (zB.of (x := 0) 0 (by decide)) (by decide) (by decide))) dX10_mayGo_89 ⟨⟨_, rfl, (zB.wk (a' := 0) (b' := 1) (zB.of (x := 0) 0 (by decide)) (by decide) (by decide))⟩, hI, hF, (by
                                                                                          intro v hv; cases hv
                                                                                          have hd : a2 = nI a2.toInt.toNat := (nI_ofI (by omega)).1
                                                                                          have z := z01b (x := a5) (a := a2.toInt.toNat) (by omega)
                                                                                          rw [← hd, ← q7, ← q8] at z
                                                                                          by_cases q : bt a5 a2.toInt.toNat = true
                                                                                          · rw [if_pos q] at z
                                                                                            first
                                                                                              | exact Or.inl ⟨rfl, Or.inl (by assumption), Or.inl (by omega), q⟩
                                                                                              | exact absurd z (by assumption)
                                                                                          · rw [if_neg q] at z
                                                                                            first
                                                                                              | exact Or.inr ⟨rfl, fun y => q y.2.2⟩
                                                                                              | exact absurd (show v8 = 1 by assumption) (by rw [z]; decide))⟩
      · skip
        have b11x : zB v8 1 1 := by have q1 := b8x; have q2 := (zB.of (x := 1) 1 (by decide)); simp only [z32lt, z32le, z32eq, Int32.reduceToInt, Int32.toInt_zero] at h81_8; constructor <;> omega
        refine z_iconst (pc := 84) (v := 1) C dX10_mayGo_84 (by decide) ?_
        refine z_goto (pc := 85) 89 C dX10_mayGo_85 (by decide) ?_
        exact z_zret (pc := 89) C hr (z01 (zB.wk (a' := 0) (b' := 1) (zB.of (x := 1) 1 (by decide)) (by decide) (by decide))) dX10_mayGo_89 ⟨⟨_, rfl, (zB.wk (a' := 0) (b' := 1) (zB.of (x := 1) 1 (by decide)) (by decide) (by decide))⟩, hI, hF, (by
                                                                                          intro v hv; cases hv
                                                                                          have hd : a2 = nI a2.toInt.toNat := (nI_ofI (by omega)).1
                                                                                          have z := z01b (x := a5) (a := a2.toInt.toNat) (by omega)
                                                                                          rw [← hd, ← q7, ← q8] at z
                                                                                          by_cases q : bt a5 a2.toInt.toNat = true
                                                                                          · rw [if_pos q] at z
                                                                                            first
                                                                                              | exact Or.inl ⟨rfl, Or.inl (by assumption), Or.inl (by omega), q⟩
                                                                                              | exact absurd z (by assumption)
                                                                                          · rw [if_neg q] at z
                                                                                            first
                                                                                              | exact Or.inr ⟨rfl, fun y => q y.2.2⟩
                                                                                              | exact absurd (show v8 = 1 by assumption) (by rw [z]; decide))⟩
    · skip
      have b12x : zB a4 0 5 := by have q1 := b4; have q2 := (zB.of (x := 0) 0 (by decide)); simp only [z32lt, z32le, z32eq, Int32.reduceToInt, Int32.toInt_zero] at h57_4; constructor <;> omega
      refine z_aload_n (pc := 60) C dX10_mayGo_60 rfl ?_
      refine z_getR (pc := 61) C zf_X10_16 rfl rfl (by decide) dX10_mayGo_61 ?_
      refine z_iload (pc := 64) C dX10_mayGo_64 rfl ?_
      refine z_iconst (pc := 66) (v := 2) C dX10_mayGo_66 (by decide) ?_
      refine z_iadd (pc := 67) C dX10_mayGo_67 ?_
      refine w_gp (fun v => v = v1 + (2 : Int32)) rfl (fun v13 q13 => ?_)
      have e13 : v13.toInt = v1.toInt + 2 := by rw [q13]; exact (zadd_eb b1x (zB.of (x := 2) 2 (by decide)) (by decide) (by decide))
      have b13x : zB v13 2 90 := by have q1 := b1x; have q2 := (zB.of (x := 2) 2 (by decide)); constructor <;> omega
      refine z_iald (pc := 68) C rfl (by decide) (zIx b13x (by decide) (by decide)) dX10_mayGo_68 ?_
      have kq68_13 : v13.toNatClampNeg = v13.toInt.toNat := rfl
      refine w_gp (fun v => v = f 28 0 v13.toNatClampNeg) rfl (fun v14 q14 => ?_)
      have b14x : zB v14 0 5 := by rw [q14]; exact (by have hq9 := hI 28 0 v13.toNatClampNeg; rw [zrg28 (r := 2) (by have hq : v13.toNatClampNeg = v13.toInt.toNat := rfl; have hq2 := b13x; omega)] at hq9; exact hq9)
      refine z_iload (pc := 69) C dX10_mayGo_69 rfl ?_
      refine z_icmp_ne (pc := 71) 88 C dX10_mayGo_71 (by decide) (fun h71_14 => ?_) (fun h71_14 => ?_)
      · skip
        refine z_iconst (pc := 88) (v := 0) C dX10_mayGo_88 (by decide) ?_
        exact z_zret (pc := 89) C hr (z01 (zB.wk (a' := 0) (b' := 1) (zB.of (x := 0) 0 (by decide)) (by decide) (by decide))) dX10_mayGo_89 ⟨⟨_, rfl, (zB.wk (a' := 0) (b' := 1) (zB.of (x := 0) 0 (by decide)) (by decide) (by decide))⟩, hI, hF, (by
                                                                                          intro v hv; cases hv
                                                                                          have hd : a2 = nI a2.toInt.toNat := (nI_ofI (by omega)).1
                                                                                          have x68 : (v13).toNatClampNeg = 8 * a1.toInt.toNat + 2 := by omega
                                                                                          have r68 := q14
                                                                                          rw [x68] at r68
                                                                                          refine Or.inr ⟨rfl, fun h => ?_⟩
                                                                                          rcases h.2.1 with q | q
                                                                                          · omega
                                                                                          · exact absurd (r68.trans q) (by assumption))⟩
      · skip
        have rr16 : v14.toInt = a4.toInt := by simp only [z32lt, z32le, z32eq] at h71_14; omega
        refine z_iload (pc := 74) C dX10_mayGo_74 rfl ?_
        refine z_iload_n (pc := 76) C dX10_mayGo_76 rfl ?_
        refine z_ishr (pc := 77) C dX10_mayGo_77 ?_
        refine w_gp (fun v => v = a5 >>> (a2 &&& 31)) rfl (fun v17 q17 => ?_)
        refine z_iconst (pc := 78) (v := 1) C dX10_mayGo_78 (by decide) ?_
        refine z_iand (pc := 79) C dX10_mayGo_79 ?_
        refine w_gp (fun v => v = v17 &&& (1 : Int32)) rfl (fun v18 q18 => ?_)
        have b18x : zB v18 0 1 := by rw [q18]; exact (zand_b (zB_any v17) (zB.of (x := 1) 1 (by decide)) (by decide))
        refine z_iconst (pc := 80) (v := 1) C dX10_mayGo_80 (by decide) ?_
        refine z_icmp_ne (pc := 81) 88 C dX10_mayGo_81 (by decide) (fun h81_18 => ?_) (fun h81_18 => ?_)
        · skip
          have b20x : zB v18 0 0 := by have q1 := b18x; have q2 := (zB.of (x := 1) 1 (by decide)); simp only [z32lt, z32le, z32eq, Int32.reduceToInt, Int32.toInt_zero] at h81_18; constructor <;> omega
          refine z_iconst (pc := 88) (v := 0) C dX10_mayGo_88 (by decide) ?_
          exact z_zret (pc := 89) C hr (z01 (zB.wk (a' := 0) (b' := 1) (zB.of (x := 0) 0 (by decide)) (by decide) (by decide))) dX10_mayGo_89 ⟨⟨_, rfl, (zB.wk (a' := 0) (b' := 1) (zB.of (x := 0) 0 (by decide)) (by decide) (by decide))⟩, hI, hF, (by
                                                                                          intro v hv; cases hv
                                                                                          have hd : a2 = nI a2.toInt.toNat := (nI_ofI (by omega)).1
                                                                                          have x68 : (v13).toNatClampNeg = 8 * a1.toInt.toNat + 2 := by omega
                                                                                          have r68 := q14
                                                                                          rw [x68] at r68
                                                                                          have z := z01b (x := a5) (a := a2.toInt.toNat) (by omega)
                                                                                          rw [← hd, ← q17, ← q18] at z
                                                                                          by_cases q : bt a5 a2.toInt.toNat = true
                                                                                          · rw [if_pos q] at z
                                                                                            first
                                                                                              | exact Or.inl ⟨rfl, Or.inl (by assumption), Or.inr (r68.symm.trans (by assumption)), q⟩
                                                                                              | exact absurd z (by assumption)
                                                                                          · rw [if_neg q] at z
                                                                                            first
                                                                                              | exact Or.inr ⟨rfl, fun y => q y.2.2⟩
                                                                                              | exact absurd (show v18 = 1 by assumption) (by rw [z]; decide))⟩
        · skip
          have b21x : zB v18 1 1 := by have q1 := b18x; have q2 := (zB.of (x := 1) 1 (by decide)); simp only [z32lt, z32le, z32eq, Int32.reduceToInt, Int32.toInt_zero] at h81_18; constructor <;> omega
          refine z_iconst (pc := 84) (v := 1) C dX10_mayGo_84 (by decide) ?_
          refine z_goto (pc := 85) 89 C dX10_mayGo_85 (by decide) ?_
          exact z_zret (pc := 89) C hr (z01 (zB.wk (a' := 0) (b' := 1) (zB.of (x := 1) 1 (by decide)) (by decide) (by decide))) dX10_mayGo_89 ⟨⟨_, rfl, (zB.wk (a' := 0) (b' := 1) (zB.of (x := 1) 1 (by decide)) (by decide) (by decide))⟩, hI, hF, (by
                                                                                          intro v hv; cases hv
                                                                                          have hd : a2 = nI a2.toInt.toNat := (nI_ofI (by omega)).1
                                                                                          have x68 : (v13).toNatClampNeg = 8 * a1.toInt.toNat + 2 := by omega
                                                                                          have r68 := q14
                                                                                          rw [x68] at r68
                                                                                          have z := z01b (x := a5) (a := a2.toInt.toNat) (by omega)
                                                                                          rw [← hd, ← q17, ← q18] at z
                                                                                          by_cases q : bt a5 a2.toInt.toNat = true
                                                                                          · rw [if_pos q] at z
                                                                                            first
                                                                                              | exact Or.inl ⟨rfl, Or.inl (by assumption), Or.inr (r68.symm.trans (by assumption)), q⟩
                                                                                              | exact absurd z (by assumption)
                                                                                          · rw [if_neg q] at z
                                                                                            first
                                                                                              | exact Or.inr ⟨rfl, fun y => q y.2.2⟩
                                                                                              | exact absurd (show v18 = 1 by assumption) (by rw [z]; decide))⟩
  · skip
    have b22x : zB a3 1 1 := by have q1 := b3; have q2 := (zB.of (x := 0) 0 (by decide)); simp only [z32lt, z32le, z32eq, Int32.reduceToInt, Int32.toInt_zero] at h7_1; constructor <;> omega
    refine z_aload_n (pc := 10) C dX10_mayGo_10 rfl ?_
    refine z_getR (pc := 11) C zf_X10_16 rfl rfl (by decide) dX10_mayGo_11 ?_
    refine z_iload (pc := 14) C dX10_mayGo_14 rfl ?_
    refine z_bipush (pc := 16) (v := 7) C dX10_mayGo_16 (by decide) ?_
    refine z_iadd (pc := 18) C dX10_mayGo_18 ?_
    refine w_gp (fun v => v = v1 + (7 : Int32)) rfl (fun v23 q23 => ?_)
    have e23 : v23.toInt = v1.toInt + 7 := by rw [q23]; exact (zadd_eb b1x (zB.of (x := 7) 7 (by decide)) (by decide) (by decide))
    have b23x : zB v23 7 95 := by have q1 := b1x; have q2 := (zB.of (x := 7) 7 (by decide)); constructor <;> omega
    refine z_iald (pc := 19) C rfl (by decide) (zIx b23x (by decide) (by decide)) dX10_mayGo_19 ?_
    have kq19_23 : v23.toNatClampNeg = v23.toInt.toNat := rfl
    refine w_gp (fun v => v = f 28 0 v23.toNatClampNeg) rfl (fun v24 q24 => ?_)
    have b24x : zB v24 0 7 := by rw [q24]; exact (by have hq9 := hI 28 0 v23.toNatClampNeg; rw [zrg28 (r := 7) (by have hq : v23.toNatClampNeg = v23.toInt.toNat := rfl; have hq2 := b23x; omega)] at hq9; exact hq9)
    refine z_iconst (pc := 20) (v := 1) C dX10_mayGo_20 (by decide) ?_
    refine z_iand (pc := 21) C dX10_mayGo_21 ?_
    refine w_gp (fun v => v = v24 &&& (1 : Int32)) rfl (fun v25 q25 => ?_)
    have b25x : zB v25 0 1 := by rw [q25]; exact (zand_b b24x (zB.of (x := 1) 1 (by decide)) (by decide))
    refine z_iconst (pc := 22) (v := 1) C dX10_mayGo_22 (by decide) ?_
    refine z_icmp_eq (pc := 23) 43 C dX10_mayGo_23 (by decide) (fun h23_25 => ?_) (fun h23_25 => ?_)
    · skip
      have b27x : zB v25 1 1 := by have q1 := b25x; have q2 := (zB.of (x := 1) 1 (by decide)); simp only [z32lt, z32le, z32eq, Int32.reduceToInt, Int32.toInt_zero] at h23_25; constructor <;> omega
      refine z_iconst (pc := 43) (v := 1) C dX10_mayGo_43 (by decide) ?_
      refine z_goto (pc := 44) 48 C dX10_mayGo_44 (by decide) ?_
      refine z_istore (pc := 48) C dX10_mayGo_48 (by rw [hn]; decide) rfl ?_
      refine z_iload (pc := 50) C dX10_mayGo_50 rfl ?_
      refine z_if_eq (pc := 52) 88 C dX10_mayGo_52 (by decide) (fun h52_27 => absurd h52_27 (by decide)) (fun h52_27 => ?_)
      refine z_iload (pc := 55) C dX10_mayGo_55 rfl ?_
      refine z_if_lt (pc := 57) 74 C dX10_mayGo_57 (by decide) (fun h57_28 => ?_) (fun h57_28 => ?_)
      · skip
        have b30x : zB a4 (-4) (-1) := by have q1 := b4; have q2 := (zB.of (x := 0) 0 (by decide)); simp only [z32lt, z32le, z32eq, Int32.reduceToInt, Int32.toInt_zero] at h57_28; constructor <;> omega
        refine z_iload (pc := 74) C dX10_mayGo_74 rfl ?_
        refine z_iload_n (pc := 76) C dX10_mayGo_76 rfl ?_
        refine z_ishr (pc := 77) C dX10_mayGo_77 ?_
        refine w_gp (fun v => v = a5 >>> (a2 &&& 31)) rfl (fun v31 q31 => ?_)
        refine z_iconst (pc := 78) (v := 1) C dX10_mayGo_78 (by decide) ?_
        refine z_iand (pc := 79) C dX10_mayGo_79 ?_
        refine w_gp (fun v => v = v31 &&& (1 : Int32)) rfl (fun v32 q32 => ?_)
        have b32x : zB v32 0 1 := by rw [q32]; exact (zand_b (zB_any v31) (zB.of (x := 1) 1 (by decide)) (by decide))
        refine z_iconst (pc := 80) (v := 1) C dX10_mayGo_80 (by decide) ?_
        refine z_icmp_ne (pc := 81) 88 C dX10_mayGo_81 (by decide) (fun h81_32 => ?_) (fun h81_32 => ?_)
        · skip
          have b34x : zB v32 0 0 := by have q1 := b32x; have q2 := (zB.of (x := 1) 1 (by decide)); simp only [z32lt, z32le, z32eq, Int32.reduceToInt, Int32.toInt_zero] at h81_32; constructor <;> omega
          refine z_iconst (pc := 88) (v := 0) C dX10_mayGo_88 (by decide) ?_
          exact z_zret (pc := 89) C hr (z01 (zB.wk (a' := 0) (b' := 1) (zB.of (x := 0) 0 (by decide)) (by decide) (by decide))) dX10_mayGo_89 ⟨⟨_, rfl, (zB.wk (a' := 0) (b' := 1) (zB.of (x := 0) 0 (by decide)) (by decide) (by decide))⟩, hI, hF, (by
                                                                                          intro v hv; cases hv
                                                                                          have hd : a2 = nI a2.toInt.toNat := (nI_ofI (by omega)).1
                                                                                          have x19 : (v23).toNatClampNeg = 8 * a1.toInt.toNat + 7 := by omega
                                                                                          have r19 := q24
                                                                                          rw [x19] at r19
                                                                                          have e21 : v25 = f 28 0 (8 * a1.toInt.toNat + 7) &&& 1 := by rw [q25, r19]
                                                                                          have z := z01b (x := a5) (a := a2.toInt.toNat) (by omega)
                                                                                          rw [← hd, ← q31, ← q32] at z
                                                                                          by_cases q : bt a5 a2.toInt.toNat = true
                                                                                          · rw [if_pos q] at z
                                                                                            first
                                                                                              | exact Or.inl ⟨rfl, Or.inr (Or.inl (by rw [← e21]; assumption)), Or.inl (by omega), q⟩
                                                                                              | exact absurd z (by assumption)
                                                                                          · rw [if_neg q] at z
                                                                                            first
                                                                                              | exact Or.inr ⟨rfl, fun y => q y.2.2⟩
                                                                                              | exact absurd (show v32 = 1 by assumption) (by rw [z]; decide))⟩
        · skip
          have b35x : zB v32 1 1 := by have q1 := b32x; have q2 := (zB.of (x := 1) 1 (by decide)); simp only [z32lt, z32le, z32eq, Int32.reduceToInt, Int32.toInt_zero] at h81_32; constructor <;> omega
          refine z_iconst (pc := 84) (v := 1) C dX10_mayGo_84 (by decide) ?_
          refine z_goto (pc := 85) 89 C dX10_mayGo_85 (by decide) ?_
          exact z_zret (pc := 89) C hr (z01 (zB.wk (a' := 0) (b' := 1) (zB.of (x := 1) 1 (by decide)) (by decide) (by decide))) dX10_mayGo_89 ⟨⟨_, rfl, (zB.wk (a' := 0) (b' := 1) (zB.of (x := 1) 1 (by decide)) (by decide) (by decide))⟩, hI, hF, (by
                                                                                          intro v hv; cases hv
                                                                                          have hd : a2 = nI a2.toInt.toNat := (nI_ofI (by omega)).1
                                                                                          have x19 : (v23).toNatClampNeg = 8 * a1.toInt.toNat + 7 := by omega
                                                                                          have r19 := q24
                                                                                          rw [x19] at r19
                                                                                          have e21 : v25 = f 28 0 (8 * a1.toInt.toNat + 7) &&& 1 := by rw [q25, r19]
                                                                                          have z := z01b (x := a5) (a := a2.toInt.toNat) (by omega)
                                                                                          rw [← hd, ← q31, ← q32] at z
                                                                                          by_cases q : bt a5 a2.toInt.toNat = true
                                                                                          · rw [if_pos q] at z
                                                                                            first
                                                                                              | exact Or.inl ⟨rfl, Or.inr (Or.inl (by rw [← e21]; assumption)), Or.inl (by omega), q⟩
                                                                                              | exact absurd z (by assumption)
                                                                                          · rw [if_neg q] at z
                                                                                            first
                                                                                              | exact Or.inr ⟨rfl, fun y => q y.2.2⟩
                                                                                              | exact absurd (show v32 = 1 by assumption) (by rw [z]; decide))⟩
      · skip
        have b36x : zB a4 0 5 := by have q1 := b4; have q2 := (zB.of (x := 0) 0 (by decide)); simp only [z32lt, z32le, z32eq, Int32.reduceToInt, Int32.toInt_zero] at h57_28; constructor <;> omega
        refine z_aload_n (pc := 60) C dX10_mayGo_60 rfl ?_
        refine z_getR (pc := 61) C zf_X10_16 rfl rfl (by decide) dX10_mayGo_61 ?_
        refine z_iload (pc := 64) C dX10_mayGo_64 rfl ?_
        refine z_iconst (pc := 66) (v := 2) C dX10_mayGo_66 (by decide) ?_
        refine z_iadd (pc := 67) C dX10_mayGo_67 ?_
        refine w_gp (fun v => v = v1 + (2 : Int32)) rfl (fun v37 q37 => ?_)
        have e37 : v37.toInt = v1.toInt + 2 := by rw [q37]; exact (zadd_eb b1x (zB.of (x := 2) 2 (by decide)) (by decide) (by decide))
        have b37x : zB v37 2 90 := by have q1 := b1x; have q2 := (zB.of (x := 2) 2 (by decide)); constructor <;> omega
        refine z_iald (pc := 68) C rfl (by decide) (zIx b37x (by decide) (by decide)) dX10_mayGo_68 ?_
        have kq68_37 : v37.toNatClampNeg = v37.toInt.toNat := rfl
        refine w_gp (fun v => v = f 28 0 v37.toNatClampNeg) rfl (fun v38 q38 => ?_)
        have b38x : zB v38 0 5 := by rw [q38]; exact (by have hq9 := hI 28 0 v37.toNatClampNeg; rw [zrg28 (r := 2) (by have hq : v37.toNatClampNeg = v37.toInt.toNat := rfl; have hq2 := b37x; omega)] at hq9; exact hq9)
        refine z_iload (pc := 69) C dX10_mayGo_69 rfl ?_
        refine z_icmp_ne (pc := 71) 88 C dX10_mayGo_71 (by decide) (fun h71_38 => ?_) (fun h71_38 => ?_)
        · skip
          refine z_iconst (pc := 88) (v := 0) C dX10_mayGo_88 (by decide) ?_
          exact z_zret (pc := 89) C hr (z01 (zB.wk (a' := 0) (b' := 1) (zB.of (x := 0) 0 (by decide)) (by decide) (by decide))) dX10_mayGo_89 ⟨⟨_, rfl, (zB.wk (a' := 0) (b' := 1) (zB.of (x := 0) 0 (by decide)) (by decide) (by decide))⟩, hI, hF, (by
                                                                                          intro v hv; cases hv
                                                                                          have hd : a2 = nI a2.toInt.toNat := (nI_ofI (by omega)).1
                                                                                          have x19 : (v23).toNatClampNeg = 8 * a1.toInt.toNat + 7 := by omega
                                                                                          have r19 := q24
                                                                                          rw [x19] at r19
                                                                                          have e21 : v25 = f 28 0 (8 * a1.toInt.toNat + 7) &&& 1 := by rw [q25, r19]
                                                                                          have x68 : (v37).toNatClampNeg = 8 * a1.toInt.toNat + 2 := by omega
                                                                                          have r68 := q38
                                                                                          rw [x68] at r68
                                                                                          refine Or.inr ⟨rfl, fun h => ?_⟩
                                                                                          rcases h.2.1 with q | q
                                                                                          · omega
                                                                                          · exact absurd (r68.trans q) (by assumption))⟩
        · skip
          have rr40 : v38.toInt = a4.toInt := by simp only [z32lt, z32le, z32eq] at h71_38; omega
          refine z_iload (pc := 74) C dX10_mayGo_74 rfl ?_
          refine z_iload_n (pc := 76) C dX10_mayGo_76 rfl ?_
          refine z_ishr (pc := 77) C dX10_mayGo_77 ?_
          refine w_gp (fun v => v = a5 >>> (a2 &&& 31)) rfl (fun v41 q41 => ?_)
          refine z_iconst (pc := 78) (v := 1) C dX10_mayGo_78 (by decide) ?_
          refine z_iand (pc := 79) C dX10_mayGo_79 ?_
          refine w_gp (fun v => v = v41 &&& (1 : Int32)) rfl (fun v42 q42 => ?_)
          have b42x : zB v42 0 1 := by rw [q42]; exact (zand_b (zB_any v41) (zB.of (x := 1) 1 (by decide)) (by decide))
          refine z_iconst (pc := 80) (v := 1) C dX10_mayGo_80 (by decide) ?_
          refine z_icmp_ne (pc := 81) 88 C dX10_mayGo_81 (by decide) (fun h81_42 => ?_) (fun h81_42 => ?_)
          · skip
            have b44x : zB v42 0 0 := by have q1 := b42x; have q2 := (zB.of (x := 1) 1 (by decide)); simp only [z32lt, z32le, z32eq, Int32.reduceToInt, Int32.toInt_zero] at h81_42; constructor <;> omega
            refine z_iconst (pc := 88) (v := 0) C dX10_mayGo_88 (by decide) ?_
            exact z_zret (pc := 89) C hr (z01 (zB.wk (a' := 0) (b' := 1) (zB.of (x := 0) 0 (by decide)) (by decide) (by decide))) dX10_mayGo_89 ⟨⟨_, rfl, (zB.wk (a' := 0) (b' := 1) (zB.of (x := 0) 0 (by decide)) (by decide) (by decide))⟩, hI, hF, (by
                                                                                          intro v hv; cases hv
                                                                                          have hd : a2 = nI a2.toInt.toNat := (nI_ofI (by omega)).1
                                                                                          have x19 : (v23).toNatClampNeg = 8 * a1.toInt.toNat + 7 := by omega
                                                                                          have r19 := q24
                                                                                          rw [x19] at r19
                                                                                          have e21 : v25 = f 28 0 (8 * a1.toInt.toNat + 7) &&& 1 := by rw [q25, r19]
                                                                                          have x68 : (v37).toNatClampNeg = 8 * a1.toInt.toNat + 2 := by omega
                                                                                          have r68 := q38
                                                                                          rw [x68] at r68
                                                                                          have z := z01b (x := a5) (a := a2.toInt.toNat) (by omega)
                                                                                          rw [← hd, ← q41, ← q42] at z
                                                                                          by_cases q : bt a5 a2.toInt.toNat = true
                                                                                          · rw [if_pos q] at z
                                                                                            first
                                                                                              | exact Or.inl ⟨rfl, Or.inr (Or.inl (by rw [← e21]; assumption)), Or.inr (r68.symm.trans (by assumption)), q⟩
                                                                                              | exact absurd z (by assumption)
                                                                                          · rw [if_neg q] at z
                                                                                            first
                                                                                              | exact Or.inr ⟨rfl, fun y => q y.2.2⟩
                                                                                              | exact absurd (show v42 = 1 by assumption) (by rw [z]; decide))⟩
          · skip
            have b45x : zB v42 1 1 := by have q1 := b42x; have q2 := (zB.of (x := 1) 1 (by decide)); simp only [z32lt, z32le, z32eq, Int32.reduceToInt, Int32.toInt_zero] at h81_42; constructor <;> omega
            refine z_iconst (pc := 84) (v := 1) C dX10_mayGo_84 (by decide) ?_
            refine z_goto (pc := 85) 89 C dX10_mayGo_85 (by decide) ?_
            exact z_zret (pc := 89) C hr (z01 (zB.wk (a' := 0) (b' := 1) (zB.of (x := 1) 1 (by decide)) (by decide) (by decide))) dX10_mayGo_89 ⟨⟨_, rfl, (zB.wk (a' := 0) (b' := 1) (zB.of (x := 1) 1 (by decide)) (by decide) (by decide))⟩, hI, hF, (by
                                                                                          intro v hv; cases hv
                                                                                          have hd : a2 = nI a2.toInt.toNat := (nI_ofI (by omega)).1
                                                                                          have x19 : (v23).toNatClampNeg = 8 * a1.toInt.toNat + 7 := by omega
                                                                                          have r19 := q24
                                                                                          rw [x19] at r19
                                                                                          have e21 : v25 = f 28 0 (8 * a1.toInt.toNat + 7) &&& 1 := by rw [q25, r19]
                                                                                          have x68 : (v37).toNatClampNeg = 8 * a1.toInt.toNat + 2 := by omega
                                                                                          have r68 := q38
                                                                                          rw [x68] at r68
                                                                                          have z := z01b (x := a5) (a := a2.toInt.toNat) (by omega)
                                                                                          rw [← hd, ← q41, ← q42] at z
                                                                                          by_cases q : bt a5 a2.toInt.toNat = true
                                                                                          · rw [if_pos q] at z
                                                                                            first
                                                                                              | exact Or.inl ⟨rfl, Or.inr (Or.inl (by rw [← e21]; assumption)), Or.inr (r68.symm.trans (by assumption)), q⟩
                                                                                              | exact absurd z (by assumption)
                                                                                          · rw [if_neg q] at z
                                                                                            first
                                                                                              | exact Or.inr ⟨rfl, fun y => q y.2.2⟩
                                                                                              | exact absurd (show v42 = 1 by assumption) (by rw [z]; decide))⟩
    · skip
      have b46x : zB v25 0 0 := by have q1 := b25x; have q2 := (zB.of (x := 1) 1 (by decide)); simp only [z32lt, z32le, z32eq, Int32.reduceToInt, Int32.toInt_zero] at h23_25; constructor <;> omega
      refine z_aload_n (pc := 26) C dX10_mayGo_26 rfl ?_
      refine z_iload_n (pc := 27) C dX10_mayGo_27 rfl ?_
      refine z_aload_n (pc := 28) C dX10_mayGo_28 rfl ?_
      refine z_getR (pc := 29) C zf_X10_16 rfl rfl (by decide) dX10_mayGo_29 ?_
      refine z_iload (pc := 32) C dX10_mayGo_32 rfl ?_
      refine z_iconst (pc := 34) (v := 2) C dX10_mayGo_34 (by decide) ?_
      refine z_iadd (pc := 35) C dX10_mayGo_35 ?_
      refine w_gp (fun v => v = v1 + (2 : Int32)) rfl (fun v47 q47 => ?_)
      have e47 : v47.toInt = v1.toInt + 2 := by rw [q47]; exact (zadd_eb b1x (zB.of (x := 2) 2 (by decide)) (by decide) (by decide))
      have b47x : zB v47 2 90 := by have q1 := b1x; have q2 := (zB.of (x := 2) 2 (by decide)); constructor <;> omega
      refine z_iald (pc := 36) C rfl (by decide) (zIx b47x (by decide) (by decide)) dX10_mayGo_36 ?_
      have kq36_47 : v47.toNatClampNeg = v47.toInt.toNat := rfl
      refine w_gp (fun v => v = f 28 0 v47.toNatClampNeg) rfl (fun v48 q48 => ?_)
      have b48x : zB v48 0 5 := by rw [q48]; exact (by have hq9 := hI 28 0 v47.toNatClampNeg; rw [zrg28 (r := 2) (by have hq : v47.toNatClampNeg = v47.toInt.toNat := rfl; have hq2 := b47x; omega)] at hq9; exact hq9)
      refine z_callV (pc := 37) C zk_X10_135 (x_X10_isDeadly _ _ a2 b2 v48 b48x hI) rfl rfl (by decide) rfl rfl (Nat.le_of_ble_eq_true rfl) dX10_mayGo_37 (fun r49 g49 q49 => ?_)
      obtain ⟨⟨v49, rfl, b49x⟩, hI49, hF49q, hp49_0⟩ := q49
      have hp49_0 := hp49_0 _ rfl
      obtain rfl := zFr_nil hF49q
      simp only [Option.toList, List.cons_append, List.nil_append]
      refine z_if_ne (pc := 40) 47 C dX10_mayGo_40 (by decide) (fun h40_49 => ?_) (fun h40_49 => ?_)
      · skip
        have b51x : zB v49 1 1 := by have q1 := b49x; have q2 := (zB.of (x := 0) 0 (by decide)); simp only [z32lt, z32le, z32eq, Int32.reduceToInt, Int32.toInt_zero] at h40_49; constructor <;> omega
        refine z_iconst (pc := 47) (v := 0) C dX10_mayGo_47 (by decide) ?_
        refine z_istore (pc := 48) C dX10_mayGo_48 (by rw [hn]; decide) rfl ?_
        refine z_iload (pc := 50) C dX10_mayGo_50 rfl ?_
        refine z_if_eq (pc := 52) 88 C dX10_mayGo_52 (by decide) (fun h52_51 => ?_) (fun h52_51 => absurd h52_51 (by decide))
        refine z_iconst (pc := 88) (v := 0) C dX10_mayGo_88 (by decide) ?_
        exact z_zret (pc := 89) C hr (z01 (zB.wk (a' := 0) (b' := 1) (zB.of (x := 0) 0 (by decide)) (by decide) (by decide))) dX10_mayGo_89 ⟨⟨_, rfl, (zB.wk (a' := 0) (b' := 1) (zB.of (x := 0) 0 (by decide)) (by decide) (by decide))⟩, hI, hF, (by
                                                                                          intro v hv; cases hv
                                                                                          have hd : a2 = nI a2.toInt.toNat := (nI_ofI (by omega)).1
                                                                                          have x19 : (v23).toNatClampNeg = 8 * a1.toInt.toNat + 7 := by omega
                                                                                          have r19 := q24
                                                                                          rw [x19] at r19
                                                                                          have e21 : v25 = f 28 0 (8 * a1.toInt.toNat + 7) &&& 1 := by rw [q25, r19]
                                                                                          have x36 : (v47).toNatClampNeg = 8 * a1.toInt.toNat + 2 := by omega
                                                                                          have r36 := q48
                                                                                          rw [x36] at r36
                                                                                          have hz := hp49_0
                                                                                          rw [r36] at hz
                                                                                          refine Or.inr ⟨rfl, fun h => ?_⟩
                                                                                          rcases h.1 with q | q | q
                                                                                          · exact absurd q (by assumption)
                                                                                          · exact absurd (e21.trans q) (by assumption)
                                                                                          · exact q (zbo_y hz (by omega)))⟩
      · skip
        have b53x : zB v49 0 0 := by have q1 := b49x; have q2 := (zB.of (x := 0) 0 (by decide)); simp only [z32lt, z32le, z32eq, Int32.reduceToInt, Int32.toInt_zero] at h40_49; constructor <;> omega
        refine z_iconst (pc := 43) (v := 1) C dX10_mayGo_43 (by decide) ?_
        refine z_goto (pc := 44) 48 C dX10_mayGo_44 (by decide) ?_
        refine z_istore (pc := 48) C dX10_mayGo_48 (by rw [hn]; decide) rfl ?_
        refine z_iload (pc := 50) C dX10_mayGo_50 rfl ?_
        refine z_if_eq (pc := 52) 88 C dX10_mayGo_52 (by decide) (fun h52_53 => absurd h52_53 (by decide)) (fun h52_53 => ?_)
        refine z_iload (pc := 55) C dX10_mayGo_55 rfl ?_
        refine z_if_lt (pc := 57) 74 C dX10_mayGo_57 (by decide) (fun h57_54 => ?_) (fun h57_54 => ?_)
        · skip
          have b56x : zB a4 (-4) (-1) := by have q1 := b4; have q2 := (zB.of (x := 0) 0 (by decide)); simp only [z32lt, z32le, z32eq, Int32.reduceToInt, Int32.toInt_zero] at h57_54; constructor <;> omega
          refine z_iload (pc := 74) C dX10_mayGo_74 rfl ?_
          refine z_iload_n (pc := 76) C dX10_mayGo_76 rfl ?_
          refine z_ishr (pc := 77) C dX10_mayGo_77 ?_
          refine w_gp (fun v => v = a5 >>> (a2 &&& 31)) rfl (fun v57 q57 => ?_)
          refine z_iconst (pc := 78) (v := 1) C dX10_mayGo_78 (by decide) ?_
          refine z_iand (pc := 79) C dX10_mayGo_79 ?_
          refine w_gp (fun v => v = v57 &&& (1 : Int32)) rfl (fun v58 q58 => ?_)
          have b58x : zB v58 0 1 := by rw [q58]; exact (zand_b (zB_any v57) (zB.of (x := 1) 1 (by decide)) (by decide))
          refine z_iconst (pc := 80) (v := 1) C dX10_mayGo_80 (by decide) ?_
          refine z_icmp_ne (pc := 81) 88 C dX10_mayGo_81 (by decide) (fun h81_58 => ?_) (fun h81_58 => ?_)
          · skip
            have b60x : zB v58 0 0 := by have q1 := b58x; have q2 := (zB.of (x := 1) 1 (by decide)); simp only [z32lt, z32le, z32eq, Int32.reduceToInt, Int32.toInt_zero] at h81_58; constructor <;> omega
            refine z_iconst (pc := 88) (v := 0) C dX10_mayGo_88 (by decide) ?_
            exact z_zret (pc := 89) C hr (z01 (zB.wk (a' := 0) (b' := 1) (zB.of (x := 0) 0 (by decide)) (by decide) (by decide))) dX10_mayGo_89 ⟨⟨_, rfl, (zB.wk (a' := 0) (b' := 1) (zB.of (x := 0) 0 (by decide)) (by decide) (by decide))⟩, hI, hF, (by
                                                                                          intro v hv; cases hv
                                                                                          have hd : a2 = nI a2.toInt.toNat := (nI_ofI (by omega)).1
                                                                                          have x19 : (v23).toNatClampNeg = 8 * a1.toInt.toNat + 7 := by omega
                                                                                          have r19 := q24
                                                                                          rw [x19] at r19
                                                                                          have e21 : v25 = f 28 0 (8 * a1.toInt.toNat + 7) &&& 1 := by rw [q25, r19]
                                                                                          have x36 : (v47).toNatClampNeg = 8 * a1.toInt.toNat + 2 := by omega
                                                                                          have r36 := q48
                                                                                          rw [x36] at r36
                                                                                          have hz := hp49_0
                                                                                          rw [r36] at hz
                                                                                          have z := z01b (x := a5) (a := a2.toInt.toNat) (by omega)
                                                                                          rw [← hd, ← q57, ← q58] at z
                                                                                          by_cases q : bt a5 a2.toInt.toNat = true
                                                                                          · rw [if_pos q] at z
                                                                                            first
                                                                                              | exact Or.inl ⟨rfl, Or.inr (Or.inr (zbo_n hz (by omega))), Or.inl (by omega), q⟩
                                                                                              | exact absurd z (by assumption)
                                                                                          · rw [if_neg q] at z
                                                                                            first
                                                                                              | exact Or.inr ⟨rfl, fun y => q y.2.2⟩
                                                                                              | exact absurd (show v58 = 1 by assumption) (by rw [z]; decide))⟩
          · skip
            have b61x : zB v58 1 1 := by have q1 := b58x; have q2 := (zB.of (x := 1) 1 (by decide)); simp only [z32lt, z32le, z32eq, Int32.reduceToInt, Int32.toInt_zero] at h81_58; constructor <;> omega
            refine z_iconst (pc := 84) (v := 1) C dX10_mayGo_84 (by decide) ?_
            refine z_goto (pc := 85) 89 C dX10_mayGo_85 (by decide) ?_
            exact z_zret (pc := 89) C hr (z01 (zB.wk (a' := 0) (b' := 1) (zB.of (x := 1) 1 (by decide)) (by decide) (by decide))) dX10_mayGo_89 ⟨⟨_, rfl, (zB.wk (a' := 0) (b' := 1) (zB.of (x := 1) 1 (by decide)) (by decide) (by decide))⟩, hI, hF, (by
                                                                                          intro v hv; cases hv
                                                                                          have hd : a2 = nI a2.toInt.toNat := (nI_ofI (by omega)).1
                                                                                          have x19 : (v23).toNatClampNeg = 8 * a1.toInt.toNat + 7 := by omega
                                                                                          have r19 := q24
                                                                                          rw [x19] at r19
                                                                                          have e21 : v25 = f 28 0 (8 * a1.toInt.toNat + 7) &&& 1 := by rw [q25, r19]
                                                                                          have x36 : (v47).toNatClampNeg = 8 * a1.toInt.toNat + 2 := by omega
                                                                                          have r36 := q48
                                                                                          rw [x36] at r36
                                                                                          have hz := hp49_0
                                                                                          rw [r36] at hz
                                                                                          have z := z01b (x := a5) (a := a2.toInt.toNat) (by omega)
                                                                                          rw [← hd, ← q57, ← q58] at z
                                                                                          by_cases q : bt a5 a2.toInt.toNat = true
                                                                                          · rw [if_pos q] at z
                                                                                            first
                                                                                              | exact Or.inl ⟨rfl, Or.inr (Or.inr (zbo_n hz (by omega))), Or.inl (by omega), q⟩
                                                                                              | exact absurd z (by assumption)
                                                                                          · rw [if_neg q] at z
                                                                                            first
                                                                                              | exact Or.inr ⟨rfl, fun y => q y.2.2⟩
                                                                                              | exact absurd (show v58 = 1 by assumption) (by rw [z]; decide))⟩
        · skip
          have b62x : zB a4 0 5 := by have q1 := b4; have q2 := (zB.of (x := 0) 0 (by decide)); simp only [z32lt, z32le, z32eq, Int32.reduceToInt, Int32.toInt_zero] at h57_54; constructor <;> omega
          refine z_aload_n (pc := 60) C dX10_mayGo_60 rfl ?_
          refine z_getR (pc := 61) C zf_X10_16 rfl rfl (by decide) dX10_mayGo_61 ?_
          refine z_iload (pc := 64) C dX10_mayGo_64 rfl ?_
          refine z_iconst (pc := 66) (v := 2) C dX10_mayGo_66 (by decide) ?_
          refine z_iadd (pc := 67) C dX10_mayGo_67 ?_
          refine w_gp (fun v => v = v1 + (2 : Int32)) rfl (fun v63 q63 => ?_)
          have e63 : v63.toInt = v1.toInt + 2 := by rw [q63]; exact (zadd_eb b1x (zB.of (x := 2) 2 (by decide)) (by decide) (by decide))
          have b63x : zB v63 2 90 := by have q1 := b1x; have q2 := (zB.of (x := 2) 2 (by decide)); constructor <;> omega
          refine z_iald (pc := 68) C rfl (by decide) (zIx b63x (by decide) (by decide)) dX10_mayGo_68 ?_
          have kq68_63 : v63.toNatClampNeg = v63.toInt.toNat := rfl
          refine w_gp (fun v => v = f 28 0 v63.toNatClampNeg) rfl (fun v64 q64 => ?_)
          have b64x : zB v64 0 5 := by rw [q64]; exact (by have hq9 := hI 28 0 v63.toNatClampNeg; rw [zrg28 (r := 2) (by have hq : v63.toNatClampNeg = v63.toInt.toNat := rfl; have hq2 := b63x; omega)] at hq9; exact hq9)
          refine z_iload (pc := 69) C dX10_mayGo_69 rfl ?_
          refine z_icmp_ne (pc := 71) 88 C dX10_mayGo_71 (by decide) (fun h71_64 => ?_) (fun h71_64 => ?_)
          · skip
            refine z_iconst (pc := 88) (v := 0) C dX10_mayGo_88 (by decide) ?_
            exact z_zret (pc := 89) C hr (z01 (zB.wk (a' := 0) (b' := 1) (zB.of (x := 0) 0 (by decide)) (by decide) (by decide))) dX10_mayGo_89 ⟨⟨_, rfl, (zB.wk (a' := 0) (b' := 1) (zB.of (x := 0) 0 (by decide)) (by decide) (by decide))⟩, hI, hF, (by
                                                                                          intro v hv; cases hv
                                                                                          have hd : a2 = nI a2.toInt.toNat := (nI_ofI (by omega)).1
                                                                                          have x19 : (v23).toNatClampNeg = 8 * a1.toInt.toNat + 7 := by omega
                                                                                          have r19 := q24
                                                                                          rw [x19] at r19
                                                                                          have e21 : v25 = f 28 0 (8 * a1.toInt.toNat + 7) &&& 1 := by rw [q25, r19]
                                                                                          have x36 : (v47).toNatClampNeg = 8 * a1.toInt.toNat + 2 := by omega
                                                                                          have r36 := q48
                                                                                          rw [x36] at r36
                                                                                          have hz := hp49_0
                                                                                          rw [r36] at hz
                                                                                          have x68 : (v63).toNatClampNeg = 8 * a1.toInt.toNat + 2 := by omega
                                                                                          have r68 := q64
                                                                                          rw [x68] at r68
                                                                                          refine Or.inr ⟨rfl, fun h => ?_⟩
                                                                                          rcases h.2.1 with q | q
                                                                                          · omega
                                                                                          · exact absurd (r68.trans q) (by assumption))⟩
          · skip
            have rr66 : v64.toInt = a4.toInt := by simp only [z32lt, z32le, z32eq] at h71_64; omega
            refine z_iload (pc := 74) C dX10_mayGo_74 rfl ?_
            refine z_iload_n (pc := 76) C dX10_mayGo_76 rfl ?_
            refine z_ishr (pc := 77) C dX10_mayGo_77 ?_
            refine w_gp (fun v => v = a5 >>> (a2 &&& 31)) rfl (fun v67 q67 => ?_)
            refine z_iconst (pc := 78) (v := 1) C dX10_mayGo_78 (by decide) ?_
            refine z_iand (pc := 79) C dX10_mayGo_79 ?_
            refine w_gp (fun v => v = v67 &&& (1 : Int32)) rfl (fun v68 q68 => ?_)
            have b68x : zB v68 0 1 := by rw [q68]; exact (zand_b (zB_any v67) (zB.of (x := 1) 1 (by decide)) (by decide))
            refine z_iconst (pc := 80) (v := 1) C dX10_mayGo_80 (by decide) ?_
            refine z_icmp_ne (pc := 81) 88 C dX10_mayGo_81 (by decide) (fun h81_68 => ?_) (fun h81_68 => ?_)
            · skip
              have b70x : zB v68 0 0 := by have q1 := b68x; have q2 := (zB.of (x := 1) 1 (by decide)); simp only [z32lt, z32le, z32eq, Int32.reduceToInt, Int32.toInt_zero] at h81_68; constructor <;> omega
              refine z_iconst (pc := 88) (v := 0) C dX10_mayGo_88 (by decide) ?_
              exact z_zret (pc := 89) C hr (z01 (zB.wk (a' := 0) (b' := 1) (zB.of (x := 0) 0 (by decide)) (by decide) (by decide))) dX10_mayGo_89 ⟨⟨_, rfl, (zB.wk (a' := 0) (b' := 1) (zB.of (x := 0) 0 (by decide)) (by decide) (by decide))⟩, hI, hF, (by
                                                                                          intro v hv; cases hv
                                                                                          have hd : a2 = nI a2.toInt.toNat := (nI_ofI (by omega)).1
                                                                                          have x19 : (v23).toNatClampNeg = 8 * a1.toInt.toNat + 7 := by omega
                                                                                          have r19 := q24
                                                                                          rw [x19] at r19
                                                                                          have e21 : v25 = f 28 0 (8 * a1.toInt.toNat + 7) &&& 1 := by rw [q25, r19]
                                                                                          have x36 : (v47).toNatClampNeg = 8 * a1.toInt.toNat + 2 := by omega
                                                                                          have r36 := q48
                                                                                          rw [x36] at r36
                                                                                          have hz := hp49_0
                                                                                          rw [r36] at hz
                                                                                          have x68 : (v63).toNatClampNeg = 8 * a1.toInt.toNat + 2 := by omega
                                                                                          have r68 := q64
                                                                                          rw [x68] at r68
                                                                                          have z := z01b (x := a5) (a := a2.toInt.toNat) (by omega)
                                                                                          rw [← hd, ← q67, ← q68] at z
                                                                                          by_cases q : bt a5 a2.toInt.toNat = true
                                                                                          · rw [if_pos q] at z
                                                                                            first
                                                                                              | exact Or.inl ⟨rfl, Or.inr (Or.inr (zbo_n hz (by omega))), Or.inr (r68.symm.trans (by assumption)), q⟩
                                                                                              | exact absurd z (by assumption)
                                                                                          · rw [if_neg q] at z
                                                                                            first
                                                                                              | exact Or.inr ⟨rfl, fun y => q y.2.2⟩
                                                                                              | exact absurd (show v68 = 1 by assumption) (by rw [z]; decide))⟩
            · skip
              have b71x : zB v68 1 1 := by have q1 := b68x; have q2 := (zB.of (x := 1) 1 (by decide)); simp only [z32lt, z32le, z32eq, Int32.reduceToInt, Int32.toInt_zero] at h81_68; constructor <;> omega
              refine z_iconst (pc := 84) (v := 1) C dX10_mayGo_84 (by decide) ?_
              refine z_goto (pc := 85) 89 C dX10_mayGo_85 (by decide) ?_
              exact z_zret (pc := 89) C hr (z01 (zB.wk (a' := 0) (b' := 1) (zB.of (x := 1) 1 (by decide)) (by decide) (by decide))) dX10_mayGo_89 ⟨⟨_, rfl, (zB.wk (a' := 0) (b' := 1) (zB.of (x := 1) 1 (by decide)) (by decide) (by decide))⟩, hI, hF, (by
                                                                                          intro v hv; cases hv
                                                                                          have hd : a2 = nI a2.toInt.toNat := (nI_ofI (by omega)).1
                                                                                          have x19 : (v23).toNatClampNeg = 8 * a1.toInt.toNat + 7 := by omega
                                                                                          have r19 := q24
                                                                                          rw [x19] at r19
                                                                                          have e21 : v25 = f 28 0 (8 * a1.toInt.toNat + 7) &&& 1 := by rw [q25, r19]
                                                                                          have x36 : (v47).toNatClampNeg = 8 * a1.toInt.toNat + 2 := by omega
                                                                                          have r36 := q48
                                                                                          rw [x36] at r36
                                                                                          have hz := hp49_0
                                                                                          rw [r36] at hz
                                                                                          have x68 : (v63).toNatClampNeg = 8 * a1.toInt.toNat + 2 := by omega
                                                                                          have r68 := q64
                                                                                          rw [x68] at r68
                                                                                          have z := z01b (x := a5) (a := a2.toInt.toNat) (by omega)
                                                                                          rw [← hd, ← q67, ← q68] at z
                                                                                          by_cases q : bt a5 a2.toInt.toNat = true
                                                                                          · rw [if_pos q] at z
                                                                                            first
                                                                                              | exact Or.inl ⟨rfl, Or.inr (Or.inr (zbo_n hz (by omega))), Or.inr (r68.symm.trans (by assumption)), q⟩
                                                                                              | exact absurd z (by assumption)
                                                                                          · rw [if_neg q] at z
                                                                                            first
                                                                                              | exact Or.inr ⟨rfl, fun y => q y.2.2⟩
                                                                                              | exact absurd (show v68 = 1 by assumption) (by rw [z]; decide))⟩

set_option maxRecDepth 100000 in
set_option maxHeartbeats 4000000 in
theorem x_X10_goes (d : Nat) (f : zM) (a1 : Int32) (b1 : zB a1 0 11) (a2 : Int32) (b2 : zB a2 0 5) (a3 : Int32) (b3 : zB a3 0 1) (a4 : Int32) (b4 : zB a4 (-4) 5) (a5 : Int32) (b5 : zB a5 0 255) (hI : zInv f) : ZM (d + 4) yX10_goes cX10_goes 8 (some .int) [zr 25 0, zi a1, zi a2, zi a3, zi a4, zi a5] f (fun r g => (∃ v, r = some (zi v) ∧ zB v 0 255) ∧ zInv g ∧ zFr [] f g ∧ (∀ v : Int32, r = some (zi v) → v = zbf (fun i => f 28 0 (8 * a1.toInt.toNat + 1) = a2 ∧ bt (f 31 0 a1.toInt.toNat) i = true ∧ zmg f a1.toInt.toNat i a3 a4 a5) (f 25 0 2).toInt.toNat)) := by
  refine ZM.intro (by decide +kernel) (Nat.le_of_ble_eq_true rfl) ?_
  intro X C hr hn
  have hF : zFr [] f f := zFr.rf _ _
  have ct25_0_2 : zB (f 25 0 2) 0 8 := hI 25 0 2
  have J : ∀ t : Nat, (∀ a6_6 : Int32, zB a6_6 0 255 → ∀ a6_7 : Int32, zB a6_7 0 8 → ∀ g : zM, zInv g → zFr [] f g → zB (g 25 0 2) 0 8 → (g = f) → (a6_6 = zbf (fun i => f 28 0 (8 * a1.toInt.toNat + 1) = a2 ∧ bt (f 31 0 a1.toInt.toNat) i = true ∧ zmg f a1.toInt.toNat i a3 a4 a5) (a6_7.toInt.toNat)) → (a6_7.toInt ≤ (f 25 0 2).toInt) → ((g 25 0 2).toInt = (f 25 0 2).toInt) → (0 + 3 * (8 - a6_7.toInt) : Int) < t → Z X 6 [some (zr 25 0), some (zi a1), some (zi a2), some (zi a3), some (zi a4), some (zi a5), some (zi a6_6), some (zi a6_7)] [] g) := by
    intro t
    induction t with
    | zero =>
      intros; exfalso; omega
    | succ t ih =>
      have ih0 := ih
      intro a6_6 b6_6 a6_7 b6_7 g6_ hI6_ hF6_ f6_25_0_2 hR6_0 hR6_1 hR6_2 hR6_3 hM6_
      refine z_iload (pc := 6) C dX10_goes_6 rfl ?_
      refine z_aload_n (pc := 8) C dX10_goes_8 rfl ?_
      refine z_getI (pc := 9) C zf_X10_73 rfl rfl (by decide) dX10_goes_9 ?_
      refine w_gp (fun v => v = g6_ 25 0 2) rfl (fun v1 q1 => ?_)
      have e1 : v1.toInt = (g6_ 25 0 2).toInt := by rw [q1]
      have b1x : zB v1 0 8 := by first | exact zB.eqv e1 f6_25_0_2 | (have q9 := f6_25_0_2; constructor <;> omega)
      refine z_icmp_ge (pc := 12) 79 C dX10_goes_12 (by decide) (fun h12_1 => ?_) (fun h12_1 => ?_)
      · skip
        have rr3 : a6_7.toInt ≥ v1.toInt := by simp only [z32lt, z32le, z32eq] at h12_1; omega
        refine z_iload (pc := 79) C dX10_goes_79 rfl ?_
        exact z_iret (pc := 81) C hr dX10_goes_81 ⟨⟨_, rfl, b6_6⟩, hI6_, hF6_, (by
                                                                                          intro v hv; cases hv
                                                                                          have hn : (f 25 0 2).toInt.toNat = a6_7.toInt.toNat := by omega
                                                                                          rw [hn]; exact hR6_1)⟩
      · skip
        have rr4 : a6_7.toInt < v1.toInt := by simp only [z32lt, z32le, z32eq] at h12_1; omega
        have b5x : zB a6_7 0 7 := by have q1 := b6_7; have q2 := b1x; simp only [z32lt, z32le, z32eq, Int32.reduceToInt, Int32.toInt_zero] at h12_1; constructor <;> omega
        have b6x : zB v1 1 8 := by have q1 := b6_7; have q2 := b1x; simp only [z32lt, z32le, z32eq, Int32.reduceToInt, Int32.toInt_zero] at h12_1; constructor <;> omega
        have c7x : zB (g6_ 25 0 2) 1 8 := by first | assumption | (constructor <;> omega)
        refine z_aload_n (pc := 15) C dX10_goes_15 rfl ?_
        refine z_getR (pc := 16) C zf_X10_16 rfl rfl (by decide) dX10_goes_16 ?_
        refine z_bipush (pc := 19) (v := 8) C dX10_goes_19 (by decide) ?_
        refine z_iload_n (pc := 21) C dX10_goes_21 rfl ?_
        refine z_imul (pc := 22) C dX10_goes_22 ?_
        refine w_gp (fun v => v = (8 : Int32) * a1) rfl (fun v8 q8 => ?_)
        have e8 : v8.toInt = 8 * a1.toInt := by rw [q8]; exact (zmul_kb 8 (by decide) (by decide) b1 (by decide) (by decide))
        have b8x : zB v8 0 88 := zmul_bb e8 (by decide) b1
        refine z_iconst (pc := 23) (v := 1) C dX10_goes_23 (by decide) ?_
        refine z_iadd (pc := 24) C dX10_goes_24 ?_
        refine w_gp (fun v => v = v8 + (1 : Int32)) rfl (fun v9 q9 => ?_)
        have e9 : v9.toInt = v8.toInt + 1 := by rw [q9]; exact (zadd_eb b8x (zB.of (x := 1) 1 (by decide)) (by decide) (by decide))
        have b9x : zB v9 1 89 := by have q1 := b8x; have q2 := (zB.of (x := 1) 1 (by decide)); constructor <;> omega
        refine z_iald (pc := 25) C rfl (by decide) (zIx b9x (by decide) (by decide)) dX10_goes_25 ?_
        have kq25_9 : v9.toNatClampNeg = v9.toInt.toNat := rfl
        refine w_gp (fun v => v = g6_ 28 0 v9.toNatClampNeg) rfl (fun v10 q10 => ?_)
        have b10x : zB v10 0 5 := by rw [q10]; exact (by have hq9 := hI6_ 28 0 v9.toNatClampNeg; rw [zrg28 (r := 1) (by have hq : v9.toNatClampNeg = v9.toInt.toNat := rfl; have hq2 := b9x; omega)] at hq9; exact hq9)
        refine z_iload_n (pc := 26) C dX10_goes_26 rfl ?_
        refine z_icmp_ne (pc := 27) 79 C dX10_goes_27 (by decide) (fun h27_10 => ?_) (fun h27_10 => ?_)
        · skip
          refine z_iload (pc := 79) C dX10_goes_79 rfl ?_
          exact z_iret (pc := 81) C hr dX10_goes_81 ⟨⟨_, rfl, b6_6⟩, hI6_, hF6_, (by
                                                                                          intro v hv; cases hv
                                                                                          have x25 : (v9).toNatClampNeg = 8 * a1.toInt.toNat + 1 := by omega
                                                                                          have r25 := q10
                                                                                          rw [x25, hR6_0] at r25
                                                                                          have hno : ∀ k : Nat, ¬ (f 28 0 (8 * a1.toInt.toNat + 1) = a2 ∧ bt (f 31 0 a1.toInt.toNat) k = true ∧ zmg f a1.toInt.toNat k a3 a4 a5) := fun k h => absurd (r25.trans h.1) (by assumption)
                                                                                          rw [hR6_1, zbf_0 _ (fun k _ => hno k), zbf_0 _ (fun k _ => hno k)])⟩
        · skip
          have rr12 : v10.toInt = a2.toInt := by simp only [z32lt, z32le, z32eq] at h27_10; omega
          refine z_iload (pc := 30) C dX10_goes_30 rfl ?_
          refine z_aload_n (pc := 32) C dX10_goes_32 rfl ?_
          refine z_getR (pc := 33) C zf_X10_25 rfl rfl (by decide) dX10_goes_33 ?_
          refine z_iload_n (pc := 36) C dX10_goes_36 rfl ?_
          refine z_iald (pc := 37) C rfl (by decide) (zIx b1 (by decide) (by decide)) dX10_goes_37 ?_
          have kq37_12 : a1.toNatClampNeg = a1.toInt.toNat := rfl
          refine w_gp (fun v => v = g6_ 31 0 a1.toNatClampNeg) rfl (fun v13 q13 => ?_)
          have b13x : zB v13 0 255 := by rw [q13]; exact (hI6_ 31 0 a1.toNatClampNeg)
          refine z_iload (pc := 38) C dX10_goes_38 rfl ?_
          refine z_ishr (pc := 40) C dX10_goes_40 ?_
          refine w_gp (fun v => v = v13 >>> (a6_7 &&& 31)) rfl (fun v14 q14 => ?_)
          refine z_iconst (pc := 41) (v := 1) C dX10_goes_41 (by decide) ?_
          refine z_iand (pc := 42) C dX10_goes_42 ?_
          refine w_gp (fun v => v = v14 &&& (1 : Int32)) rfl (fun v15 q15 => ?_)
          have b15x : zB v15 0 1 := by rw [q15]; exact (zand_b (zB_any v14) (zB.of (x := 1) 1 (by decide)) (by decide))
          refine z_iconst (pc := 43) (v := 1) C dX10_goes_43 (by decide) ?_
          refine z_icmp_ne (pc := 44) 69 C dX10_goes_44 (by decide) (fun h44_15 => ?_) (fun h44_15 => ?_)
          · skip
            have b17x : zB v15 0 0 := by have q1 := b15x; have q2 := (zB.of (x := 1) 1 (by decide)); simp only [z32lt, z32le, z32eq, Int32.reduceToInt, Int32.toInt_zero] at h44_15; constructor <;> omega
            refine z_iconst (pc := 69) (v := 0) C dX10_goes_69 (by decide) ?_
            refine z_ior (pc := 70) C dX10_goes_70 ?_
            refine w_gp (fun v => v = a6_6 ||| (0 : Int32)) rfl (fun v18 q18 => ?_)
            have b18x : zB v18 0 255 := by rw [q18]; exact (zor_b 8 b6_6 (zB.of (x := 0) 0 (by decide)) (by decide) (by decide) (by decide) (by decide) (by decide))
            refine z_istore (pc := 71) C dX10_goes_71 (by rw [hn]; decide) rfl ?_
            refine z_iinc (pc := 73) (v := 1) C dX10_goes_73 rfl (by decide) (by rw [hn]; decide) rfl ?_
            obtain ⟨v19, hv19, e19⟩ : ∃ v : Int32, v = a6_7 + 1 ∧ v.toInt = a6_7.toInt + 1 := ⟨_, rfl, zadd_eb b5x (zB.of (x := 1) 1 (by decide)) (by decide) (by decide)⟩
            rw [← hv19]
            have b19x : zB v19 1 8 := by have q9 := b5x; constructor <;> omega
            refine z_goto (pc := 76) 6 C dX10_goes_76 (by decide) ?_
            exact ih0 v18 b18x v19 (zB.wk (a' := 0) (b' := 8) b19x (by decide) (by decide)) g6_ hI6_ hF6_ (zB.wk c7x (by decide) (by decide)) (by exact hR6_0) (by
                                                                                          have hn : (v19).toInt.toNat = a6_7.toInt.toNat + 1 := by omega
                                                                                          have hi : a6_7 = nI a6_7.toInt.toNat := (nI_ofI (by omega)).1
                                                                                          have x25 : (v9).toNatClampNeg = 8 * a1.toInt.toNat + 1 := by omega
                                                                                          have r25 := q10
                                                                                          rw [x25, hR6_0] at r25
                                                                                          have hx : a1.toNatClampNeg = a1.toInt.toNat := rfl
                                                                                          have r37 := q13
                                                                                          rw [hx, hR6_0] at r37
                                                                                          have z := z01b (x := f 31 0 a1.toInt.toNat) (a := a6_7.toInt.toNat) (by omega)
                                                                                          rw [← hi, ← r37, ← q14, ← q15] at z
                                                                                          have ho := q18
                                                                                          rw [hn, zbf, ← hR6_1, ho]
                                                                                          congr 1
                                                                                          rw [← r37]
                                                                                          rw [if_neg (fun h => by rw [h.2.1, if_pos rfl] at z; exact absurd z (by assumption))]) (by omega) (by omega) (by omega)
          · skip
            have b20x : zB v15 1 1 := by have q1 := b15x; have q2 := (zB.of (x := 1) 1 (by decide)); simp only [z32lt, z32le, z32eq, Int32.reduceToInt, Int32.toInt_zero] at h44_15; constructor <;> omega
            refine z_aload_n (pc := 47) C dX10_goes_47 rfl ?_
            refine z_iload_n (pc := 48) C dX10_goes_48 rfl ?_
            refine z_iload (pc := 49) C dX10_goes_49 rfl ?_
            refine z_iload_n (pc := 51) C dX10_goes_51 rfl ?_
            refine z_iload (pc := 52) C dX10_goes_52 rfl ?_
            refine z_iload (pc := 54) C dX10_goes_54 rfl ?_
            refine z_callV (pc := 56) C zk_X10_144 (x_X10_mayGo _ _ a1 b1 a6_7 b5x a3 b3 a4 b4 a5 b5 hI6_) rfl rfl (by decide) rfl rfl (Nat.le_of_ble_eq_true rfl) dX10_goes_56 (fun r21 g21 q21 => ?_)
            obtain ⟨⟨v21, rfl, b21x⟩, hI21, hF21q, hp21_0⟩ := q21
            have hp21_0 := hp21_0 _ rfl
            obtain rfl := zFr_nil hF21q
            simp only [Option.toList, List.cons_append, List.nil_append]
            refine z_if_eq (pc := 59) 69 C dX10_goes_59 (by decide) (fun h59_21 => ?_) (fun h59_21 => ?_)
            · skip
              have b23x : zB v21 0 0 := by have q1 := b21x; have q2 := (zB.of (x := 0) 0 (by decide)); simp only [z32lt, z32le, z32eq, Int32.reduceToInt, Int32.toInt_zero] at h59_21; constructor <;> omega
              refine z_iconst (pc := 69) (v := 0) C dX10_goes_69 (by decide) ?_
              refine z_ior (pc := 70) C dX10_goes_70 ?_
              refine w_gp (fun v => v = a6_6 ||| (0 : Int32)) rfl (fun v24 q24 => ?_)
              have b24x : zB v24 0 255 := by rw [q24]; exact (zor_b 8 b6_6 (zB.of (x := 0) 0 (by decide)) (by decide) (by decide) (by decide) (by decide) (by decide))
              refine z_istore (pc := 71) C dX10_goes_71 (by rw [hn]; decide) rfl ?_
              refine z_iinc (pc := 73) (v := 1) C dX10_goes_73 rfl (by decide) (by rw [hn]; decide) rfl ?_
              obtain ⟨v25, hv25, e25⟩ : ∃ v : Int32, v = a6_7 + 1 ∧ v.toInt = a6_7.toInt + 1 := ⟨_, rfl, zadd_eb b5x (zB.of (x := 1) 1 (by decide)) (by decide) (by decide)⟩
              rw [← hv25]
              have b25x : zB v25 1 8 := by have q9 := b5x; constructor <;> omega
              refine z_goto (pc := 76) 6 C dX10_goes_76 (by decide) ?_
              exact ih0 v24 b24x v25 (zB.wk (a' := 0) (b' := 8) b25x (by decide) (by decide)) g6_ hI6_ hF6_ (zB.wk c7x (by decide) (by decide)) (by exact hR6_0) (by
                                                                                          have hn : (v25).toInt.toNat = a6_7.toInt.toNat + 1 := by omega
                                                                                          have hi : a6_7 = nI a6_7.toInt.toNat := (nI_ofI (by omega)).1
                                                                                          have x25 : (v9).toNatClampNeg = 8 * a1.toInt.toNat + 1 := by omega
                                                                                          have r25 := q10
                                                                                          rw [x25, hR6_0] at r25
                                                                                          have hx : a1.toNatClampNeg = a1.toInt.toNat := rfl
                                                                                          have r37 := q13
                                                                                          rw [hx, hR6_0] at r37
                                                                                          have z := z01b (x := f 31 0 a1.toInt.toNat) (a := a6_7.toInt.toNat) (by omega)
                                                                                          rw [← hi, ← r37, ← q14, ← q15] at z
                                                                                          have ho := q24
                                                                                          rw [hn, zbf, ← hR6_1, ho]
                                                                                          congr 1
                                                                                          rw [← r37]
                                                                                          have hbt : bt v13 a6_7.toInt.toNat = true := by
                                                                                            cases q : bt v13 a6_7.toInt.toNat
                                                                                            · rw [q] at z
                                                                                              exact absurd (show v15 = 1 by assumption) (by rw [z]; decide)
                                                                                            · rfl
                                                                                          have ha := hp21_0
                                                                                          rw [hR6_0] at ha
                                                                                          rw [if_neg (fun h => zbo_n ha (by omega) h.2.2)]) (by omega) (by omega) (by omega)
            · skip
              have b26x : zB v21 1 1 := by have q1 := b21x; have q2 := (zB.of (x := 0) 0 (by decide)); simp only [z32lt, z32le, z32eq, Int32.reduceToInt, Int32.toInt_zero] at h59_21; constructor <;> omega
              refine z_iconst (pc := 62) (v := 1) C dX10_goes_62 (by decide) ?_
              refine z_iload (pc := 63) C dX10_goes_63 rfl ?_
              refine z_ishl (pc := 65) C dX10_goes_65 ?_
              refine w_gp (fun v => v = (1 : Int32) <<< (a6_7 &&& 31)) rfl (fun v27 q27 => ?_)
              have b27x : zB v27 0 128 := by rw [q27]; exact (zshl_b b5x 7 (by decide) (by decide))
              refine z_goto (pc := 66) 70 C dX10_goes_66 (by decide) ?_
              refine z_ior (pc := 70) C dX10_goes_70 ?_
              refine w_gp (fun v => v = a6_6 ||| v27) rfl (fun v28 q28 => ?_)
              have b28x : zB v28 0 255 := by rw [q28]; exact (zor_b 8 b6_6 b27x (by decide) (by decide) (by decide) (by decide) (by decide))
              refine z_istore (pc := 71) C dX10_goes_71 (by rw [hn]; decide) rfl ?_
              refine z_iinc (pc := 73) (v := 1) C dX10_goes_73 rfl (by decide) (by rw [hn]; decide) rfl ?_
              obtain ⟨v29, hv29, e29⟩ : ∃ v : Int32, v = a6_7 + 1 ∧ v.toInt = a6_7.toInt + 1 := ⟨_, rfl, zadd_eb b5x (zB.of (x := 1) 1 (by decide)) (by decide) (by decide)⟩
              rw [← hv29]
              have b29x : zB v29 1 8 := by have q9 := b5x; constructor <;> omega
              refine z_goto (pc := 76) 6 C dX10_goes_76 (by decide) ?_
              exact ih0 v28 b28x v29 (zB.wk (a' := 0) (b' := 8) b29x (by decide) (by decide)) g6_ hI6_ hF6_ (zB.wk c7x (by decide) (by decide)) (by exact hR6_0) (by
                                                                                          have hn : (v29).toInt.toNat = a6_7.toInt.toNat + 1 := by omega
                                                                                          have hi : a6_7 = nI a6_7.toInt.toNat := (nI_ofI (by omega)).1
                                                                                          have x25 : (v9).toNatClampNeg = 8 * a1.toInt.toNat + 1 := by omega
                                                                                          have r25 := q10
                                                                                          rw [x25, hR6_0] at r25
                                                                                          have hx : a1.toNatClampNeg = a1.toInt.toNat := rfl
                                                                                          have r37 := q13
                                                                                          rw [hx, hR6_0] at r37
                                                                                          have z := z01b (x := f 31 0 a1.toInt.toNat) (a := a6_7.toInt.toNat) (by omega)
                                                                                          rw [← hi, ← r37, ← q14, ← q15] at z
                                                                                          have ho := q28
                                                                                          rw [hn, zbf, ← hR6_1, ho]
                                                                                          congr 1
                                                                                          rw [← r37]
                                                                                          have hbt : bt v13 a6_7.toInt.toNat = true := by
                                                                                            cases q : bt v13 a6_7.toInt.toNat
                                                                                            · rw [q] at z
                                                                                              exact absurd (show v15 = 1 by assumption) (by rw [z]; decide)
                                                                                            · rfl
                                                                                          have ha := hp21_0
                                                                                          rw [hR6_0] at ha
                                                                                          rw [if_pos ⟨r25.symm.trans (by assumption), hbt, zbo_y ha (by omega)⟩, ← hi]
                                                                                          first | exact q27 | rfl) (by omega) (by omega) (by omega)
  have J0 := J 39
  show Z X 0 [some (zr 25 0), some (zi a1), some (zi a2), some (zi a3), some (zi a4), some (zi a5), none, none] [] f
  refine z_iconst (pc := 0) (v := 0) C dX10_goes_0 (by decide) ?_
  refine z_istore (pc := 1) C dX10_goes_1 (by rw [hn]; decide) rfl ?_
  refine z_iconst (pc := 3) (v := 0) C dX10_goes_3 (by decide) ?_
  refine z_istore (pc := 4) C dX10_goes_4 (by rw [hn]; decide) rfl ?_
  exact J0 0 (zB.wk (a' := 0) (b' := 255) (zB.of (x := 0) 0 (by decide)) (by decide) (by decide)) 0 (zB.wk (a' := 0) (b' := 8) (zB.of (x := 0) 0 (by decide)) (by decide) (by decide)) f hI hF ct25_0_2 (by rfl) (by rfl) (by have qc0 : (0 : Int32).toInt = 0 := (by decide); omega) (by have qc0 : (0 : Int32).toInt = 0 := (by decide); omega) (by have qc0 : (0 : Int32).toInt = 0 := (by decide); omega)

set_option maxRecDepth 100000 in
set_option maxHeartbeats 4000000 in
theorem x_X10_goesNow (d : Nat) (f : zM) (a1 : Int32) (b1 : zB a1 0 11) (hI : zInv f) : ZM (d + 5) yX10_goesNow cX10_goesNow 2 (some .int) [zr 25 0, zi a1] f (fun r g => (∃ v, r = some (zi v) ∧ zB v 0 255) ∧ zInv g ∧ zFr [] f g ∧ (∀ v : Int32, r = some (zi v) → v = zbf (fun i => f 28 0 (8 * a1.toInt.toNat + 1) = f 30 0 1 ∧ bt (f 31 0 a1.toInt.toNat) i = true ∧ zmg f a1.toInt.toNat i (f 30 0 3) (f 30 0 4) (f 30 0 5)) (f 25 0 2).toInt.toNat)) := by
  refine ZM.intro (by decide +kernel) (Nat.le_of_ble_eq_true rfl) ?_
  intro X C hr hn
  have hF : zFr [] f f := zFr.rf _ _
  show Z X 0 [some (zr 25 0), some (zi a1)] [] f
  refine z_aload_n (pc := 0) C dX10_goesNow_0 rfl ?_
  refine z_iload_n (pc := 1) C dX10_goesNow_1 rfl ?_
  refine z_aload_n (pc := 2) C dX10_goesNow_2 rfl ?_
  refine z_getR (pc := 3) C zf_X10_22 rfl rfl (by decide) dX10_goesNow_3 ?_
  refine z_iconst (pc := 6) (v := 1) C dX10_goesNow_6 (by decide) ?_
  refine z_iald (pc := 7) C rfl (by decide) (zIx (zB.of (x := 1) 1 (by decide)) (by decide) (by decide)) dX10_goesNow_7 ?_
  have kq7_0 : (1 : Int32).toNatClampNeg = (1 : Int32).toInt.toNat := rfl
  refine w_gp (fun v => v = f 30 0 (1 : Int32).toNatClampNeg) rfl (fun v1 q1 => ?_)
  have b1x : zB v1 0 5 := by rw [q1]; exact (hI 30 0 (1 : Int32).toNatClampNeg)
  refine z_aload_n (pc := 8) C dX10_goesNow_8 rfl ?_
  refine z_getR (pc := 9) C zf_X10_22 rfl rfl (by decide) dX10_goesNow_9 ?_
  refine z_iconst (pc := 12) (v := 3) C dX10_goesNow_12 (by decide) ?_
  refine z_iald (pc := 13) C rfl (by decide) (zIx (zB.of (x := 3) 3 (by decide)) (by decide) (by decide)) dX10_goesNow_13 ?_
  have kq13_1 : (3 : Int32).toNatClampNeg = (3 : Int32).toInt.toNat := rfl
  refine w_gp (fun v => v = f 30 0 (3 : Int32).toNatClampNeg) rfl (fun v2 q2 => ?_)
  have b2x : zB v2 0 1 := by rw [q2]; exact (hI 30 0 (3 : Int32).toNatClampNeg)
  refine z_aload_n (pc := 14) C dX10_goesNow_14 rfl ?_
  refine z_getR (pc := 15) C zf_X10_22 rfl rfl (by decide) dX10_goesNow_15 ?_
  refine z_iconst (pc := 18) (v := 4) C dX10_goesNow_18 (by decide) ?_
  refine z_iald (pc := 19) C rfl (by decide) (zIx (zB.of (x := 4) 4 (by decide)) (by decide) (by decide)) dX10_goesNow_19 ?_
  have kq19_2 : (4 : Int32).toNatClampNeg = (4 : Int32).toInt.toNat := rfl
  refine w_gp (fun v => v = f 30 0 (4 : Int32).toNatClampNeg) rfl (fun v3 q3 => ?_)
  have b3x : zB v3 (-4) 5 := by rw [q3]; exact (hI 30 0 (4 : Int32).toNatClampNeg)
  refine z_aload_n (pc := 20) C dX10_goesNow_20 rfl ?_
  refine z_getR (pc := 21) C zf_X10_22 rfl rfl (by decide) dX10_goesNow_21 ?_
  refine z_iconst (pc := 24) (v := 5) C dX10_goesNow_24 (by decide) ?_
  refine z_iald (pc := 25) C rfl (by decide) (zIx (zB.of (x := 5) 5 (by decide)) (by decide) (by decide)) dX10_goesNow_25 ?_
  have kq25_3 : (5 : Int32).toNatClampNeg = (5 : Int32).toInt.toNat := rfl
  refine w_gp (fun v => v = f 30 0 (5 : Int32).toNatClampNeg) rfl (fun v4 q4 => ?_)
  have b4x : zB v4 0 255 := by rw [q4]; exact (hI 30 0 (5 : Int32).toNatClampNeg)
  refine z_callV (pc := 26) C zk_X10_147 (x_X10_goes _ _ a1 b1 v1 b1x v2 b2x v3 b3x v4 b4x hI) rfl rfl (by decide) rfl rfl (Nat.le_of_ble_eq_true rfl) dX10_goesNow_26 (fun r5 g5 q5 => ?_)
  obtain ⟨⟨v5, rfl, b5x⟩, hI5, hF5q, hp5_0⟩ := q5
  have hp5_0 := hp5_0 _ rfl
  obtain rfl := zFr_nil hF5q
  simp only [Option.toList, List.cons_append, List.nil_append]
  exact z_iret (pc := 29) C hr dX10_goesNow_29 ⟨⟨_, rfl, b5x⟩, hI, hF, (by
                                                                                          intro v hv; cases hv
                                                                                          have r7 : v1 = f 30 0 1 := q1
                                                                                          have r13 : v2 = f 30 0 3 := q2
                                                                                          have r19 : v3 = f 30 0 4 := q3
                                                                                          have r25 : v4 = f 30 0 5 := q4
                                                                                          have h := hp5_0
                                                                                          rw [r7, r13, r19, r25] at h
                                                                                          exact h)⟩
