theorem z_mmax {X : zX} {cc : ByteArray} {own : String} {d pc idx : Nat} {L : List (Option zV)} {st : List zV} {f : zM} {x y : Int32} (C : zC X cc own (d + 1)) (hw : zCs own idx yJ9_max_7cf53 cJ9_max_7cf53 2 (some .int) 2) (hW : zsz st ≤ 8) (hd : decode cc pc = .ok (.invokestatic idx, 3)) (kk : Z X (pc + 3) L (zi (imax x y) :: st) f) : Z X pc L (zi y :: zi x :: st) f := by
  obtain ⟨p, l, e, R, s, m, args, below, meth, c, nL, D, cA, ad, lo, cells, slots, Tg⟩ := X
  obtain ⟨hx, hb, hml, hown, hts, hK, hG, hR, hcs⟩ := C
  intro H locs ls hP hS hl
  exact va_mmax hx hb (by rw [hml, hl.1]) hown (hts _ hw.1) (hts _ hw.2.1) (hts _ hw.2.2.1) (hts _ hw.2.2.2.1) (by omega) (by rw [zsz_ok]; omega) hcs.1 hcs.2 hd (kk H locs ls hP hS hl)
theorem z_mmin {X : zX} {cc : ByteArray} {own : String} {d pc idx : Nat} {L : List (Option zV)} {st : List zV} {f : zM} {x y : Int32} (C : zC X cc own (d + 1)) (hw : zCs own idx yJ9_min_7cf53 cJ9_min_7cf53 2 (some .int) 2) (hW : zsz st ≤ 8) (hd : decode cc pc = .ok (.invokestatic idx, 3)) (kk : Z X (pc + 3) L (zi (imin x y) :: st) f) : Z X pc L (zi y :: zi x :: st) f := by
  obtain ⟨p, l, e, R, s, m, args, below, meth, c, nL, D, cA, ad, lo, cells, slots, Tg⟩ := X
  obtain ⟨hx, hb, hml, hown, hts, hK, hG, hR, hcs⟩ := C
  intro H locs ls hP hS hl
  exact va_mmin hx hb (by rw [hml, hl.1]) hown (hts _ hw.1) (hts _ hw.2.1) (hts _ hw.2.2.1) (hts _ hw.2.2.2.1) (by omega) (by rw [zsz_ok]; omega) hcs.1 hcs.2 hd (kk H locs ls hP hS hl)
set_option maxRecDepth 100000 in
set_option maxHeartbeats 4000000 in
theorem w_X0_isMarks (d : Nat) (f : zM) (m0 : Nat) (h0 : m0 < zcnt 7) (a1 : Int32) (b1 : zB a1 0 63) (hI : zInv f) : ZM d yX0_isMarks cX0_isMarks 2 (some .boolean) [zr 7 m0, zi a1] f (fun r g => (∃ v, r = some (zi v) ∧ zB v 0 1) ∧ zInv g ∧ zFr [] f g) := by
  refine ZM.intro (by decide +kernel) (Nat.le_of_ble_eq_true rfl) ?_
  intro X C hr hn
  have hF : zFr [] f f := zFr.rf _ _
  have J : ∀ t : Nat, (∀ m26_0 : Nat, m26_0 < zcnt 7 → ∀ a26_1 : Int32, zB a26_1 0 63 → ∀ g : zM, zInv g → zFr [] f g → (1 : Int) < t → Z X 26 [some (zr 7 m26_0), some (zi a26_1)] [] g) ∧ (∀ m27_0 : Nat, m27_0 < zcnt 7 → ∀ a27_1 : Int32, zB a27_1 0 63 → ∀ a27_s0 : Int32, zB a27_s0 0 1 → ∀ g : zM, zInv g → zFr [] f g → (0 : Int) < t → Z X 27 [some (zr 7 m27_0), some (zi a27_1)] [zi a27_s0] g) := by
    intro t
    induction t with
    | zero =>
      refine ⟨?_, ?_⟩ <;> (intros; exfalso; omega)
    | succ t ih =>
      obtain ⟨ih0, ih1⟩ := ih
      refine ⟨?_, ?_⟩
      · skip
        intro m26_0 h26_0 a26_1 b26_1 g26_ hI26_ hF26_ hM26_
        refine z_iconst (pc := 26) (v := 0) C dX0_isMarks_26 (by decide) ?_
        exact ih1 m26_0 h26_0 a26_1 b26_1 0 (zB.wk (zB.of (x := 0) 0 (by decide)) (by decide) (by decide)) g26_ hI26_ hF26_ (by omega)
      · skip
        intro m27_0 h27_0 a27_1 b27_1 a27_s0 b27_s0 g27_ hI27_ hF27_ hM27_
        exact z_zret (pc := 27) C hr (z01 b27_s0) dX0_isMarks_27 ⟨⟨_, rfl, b27_s0⟩, hI27_, hF27_⟩
  obtain ⟨J0, J1⟩ := J 13
  show Z X 0 [some (zr 7 m0), some (zi a1)] [] f
  refine z_iload_n (pc := 0) C dX0_isMarks_0 rfl ?_
  refine z_aload_n (pc := 1) C dX0_isMarks_1 rfl ?_
  refine z_getI (pc := 2) C zf_X0_13 rfl rfl h0 dX0_isMarks_2 ?_
  refine w_gb 0 63 (hI 7 _ 1) (fun v1 b1x => ?_)
  refine z_iand (pc := 5) C dX0_isMarks_5 ?_
  refine w_gb 0 63 (zand_b b1 b1x (by decide)) (fun v2 b2x => ?_)
  refine z_aload_n (pc := 6) C dX0_isMarks_6 rfl ?_
  refine z_getI (pc := 7) C zf_X0_13 rfl rfl h0 dX0_isMarks_7 ?_
  refine w_gb 0 63 (hI 7 _ 1) (fun v3 b3x => ?_)
  refine z_icmp_ne (pc := 10) 26 C dX0_isMarks_10 (by decide) (fun h10_3 => ?_) (fun h10_3 => ?_)
  · skip
    exact J0 m0 h0 a1 b1 f hI hF (by omega)
  · skip
    refine z_iload_n (pc := 13) C dX0_isMarks_13 rfl ?_
    refine z_aload_n (pc := 14) C dX0_isMarks_14 rfl ?_
    refine z_getI (pc := 15) C zf_X0_16 rfl rfl h0 dX0_isMarks_15 ?_
    refine w_gb 0 63 (hI 7 _ 2) (fun v5 b5x => ?_)
    refine z_iand (pc := 18) C dX0_isMarks_18 ?_
    refine w_gb 0 63 (zand_b b1 b5x (by decide)) (fun v6 b6x => ?_)
    refine z_if_ne (pc := 19) 26 C dX0_isMarks_19 (by decide) (fun h19_6 => ?_) (fun h19_6 => ?_)
    · skip
      have b8x : zB v6 1 63 := by have q1 := b6x; have q2 := (zB.of (x := 0) 0 (by decide)); simp only [z32lt, z32le, z32eq, Int32.reduceToInt, Int32.toInt_zero] at h19_6; constructor <;> omega
      exact J0 m0 h0 a1 b1 f hI hF (by omega)
    · skip
      have b9x : zB v6 0 0 := by have q1 := b6x; have q2 := (zB.of (x := 0) 0 (by decide)); simp only [z32lt, z32le, z32eq, Int32.reduceToInt, Int32.toInt_zero] at h19_6; constructor <;> omega
      refine z_iconst (pc := 22) (v := 1) C dX0_isMarks_22 (by decide) ?_
      refine z_goto (pc := 23) 27 C dX0_isMarks_23 (by decide) ?_
      exact J1 m0 h0 a1 b1 1 (zB.wk (zB.of (x := 1) 1 (by decide)) (by decide) (by decide)) f hI hF (by omega)

set_option maxRecDepth 100000 in
set_option maxHeartbeats 4000000 in
theorem w_X1_learn (d : Nat) (f : zM) (m0 : Nat) (h0 : m0 < zcnt 8) (a1 : Int32) (b1 : zB a1 0 23) (m2 : Nat) (h2 : m2 < zcnt 7) (hI : zInv f) : ZM (d + 1) yX1_learn cX1_learn 4 none [zr 8 m0, zi a1, zr 7 m2] f (fun r g => r = none ∧ zInv g ∧ zFr [(8, some 5), (8, some 6), (8, some 7), (9, none), (10, none)] f g) := by
  refine ZM.intro (by decide +kernel) (Nat.le_of_ble_eq_true rfl) ?_
  intro X C hr hn
  have hF : zFr [(8, some 5), (8, some 6), (8, some 7), (9, none), (10, none)] f f := zFr.rf _ _
  have J : ∀ t : Nat, (∀ m66_0 : Nat, m66_0 < zcnt 8 → ∀ a66_1 : Int32, zB a66_1 0 23 → ∀ m66_2 : Nat, m66_2 < zcnt 7 → ∀ a66_3 : Int32, zB a66_3 0 5 → ∀ m66_s0 : Nat, m66_s0 < zcnt 8 → ∀ a66_s1 : Int32, zB a66_s1 0 63 → ∀ a66_s2 : Int32, zB a66_s2 0 32 → ∀ g : zM, zInv g → zFr [(8, some 5), (8, some 6), (8, some 7), (9, none), (10, none)] f g → (2 : Int) < t → Z X 66 [some (zr 8 m66_0), some (zi a66_1), some (zr 7 m66_2), some (zi a66_3)] [zi a66_s2, zi a66_s1, zr 8 m66_s0] g) ∧ (∀ m70_0 : Nat, m70_0 < zcnt 8 → ∀ a70_1 : Int32, zB a70_1 0 23 → ∀ m70_2 : Nat, m70_2 < zcnt 7 → ∀ a70_3 : Int32, zB a70_3 0 5 → ∀ g : zM, zInv g → zFr [(8, some 5), (8, some 6), (8, some 7), (9, none), (10, none)] f g → (1 : Int) < t → Z X 70 [some (zr 8 m70_0), some (zi a70_1), some (zr 7 m70_2), some (zi a70_3)] [] g) ∧ (∀ m112_0 : Nat, m112_0 < zcnt 8 → ∀ a112_1 : Int32, zB a112_1 0 23 → ∀ m112_2 : Nat, m112_2 < zcnt 7 → ∀ a112_3 : Int32, zB a112_3 0 5 → ∀ g : zM, zInv g → zFr [(8, some 5), (8, some 6), (8, some 7), (9, none), (10, none)] f g → (0 : Int) < t → Z X 112 [some (zr 8 m112_0), some (zi a112_1), some (zr 7 m112_2), some (zi a112_3)] [] g) := by
    intro t
    induction t with
    | zero =>
      refine ⟨?_, ?_, ?_⟩ <;> (intros; exfalso; omega)
    | succ t ih =>
      obtain ⟨ih0, ih1, ih2⟩ := ih
      refine ⟨?_, ?_, ?_⟩
      · skip
        intro m66_0 h66_0 a66_1 b66_1 m66_2 h66_2 a66_3 b66_3 m66_s0 h66_s0 a66_s1 b66_s1 a66_s2 b66_s2 g66_ hI66_ hF66_ hM66_
        refine z_ior (pc := 66) C dX1_learn_66 ?_
        refine w_gb 0 63 (zor_b 6 b66_s1 b66_s2 (by decide) (by decide) (by decide) (by decide) (by decide)) (fun v1 b1x => ?_)
        refine z_putI (pc := 67) C zf_X1_45 zp_1_7 rfl rfl h66_s0 dX1_learn_67 ?_
        refine w_mem hI66_ hF66_ b1x rfl (fun g2 hI2 hF2 => ?_)
        exact ih1 m66_0 h66_0 a66_1 b66_1 m66_2 h66_2 a66_3 b66_3 g2 hI2 hF2 (by omega)
      · skip
        intro m70_0 h70_0 a70_1 b70_1 m70_2 h70_2 a70_3 b70_3 g70_ hI70_ hF70_ hM70_
        refine z_aload_n (pc := 70) C dX1_learn_70 rfl ?_
        refine z_aload_n (pc := 71) C dX1_learn_71 rfl ?_
        refine z_getI (pc := 72) C zf_X1_22 rfl rfl h70_0 dX1_learn_72 ?_
        refine w_gb 0 63 (hI70_ 8 _ 1) (fun v3 b3x => ?_)
        refine z_callV (pc := 75) C zk_X1_57 (w_X0_isMarks _ _ m70_2 h70_2 v3 b3x hI70_) rfl rfl h70_2 rfl rfl (Nat.le_of_ble_eq_true rfl) dX1_learn_75 (fun r4 g4 q4 => ?_)
        obtain ⟨⟨v4, rfl, b4x⟩, hI4, hF4q⟩ := q4
        have hF4 := zFr.tr hF70_ hF4q (by decide)
        simp only [Option.toList, List.cons_append, List.nil_append]
        refine z_if_eq (pc := 78) 112 C dX1_learn_78 (by decide) (fun h78_4 => ?_) (fun h78_4 => ?_)
        · skip
          have b6x : zB v4 0 0 := by have q1 := b4x; have q2 := (zB.of (x := 0) 0 (by decide)); simp only [z32lt, z32le, z32eq, Int32.reduceToInt, Int32.toInt_zero] at h78_4; constructor <;> omega
          exact ih2 m70_0 h70_0 a70_1 b70_1 m70_2 h70_2 a70_3 b70_3 g4 hI4 hF4 (by omega)
        · skip
          have b7x : zB v4 1 1 := by have q1 := b4x; have q2 := (zB.of (x := 0) 0 (by decide)); simp only [z32lt, z32le, z32eq, Int32.reduceToInt, Int32.toInt_zero] at h78_4; constructor <;> omega
          refine z_aload_n (pc := 81) C dX1_learn_81 rfl ?_
          refine z_dupr (pc := 82) C dX1_learn_82 ?_
          refine z_getI (pc := 83) C zf_X1_42 rfl rfl h70_0 dX1_learn_83 ?_
          refine w_gb 0 16777215 (hI4 8 _ 6) (fun v8 b8x => ?_)
          refine z_iconst (pc := 86) (v := 1) C dX1_learn_86 (by decide) ?_
          refine z_iload_n (pc := 87) C dX1_learn_87 rfl ?_
          refine z_ishl (pc := 88) C dX1_learn_88 ?_
          refine w_gb 0 8388608 (zshl_b b70_1 23 (by decide) (by decide)) (fun v9 b9x => ?_)
          refine z_ior (pc := 89) C dX1_learn_89 ?_
          refine w_gb 0 16777215 (zor_b 24 b8x b9x (by decide) (by decide) (by decide) (by decide) (by decide)) (fun v10 b10x => ?_)
          refine z_putI (pc := 90) C zf_X1_42 zp_1_6 rfl rfl h70_0 dX1_learn_90 ?_
          refine w_mem hI4 hF4 b10x rfl (fun g11 hI11 hF11 => ?_)
          refine z_aload_n (pc := 93) C dX1_learn_93 rfl ?_
          refine z_getR (pc := 94) C zf_X1_15 rfl rfl h70_0 dX1_learn_94 ?_
          refine z_iload_n (pc := 97) C dX1_learn_97 rfl ?_
          refine z_aload_n (pc := 98) C dX1_learn_98 rfl ?_
          refine z_getR (pc := 99) C zf_X1_15 rfl rfl h70_0 dX1_learn_99 ?_
          refine z_iload_n (pc := 102) C dX1_learn_102 rfl ?_
          refine z_iald (pc := 103) C rfl h70_0 (zIx b70_3 (by decide) (by decide)) dX1_learn_103 ?_
          refine w_gb 0 40 (hI11 10 _ _) (fun v12 b12x => ?_)
          refine z_aload_n (pc := 104) C dX1_learn_104 rfl ?_
          refine z_getI (pc := 105) C zf_X1_61 rfl rfl h70_2 dX1_learn_105 ?_
          refine w_gb 0 40 (hI11 7 _ 4) (fun v13 b13x => ?_)
          refine z_mmax (pc := 108) C zk_X1_64 (Nat.le_of_ble_eq_true rfl) dX1_learn_108 ?_
          refine w_gb 0 40 (zmax_b b12x b13x) (fun v14 b14x => ?_)
          refine z_iast (pc := 111) C rfl h70_0 (zIx b70_3 (by decide) (by decide)) dX1_learn_111 ?_
          refine w_mem hI11 hF11 b14x rfl (fun g15 hI15 hF15 => ?_)
          exact ih2 m70_0 h70_0 a70_1 b70_1 m70_2 h70_2 a70_3 b70_3 g15 hI15 hF15 (by omega)
      · skip
        intro m112_0 h112_0 a112_1 b112_1 m112_2 h112_2 a112_3 b112_3 g112_ hI112_ hF112_ hM112_
        exact z_vret (pc := 112) C hr dX1_learn_112 ⟨rfl, hI112_, hF112_⟩
  obtain ⟨J0, J1, J2⟩ := J 14
  show Z X 0 [some (zr 8 m0), some (zi a1), some (zr 7 m2), none] [] f
  refine z_aload_n (pc := 0) C dX1_learn_0 rfl ?_
  refine z_getI (pc := 1) C zf_X1_54 rfl rfl h2 dX1_learn_1 ?_
  refine w_gb 0 5 (hI 7 _ 0) (fun v16 b16x => ?_)
  refine z_istore_n (pc := 4) C dX1_learn_4 (by rw [hn]; decide) rfl ?_
  refine z_aload_n (pc := 5) C dX1_learn_5 rfl ?_
  refine z_aload_n (pc := 6) C dX1_learn_6 rfl ?_
  refine z_getI (pc := 7) C zf_X1_18 rfl rfl h0 dX1_learn_7 ?_
  refine w_gb 0 63 (hI 8 _ 0) (fun v17 b17x => ?_)
  refine z_callV (pc := 10) C zk_X1_57 (w_X0_isMarks _ _ m2 h2 v17 b17x hI) rfl rfl h2 rfl rfl (Nat.le_of_ble_eq_true rfl) dX1_learn_10 (fun r18 g18 q18 => ?_)
  obtain ⟨⟨v18, rfl, b18x⟩, hI18, hF18q⟩ := q18
  have hF18 := zFr.tr hF hF18q (by decide)
  simp only [Option.toList, List.cons_append, List.nil_append]
  refine z_if_eq (pc := 13) 70 C dX1_learn_13 (by decide) (fun h13_18 => ?_) (fun h13_18 => ?_)
  · skip
    have b20x : zB v18 0 0 := by have q1 := b18x; have q2 := (zB.of (x := 0) 0 (by decide)); simp only [z32lt, z32le, z32eq, Int32.reduceToInt, Int32.toInt_zero] at h13_18; constructor <;> omega
    exact J1 m0 h0 a1 b1 m2 h2 v16 b16x g18 hI18 hF18 (by omega)
  · skip
    have b21x : zB v18 1 1 := by have q1 := b18x; have q2 := (zB.of (x := 0) 0 (by decide)); simp only [z32lt, z32le, z32eq, Int32.reduceToInt, Int32.toInt_zero] at h13_18; constructor <;> omega
    refine z_aload_n (pc := 16) C dX1_learn_16 rfl ?_
    refine z_dupr (pc := 17) C dX1_learn_17 ?_
    refine z_getI (pc := 18) C zf_X1_39 rfl rfl h0 dX1_learn_18 ?_
    refine w_gb 0 16777215 (hI18 8 _ 5) (fun v22 b22x => ?_)
    refine z_iconst (pc := 21) (v := 1) C dX1_learn_21 (by decide) ?_
    refine z_iload_n (pc := 22) C dX1_learn_22 rfl ?_
    refine z_ishl (pc := 23) C dX1_learn_23 ?_
    refine w_gb 0 8388608 (zshl_b b1 23 (by decide) (by decide)) (fun v23 b23x => ?_)
    refine z_ior (pc := 24) C dX1_learn_24 ?_
    refine w_gb 0 16777215 (zor_b 24 b22x b23x (by decide) (by decide) (by decide) (by decide) (by decide)) (fun v24 b24x => ?_)
    refine z_putI (pc := 25) C zf_X1_39 zp_1_5 rfl rfl h0 dX1_learn_25 ?_
    refine w_mem hI18 hF18 b24x rfl (fun g25 hI25 hF25 => ?_)
    refine z_aload_n (pc := 28) C dX1_learn_28 rfl ?_
    refine z_getR (pc := 29) C zf_X1_9 rfl rfl h0 dX1_learn_29 ?_
    refine z_iload_n (pc := 32) C dX1_learn_32 rfl ?_
    refine z_aload_n (pc := 33) C dX1_learn_33 rfl ?_
    refine z_getR (pc := 34) C zf_X1_9 rfl rfl h0 dX1_learn_34 ?_
    refine z_iload_n (pc := 37) C dX1_learn_37 rfl ?_
    refine z_iald (pc := 38) C rfl h0 (zIx b16x (by decide) (by decide)) dX1_learn_38 ?_
    refine w_gb 0 40 (hI25 9 _ _) (fun v26 b26x => ?_)
    refine z_aload_n (pc := 39) C dX1_learn_39 rfl ?_
    refine z_getI (pc := 40) C zf_X1_61 rfl rfl h2 dX1_learn_40 ?_
    refine w_gb 0 40 (hI25 7 _ 4) (fun v27 b27x => ?_)
    refine z_mmax (pc := 43) C zk_X1_64 (Nat.le_of_ble_eq_true rfl) dX1_learn_43 ?_
    refine w_gb 0 40 (zmax_b b26x b27x) (fun v28 b28x => ?_)
    refine z_iast (pc := 46) C rfl h0 (zIx b16x (by decide) (by decide)) dX1_learn_46 ?_
    refine w_mem hI25 hF25 b28x rfl (fun g29 hI29 hF29 => ?_)
    refine z_aload_n (pc := 47) C dX1_learn_47 rfl ?_
    refine z_dupr (pc := 48) C dX1_learn_48 ?_
    refine z_getI (pc := 49) C zf_X1_45 rfl rfl h0 dX1_learn_49 ?_
    refine w_gb 0 63 (hI29 8 _ 7) (fun v30 b30x => ?_)
    refine z_aload_n (pc := 52) C dX1_learn_52 rfl ?_
    refine z_getI (pc := 53) C zf_X1_70 rfl rfl h2 dX1_learn_53 ?_
    refine w_gb 0 1 (hI29 7 _ 5) (fun v31 b31x => ?_)
    refine z_if_eq (pc := 56) 65 C dX1_learn_56 (by decide) (fun h56_31 => ?_) (fun h56_31 => ?_)
    · skip
      have b33x : zB v31 0 0 := by have q1 := b31x; have q2 := (zB.of (x := 0) 0 (by decide)); simp only [z32lt, z32le, z32eq, Int32.reduceToInt, Int32.toInt_zero] at h56_31; constructor <;> omega
      refine z_iconst (pc := 65) (v := 0) C dX1_learn_65 (by decide) ?_
      exact J0 m0 h0 a1 b1 m2 h2 v16 b16x m0 h0 v30 b30x 0 (zB.wk (zB.of (x := 0) 0 (by decide)) (by decide) (by decide)) g29 hI29 hF29 (by omega)
    · skip
      have b34x : zB v31 1 1 := by have q1 := b31x; have q2 := (zB.of (x := 0) 0 (by decide)); simp only [z32lt, z32le, z32eq, Int32.reduceToInt, Int32.toInt_zero] at h56_31; constructor <;> omega
      refine z_iconst (pc := 59) (v := 1) C dX1_learn_59 (by decide) ?_
      refine z_iload_n (pc := 60) C dX1_learn_60 rfl ?_
      refine z_ishl (pc := 61) C dX1_learn_61 ?_
      refine w_gb 0 32 (zshl_b b16x 5 (by decide) (by decide)) (fun v35 b35x => ?_)
      refine z_goto (pc := 62) 66 C dX1_learn_62 (by decide) ?_
      exact J0 m0 h0 a1 b1 m2 h2 v16 b16x m0 h0 v30 b30x v35 b35x g29 hI29 hF29 (by omega)
