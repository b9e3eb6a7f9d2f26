theorem z_mmax {X : zX} {cc : ByteArray} {own : String} {d pc idx : Nat} {L : List (Option zV)} {st : List zV} {f : zM} {x y : Int32} (C : zC X cc own (d + 1)) (hw : zCs own idx yJ9_max_7cf53 cJ9_max_7cf53 2 (some .int) 2) (hW : zsz st ≤ 8) (hd : decode cc pc = .ok (.invokestatic idx, 3)) (kk : Z X (pc + 3) L (zi (imax x y) :: st) f) : Z X pc L (zi y :: zi x :: st) f := by
  obtain ⟨p, l, e, R, s, m, args, below, meth, c, nL, D, cA, ad, lo, cells, slots, Tg⟩ := X
  obtain ⟨hx, hb, hml, hown, hts, hK, hG, hR, hcs⟩ := C
  intro H locs ls hP hS hl
  exact va_mmax hx hb (by rw [hml, hl.1]) hown (hts _ hw.1) (hts _ hw.2.1) (hts _ hw.2.2.1) (hts _ hw.2.2.2.1) (by omega) (by rw [zsz_ok]; omega) hcs.1 hcs.2 hd (kk H locs ls hP hS hl)
theorem z_mmin {X : zX} {cc : ByteArray} {own : String} {d pc idx : Nat} {L : List (Option zV)} {st : List zV} {f : zM} {x y : Int32} (C : zC X cc own (d + 1)) (hw : zCs own idx yJ9_min_7cf53 cJ9_min_7cf53 2 (some .int) 2) (hW : zsz st ≤ 8) (hd : decode cc pc = .ok (.invokestatic idx, 3)) (kk : Z X (pc + 3) L (zi (imin x y) :: st) f) : Z X pc L (zi y :: zi x :: st) f := by
  obtain ⟨p, l, e, R, s, m, args, below, meth, c, nL, D, cA, ad, lo, cells, slots, Tg⟩ := X
  obtain ⟨hx, hb, hml, hown, hts, hK, hG, hR, hcs⟩ := C
  intro H locs ls hP hS hl
  exact va_mmin hx hb (by rw [hml, hl.1]) hown (hts _ hw.1) (hts _ hw.2.1) (hts _ hw.2.2.1) (hts _ hw.2.2.2.1) (by omega) (by rw [zsz_ok]; omega) hcs.1 hcs.2 hd (kk H locs ls hP hS hl)
theorem z_ldcw {X : zX} {cc : ByteArray} {own : String} {d pc : Nat} {L : List (Option zV)} {st : List zV} {f : zM} {idx : Nat} {v : Int32} (C : zC X cc own d) (hw : Cond.constant own idx v ∈ zT) (hd : decode cc pc = .ok (.ldc_w idx, 3)) (kk : Z X (pc + 3) L (zi v :: st) f) : Z X pc L st f := by
  obtain ⟨p, l, e, R, s, m, args, below, meth, c, nL, D, cA, ad, lo, cells, slots, Tg⟩ := X
  obtain ⟨hx, hb, hml, hown, hts, hK, hG, hR, hcs⟩ := C
  intro H locs ls hP hS hl
  exact lv_ldcw hx hb hown (hts _ hw) hd (kk H locs ls hP hS hl)
theorem z_tabE {X : zX} {cc : ByteArray} {own : String} {d pc : Nat} {L : List (Option zV)} {st : List zV} {f : zM} {dflt lo0 hi : Int} {offs : Array Int} {len : Nat} {x k : Int32} {off : Int} (hx : x = k) (tgt : Nat) (C : zC X cc own d) (hd : decode cc pc = .ok (.tableswitch dflt lo0 hi offs, len)) (h1 : ¬ k.toInt < lo0) (h2 : ¬ hi < k.toInt) (ho : offs[(k.toInt - lo0).toNat]? = some off) (ht : (pc : Int) + off = (tgt : Int)) (kk : Z X tgt L st f) : Z X pc L (zi x :: st) f := by
  subst hx
  exact z_tabIn tgt C hd h1 h2 ho ht kk
theorem z_lookE {X : zX} {cc : ByteArray} {own : String} {d pc : Nat} {L : List (Option zV)} {st : List zV} {f : zM} {dflt : Int} {ps : Array (Int × Int)} {len : Nat} {x k : Int32} {off : Int} (hx : x = k) (tgt : Nat) (C : zC X cc own d) (hd : decode cc pc = .ok (.lookupswitch dflt ps, len)) (hp : (ps.toList.zip (ps.toList.drop 1)).all (fun (a, next) => a.1 < next.1) = true) (ho : Op.lookupswitch.offset ps.toList dflt k.toInt = off) (ht : (pc : Int) + off = (tgt : Int)) (kk : Z X tgt L st f) : Z X pc L (zi x :: st) f := by
  subst hx
  exact z_lookup tgt C hd hp ho ht kk
theorem zlk_X4_isFor {x : Int32} (h1 : ¬ x = 1) (h2 : ¬ x = 2) : Op.lookupswitch.offset (#[(1, 26), (2, 44)] : Array (Int × Int)).toList 64 x.toInt = 64 := by
  simp only [z32eq, Int32.reduceToInt, Int32.toInt_zero, Int32.toInt_one] at *
  simp [Op.lookupswitch.offset]
  split <;> omega
theorem zlk_X6_put {x : Int32} (h0 : ¬ x = 0) (h1 : ¬ x = 1) : Op.lookupswitch.offset (#[(0, 28), (1, 39)] : Array (Int × Int)).toList 50 x.toInt = 50 := by
  simp only [z32eq, Int32.reduceToInt, Int32.toInt_zero, Int32.toInt_one] at *
  simp [Op.lookupswitch.offset]
  split <;> omega
set_option maxRecDepth 100000 in
set_option maxHeartbeats 4000000 in
theorem w_X1_isDeadly (d : Nat) (f : zM) (m0 : Nat) (h0 : m0 < zcnt 8) (a1 : Int32) (b1 : zB a1 0 5) (hI : zInv f) : ZM d yX1_isDeadly cX1_isDeadly 2 (some .boolean) [zr 8 m0, zi a1] f (fun r g => (∃ v, r = some (zi v) ∧ zB v 0 1) ∧ zInv g ∧ zFr [] f g) := by
  refine ZM.intro (by decide +kernel) (Nat.le_of_ble_eq_true rfl) ?_
  intro X C hr hn
  have hF : zFr [] f f := zFr.rf _ _
  have J : ∀ t : Nat, (∀ a16_s0 : Int32, zB a16_s0 0 1 → ∀ g : zM, zInv g → zFr [] f g → (0 : Int) < t → Z X 16 [some (zr 8 m0), some (zi a1)] [zi a16_s0] g) := by
    intro t
    induction t with
    | zero =>
      intros; exfalso; omega
    | succ t ih =>
      have ih0 := ih
      intro a16_s0 b16_s0 g16_ hI16_ hF16_ hM16_
      exact z_zret (pc := 16) C hr (z01 b16_s0) dX1_isDeadly_16 ⟨⟨_, rfl, b16_s0⟩, hI16_, hF16_⟩
  have J0 := J 12
  show Z X 0 [some (zr 8 m0), some (zi a1)] [] f
  refine z_aload_n (pc := 0) C dX1_isDeadly_0 rfl ?_
  refine z_getI (pc := 1) C zf_X1_45 rfl rfl h0 dX1_isDeadly_1 ?_
  refine w_gb 0 63 (hI 8 _ 7) (fun v1 b1x => ?_)
  refine z_iload_n (pc := 4) C dX1_isDeadly_4 rfl ?_
  refine z_ishr (pc := 5) C dX1_isDeadly_5 ?_
  refine w_gb (-2147483648) 2147483647 (zB_any _) (fun v2 b2x => ?_)
  refine z_iconst (pc := 6) (v := 1) C dX1_isDeadly_6 (by decide) ?_
  refine z_iand (pc := 7) C dX1_isDeadly_7 ?_
  refine w_gb 0 1 (zand_b b2x (zB.of (x := 1) 1 (by decide)) (by decide)) (fun v3 b3x => ?_)
  refine z_if_eq (pc := 8) 15 C dX1_isDeadly_8 (by decide) (fun h8_3 => ?_) (fun h8_3 => ?_)
  · skip
    have b5x : zB v3 0 0 := by have q1 := b3x; have q2 := (zB.of (x := 0) 0 (by decide)); simp only [z32lt, z32le, z32eq, Int32.reduceToInt, Int32.toInt_zero] at h8_3; constructor <;> omega
    refine z_iconst (pc := 15) (v := 0) C dX1_isDeadly_15 (by decide) ?_
    exact J0 0 (zB.wk (a' := 0) (b' := 1) (zB.of (x := 0) 0 (by decide)) (by decide) (by decide)) f hI hF  (by have qc0 : (0 : Int32).toInt = 0 := (by decide); omega)
  · skip
    have b6x : zB v3 1 1 := by have q1 := b3x; have q2 := (zB.of (x := 0) 0 (by decide)); simp only [z32lt, z32le, z32eq, Int32.reduceToInt, Int32.toInt_zero] at h8_3; constructor <;> omega
    refine z_iconst (pc := 11) (v := 1) C dX1_isDeadly_11 (by decide) ?_
    refine z_goto (pc := 12) 16 C dX1_isDeadly_12 (by decide) ?_
    exact J0 1 (zB.wk (a' := 0) (b' := 1) (zB.of (x := 1) 1 (by decide)) (by decide) (by decide)) f hI hF  (by have qc0 : (1 : Int32).toInt = 1 := (by decide); omega)

set_option maxRecDepth 100000 in
set_option maxHeartbeats 4000000 in
theorem w_X4_pledges (d : Nat) (f : zM) (m0 : Nat) (h0 : m0 < zcnt 11) (a1 : Int32) (b1 : zB a1 (-2147483648) 2147483647) (hI : zInv f) : ZM d yX4_pledges cX4_pledges 2 (some .boolean) [zr 11 m0, zi a1] f (fun r g => (∃ v, r = some (zi v) ∧ zB v 0 1) ∧ zInv g ∧ zFr [] f g) := by
  refine ZM.intro (by decide +kernel) (Nat.le_of_ble_eq_true rfl) ?_
  intro X C hr hn
  have hF : zFr [] f f := zFr.rf _ _
  have J : ∀ t : Nat, (∀ a14_s0 : Int32, zB a14_s0 0 1 → ∀ g : zM, zInv g → zFr [] f g → (0 : Int) < t → Z X 14 [some (zr 11 m0), some (zi a1)] [zi a14_s0] g) := by
    intro t
    induction t with
    | zero =>
      intros; exfalso; omega
    | succ t ih =>
      have ih0 := ih
      intro a14_s0 b14_s0 g14_ hI14_ hF14_ hM14_
      exact z_zret (pc := 14) C hr (z01 b14_s0) dX4_pledges_14 ⟨⟨_, rfl, b14_s0⟩, hI14_, hF14_⟩
  have J0 := J 12
  show Z X 0 [some (zr 11 m0), some (zi a1)] [] f
  refine z_aload_n (pc := 0) C dX4_pledges_0 rfl ?_
  refine z_getI (pc := 1) C zf_X4_33 rfl rfl h0 dX4_pledges_1 ?_
  refine w_gb 0 7 (hI 11 _ 7) (fun v1 b1x => ?_)
  refine z_iload_n (pc := 4) C dX4_pledges_4 rfl ?_
  refine z_iand (pc := 5) C dX4_pledges_5 ?_
  refine w_gb 0 7 (zand_bl b1x b1 (by decide)) (fun v2 b2x => ?_)
  refine z_if_eq (pc := 6) 13 C dX4_pledges_6 (by decide) (fun h6_2 => ?_) (fun h6_2 => ?_)
  · skip
    have b4x : zB v2 0 0 := by have q1 := b2x; have q2 := (zB.of (x := 0) 0 (by decide)); simp only [z32lt, z32le, z32eq, Int32.reduceToInt, Int32.toInt_zero] at h6_2; constructor <;> omega
    refine z_iconst (pc := 13) (v := 0) C dX4_pledges_13 (by decide) ?_
    exact J0 0 (zB.wk (a' := 0) (b' := 1) (zB.of (x := 0) 0 (by decide)) (by decide) (by decide)) f hI hF  (by have qc0 : (0 : Int32).toInt = 0 := (by decide); omega)
  · skip
    have b5x : zB v2 1 7 := by have q1 := b2x; have q2 := (zB.of (x := 0) 0 (by decide)); simp only [z32lt, z32le, z32eq, Int32.reduceToInt, Int32.toInt_zero] at h6_2; constructor <;> omega
    refine z_iconst (pc := 9) (v := 1) C dX4_pledges_9 (by decide) ?_
    refine z_goto (pc := 10) 14 C dX4_pledges_10 (by decide) ?_
    exact J0 1 (zB.wk (a' := 0) (b' := 1) (zB.of (x := 1) 1 (by decide)) (by decide) (by decide)) f hI hF  (by have qc0 : (1 : Int32).toInt = 1 := (by decide); omega)

set_option maxRecDepth 100000 in
set_option maxHeartbeats 4000000 in
theorem w_X4_isFor (d : Nat) (f : zM) (m0 : Nat) (h0 : m0 < zcnt 11) (m1 : Nat) (h1 : m1 < zcnt 8) (hI : zInv f) : ZM d yX4_isFor cX4_isFor 2 (some .boolean) [zr 11 m0, zr 8 m1] f (fun r g => (∃ v, r = some (zi v) ∧ zB v 0 1) ∧ zInv g ∧ zFr [] f g) := by
  refine ZM.intro (by decide +kernel) (Nat.le_of_ble_eq_true rfl) ?_
  intro X C hr hn
  have hF : zFr [] f f := zFr.rf _ _
  have J : ∀ t : Nat, (∀ g : zM, zInv g → zFr [] f g → (2 : Int) < t → Z X 32 [some (zr 11 m0), some (zr 8 m1)] [] g) ∧ (∀ a81_s0 : Int32, zB a81_s0 0 1 → ∀ g : zM, zInv g → zFr [] f g → (1 : Int) < t → Z X 81 [some (zr 11 m0), some (zr 8 m1)] [zi a81_s0] g) ∧ (∀ a101_s0 : Int32, zB a101_s0 0 1 → ∀ g : zM, zInv g → zFr [] f g → (0 : Int) < t → Z X 101 [some (zr 11 m0), some (zr 8 m1)] [zi a101_s0] g) := by
    intro t
    induction t with
    | zero =>
      refine ⟨?_, ?_, ?_⟩ <;> (intros; exfalso; omega)
    | succ t ih =>
      obtain ⟨ih0, ih1, ih2⟩ := ih
      refine ⟨?_, ?_, ?_⟩
      · skip
        intro g32_ hI32_ hF32_ hM32_
        refine z_iconst (pc := 32) (v := 0) C dX4_isFor_32 (by decide) ?_
        exact z_zret (pc := 33) C hr (z01 (zB.wk (a' := 0) (b' := 1) (zB.of (x := 0) 0 (by decide)) (by decide) (by decide))) dX4_isFor_33 ⟨⟨_, rfl, (zB.wk (a' := 0) (b' := 1) (zB.of (x := 0) 0 (by decide)) (by decide) (by decide))⟩, hI32_, hF32_⟩
      · skip
        intro a81_s0 b81_s0 g81_ hI81_ hF81_ hM81_
        exact z_zret (pc := 81) C hr (z01 b81_s0) dX4_isFor_81 ⟨⟨_, rfl, b81_s0⟩, hI81_, hF81_⟩
      · skip
        intro a101_s0 b101_s0 g101_ hI101_ hF101_ hM101_
        exact z_zret (pc := 101) C hr (z01 b101_s0) dX4_isFor_101 ⟨⟨_, rfl, b101_s0⟩, hI101_, hF101_⟩
  obtain ⟨J0, J1, J2⟩ := J 14
  show Z X 0 [some (zr 11 m0), some (zr 8 m1)] [] f
  refine z_aload_n (pc := 0) C dX4_isFor_0 rfl ?_
  refine z_getR (pc := 1) C zf_X4_47 rfl rfl h1 dX4_isFor_1 ?_
  refine z_aload_n (pc := 4) C dX4_isFor_4 rfl ?_
  refine z_getI (pc := 5) C zf_X4_9 rfl rfl h0 dX4_isFor_5 ?_
  refine w_gb 0 5 (hI 11 _ 1) (fun v1 b1x => ?_)
  refine z_iald (pc := 8) C rfl h1 (zIx b1x (by decide) (by decide)) dX4_isFor_8 ?_
  refine w_gb 0 40 (hI 10 _ _) (fun v2 b2x => ?_)
  refine z_aload_n (pc := 9) C dX4_isFor_9 rfl ?_
  refine z_getI (pc := 10) C zf_X4_21 rfl rfl h0 dX4_isFor_10 ?_
  refine w_gb 0 40 (hI 11 _ 3) (fun v3 b3x => ?_)
  refine z_icmp_lt (pc := 13) 32 C dX4_isFor_13 (by decide) (fun h13_3 => ?_) (fun h13_3 => ?_)
  · skip
    have b5x : zB v2 0 39 := by have q1 := b2x; have q2 := b3x; simp only [z32lt, z32le, z32eq, Int32.reduceToInt, Int32.toInt_zero] at h13_3; constructor <;> omega
    have b6x : zB v3 1 40 := by have q1 := b2x; have q2 := b3x; simp only [z32lt, z32le, z32eq, Int32.reduceToInt, Int32.toInt_zero] at h13_3; constructor <;> omega
    exact J0  f hI hF  (by omega)
  · skip
    refine z_aload_n (pc := 16) C dX4_isFor_16 rfl ?_
    refine z_getR (pc := 17) C zf_X4_53 rfl rfl h1 dX4_isFor_17 ?_
    refine z_aload_n (pc := 20) C dX4_isFor_20 rfl ?_
    refine z_getI (pc := 21) C zf_X4_15 rfl rfl h0 dX4_isFor_21 ?_
    refine w_gb 0 5 (hI 11 _ 2) (fun v7 b7x => ?_)
    refine z_iald (pc := 24) C rfl h1 (zIx b7x (by decide) (by decide)) dX4_isFor_24 ?_
    refine w_gb 0 40 (hI 9 _ _) (fun v8 b8x => ?_)
    refine z_aload_n (pc := 25) C dX4_isFor_25 rfl ?_
    refine z_getI (pc := 26) C zf_X4_21 rfl rfl h0 dX4_isFor_26 ?_
    refine w_gb 0 40 (hI 11 _ 3) (fun v9 b9x => ?_)
    refine z_icmp_ge (pc := 29) 34 C dX4_isFor_29 (by decide) (fun h29_9 => ?_) (fun h29_9 => ?_)
    · skip
      refine z_aload_n (pc := 34) C dX4_isFor_34 rfl ?_
      refine z_getI (pc := 35) C zf_X4_18 rfl rfl h0 dX4_isFor_35 ?_
      refine w_gb 0 2 (hI 11 _ 0) (fun v11 b11x => ?_)
      by_cases hsw1 : v11 = 1
      · skip
        refine z_lookE (pc := 38) hsw1 64 C dX4_isFor_38 (by decide) rfl (by decide) ?_
        refine z_aload_n (pc := 64) C dX4_isFor_64 rfl ?_
        refine z_getI (pc := 65) C zf_X4_56 rfl rfl h1 dX4_isFor_65 ?_
        refine w_gb 0 16777215 (hI 8 _ 5) (fun v12 b12x => ?_)
        refine z_aload_n (pc := 68) C dX4_isFor_68 rfl ?_
        refine z_getI (pc := 69) C zf_X4_24 rfl rfl h0 dX4_isFor_69 ?_
        refine w_gb (-2147483648) 2147483647 (hI 11 _ 4) (fun v13 b13x => ?_)
        refine z_iand (pc := 72) C dX4_isFor_72 ?_
        refine w_gb 0 16777215 (zand_bl b12x b13x (by decide)) (fun v14 b14x => ?_)
        refine z_if_eq (pc := 73) 80 C dX4_isFor_73 (by decide) (fun h73_14 => ?_) (fun h73_14 => ?_)
        · skip
          have b16x : zB v14 0 0 := by have q1 := b14x; have q2 := (zB.of (x := 0) 0 (by decide)); simp only [z32lt, z32le, z32eq, Int32.reduceToInt, Int32.toInt_zero] at h73_14; constructor <;> omega
          refine z_iconst (pc := 80) (v := 0) C dX4_isFor_80 (by decide) ?_
          exact J1 0 (zB.wk (a' := 0) (b' := 1) (zB.of (x := 0) 0 (by decide)) (by decide) (by decide)) f hI hF  (by have qc0 : (0 : Int32).toInt = 0 := (by decide); omega)
        · skip
          have b17x : zB v14 1 16777215 := by have q1 := b14x; have q2 := (zB.of (x := 0) 0 (by decide)); simp only [z32lt, z32le, z32eq, Int32.reduceToInt, Int32.toInt_zero] at h73_14; constructor <;> omega
          refine z_iconst (pc := 76) (v := 1) C dX4_isFor_76 (by decide) ?_
          refine z_goto (pc := 77) 81 C dX4_isFor_77 (by decide) ?_
          exact J1 1 (zB.wk (a' := 0) (b' := 1) (zB.of (x := 1) 1 (by decide)) (by decide) (by decide)) f hI hF  (by have qc0 : (1 : Int32).toInt = 1 := (by decide); omega)
      · skip
        by_cases hsw2 : v11 = 2
        · skip
          refine z_lookE (pc := 38) hsw2 82 C dX4_isFor_38 (by decide) rfl (by decide) ?_
          refine z_aload_n (pc := 82) C dX4_isFor_82 rfl ?_
          refine z_getI (pc := 83) C zf_X4_59 rfl rfl h1 dX4_isFor_83 ?_
          refine w_gb 0 63 (hI 8 _ 0) (fun v18 b18x => ?_)
          refine z_aload_n (pc := 86) C dX4_isFor_86 rfl ?_
          refine z_getI (pc := 87) C zf_X4_62 rfl rfl h1 dX4_isFor_87 ?_
          refine w_gb 0 63 (hI 8 _ 1) (fun v19 b19x => ?_)
          refine z_iconst (pc := 90) (v := -1) C dX4_isFor_90 (by decide) ?_
          refine z_ixor (pc := 91) C dX4_isFor_91 ?_
          refine w_gb (-2147483648) 2147483647 (zB_any _) (fun v20 b20x => ?_)
          refine z_iand (pc := 92) C dX4_isFor_92 ?_
          refine w_gb 0 63 (zand_bl b18x b20x (by decide)) (fun v21 b21x => ?_)
          refine z_if_ne (pc := 93) 100 C dX4_isFor_93 (by decide) (fun h93_21 => ?_) (fun h93_21 => ?_)
          · skip
            have b23x : zB v21 1 63 := by have q1 := b21x; have q2 := (zB.of (x := 0) 0 (by decide)); simp only [z32lt, z32le, z32eq, Int32.reduceToInt, Int32.toInt_zero] at h93_21; constructor <;> omega
            refine z_iconst (pc := 100) (v := 0) C dX4_isFor_100 (by decide) ?_
            exact J2 0 (zB.wk (a' := 0) (b' := 1) (zB.of (x := 0) 0 (by decide)) (by decide) (by decide)) f hI hF  (by have qc0 : (0 : Int32).toInt = 0 := (by decide); omega)
          · skip
            have b24x : zB v21 0 0 := by have q1 := b21x; have q2 := (zB.of (x := 0) 0 (by decide)); simp only [z32lt, z32le, z32eq, Int32.reduceToInt, Int32.toInt_zero] at h93_21; constructor <;> omega
            refine z_iconst (pc := 96) (v := 1) C dX4_isFor_96 (by decide) ?_
            refine z_goto (pc := 97) 101 C dX4_isFor_97 (by decide) ?_
            exact J2 1 (zB.wk (a' := 0) (b' := 1) (zB.of (x := 1) 1 (by decide)) (by decide) (by decide)) f hI hF  (by have qc0 : (1 : Int32).toInt = 1 := (by decide); omega)
        · skip
          refine z_lookup (pc := 38) 102 C dX4_isFor_38 (by decide) (zlk_X4_isFor hsw1 hsw2) (by decide) ?_
          refine z_iconst (pc := 102) (v := 1) C dX4_isFor_102 (by decide) ?_
          exact z_zret (pc := 103) C hr (z01 (zB.wk (a' := 0) (b' := 1) (zB.of (x := 1) 1 (by decide)) (by decide) (by decide))) dX4_isFor_103 ⟨⟨_, rfl, (zB.wk (a' := 0) (b' := 1) (zB.of (x := 1) 1 (by decide)) (by decide) (by decide))⟩, hI, hF⟩
    · skip
      have b25x : zB v8 0 39 := by have q1 := b8x; have q2 := b9x; simp only [z32lt, z32le, z32eq, Int32.reduceToInt, Int32.toInt_zero] at h29_9; constructor <;> omega
      have b26x : zB v9 1 40 := by have q1 := b8x; have q2 := b9x; simp only [z32lt, z32le, z32eq, Int32.reduceToInt, Int32.toInt_zero] at h29_9; constructor <;> omega
      exact J0  f hI hF  (by omega)

set_option maxRecDepth 100000 in
set_option maxHeartbeats 4000000 in
theorem w_X3_goesBy (d : Nat) (f : zM) (m0 : Nat) (h0 : m0 < zcnt 6) (m1 : Nat) (h1 : m1 < zcnt 11) (hI : zInv f) : ZM (d + 1) yX3_goesBy cX3_goesBy 3 (some .int) [zr 6 m0, zr 11 m1] f (fun r g => (∃ v, r = some (zi v) ∧ zB v 0 255) ∧ zInv g ∧ zFr [] f g) := by
  refine ZM.intro (by decide +kernel) (Nat.le_of_ble_eq_true rfl) ?_
  intro X C hr hn
  have hF : zFr [] f f := zFr.rf _ _
  have J : ∀ t : Nat, (∀ g : zM, zInv g → zFr [] f g → (3 : Int) < t → Z X 31 [some (zr 6 m0), some (zr 11 m1), none] [] g) ∧ (∀ g : zM, zInv g → zFr [] f g → (2 : Int) < t → Z X 33 [some (zr 6 m0), some (zr 11 m1), none] [] g) ∧ (∀ a69_2 : Int32, zB a69_2 0 255 → ∀ g : zM, zInv g → zFr [] f g → (1 : Int) < t → Z X 69 [some (zr 6 m0), some (zr 11 m1), some (zi a69_2)] [] g) ∧ (∀ a70_2 : Int32, zB a70_2 0 255 → ∀ a70_s0 : Int32, zB a70_s0 0 255 → ∀ g : zM, zInv g → zFr [] f g → (0 : Int) < t → Z X 70 [some (zr 6 m0), some (zr 11 m1), some (zi a70_2)] [zi a70_s0] g) := by
    intro t
    induction t with
    | zero =>
      refine ⟨?_, ?_, ?_, ?_⟩ <;> (intros; exfalso; omega)
    | succ t ih =>
      obtain ⟨ih0, ih1, ih2, ih3⟩ := ih
      refine ⟨?_, ?_, ?_, ?_⟩
      · skip
        intro g31_ hI31_ hF31_ hM31_
        refine z_iconst (pc := 31) (v := 0) C dX3_goesBy_31 (by decide) ?_
        exact z_iret (pc := 32) C hr dX3_goesBy_32 ⟨⟨_, rfl, (zB.wk (a' := 0) (b' := 255) (zB.of (x := 0) 0 (by decide)) (by decide) (by decide))⟩, hI31_, hF31_⟩
      · skip
        intro g33_ hI33_ hF33_ hM33_
        refine z_aload_n (pc := 33) C dX3_goesBy_33 rfl ?_
        refine z_getI (pc := 34) C zf_X3_46 rfl rfl h1 dX3_goesBy_34 ?_
        refine w_gb 0 255 (hI33_ 11 _ 8) (fun v1 b1x => ?_)
        refine z_aload_n (pc := 37) C dX3_goesBy_37 rfl ?_
        refine z_getI (pc := 38) C zf_X3_15 rfl rfl h0 dX3_goesBy_38 ?_
        refine w_gb 0 255 (hI33_ 6 _ 6) (fun v2 b2x => ?_)
        refine z_iand (pc := 41) C dX3_goesBy_41 ?_
        refine w_gp (fun v => zB v 0 255 ∧ v.toInt ≤ v2.toInt) (zand_r b1x b2x (by decide)) (fun v3 e3 => ?_)
        have b3x := e3.1
        have r3 := e3.2
        refine z_istore_n (pc := 42) C dX3_goesBy_42 (by rw [hn]; decide) rfl ?_
        refine z_aload_n (pc := 43) C dX3_goesBy_43 rfl ?_
        refine z_getI (pc := 44) C zf_X3_21 rfl rfl h0 dX3_goesBy_44 ?_
        refine w_gb 0 1 (hI33_ 6 _ 4) (fun v4 b4x => ?_)
        refine z_if_eq (pc := 47) 69 C dX3_goesBy_47 (by decide) (fun h47_4 => ?_) (fun h47_4 => ?_)
        · skip
          have b6x : zB v4 0 0 := by have q1 := b4x; have q2 := (zB.of (x := 0) 0 (by decide)); simp only [z32lt, z32le, z32eq, Int32.reduceToInt, Int32.toInt_zero] at h47_4; constructor <;> omega
          exact ih2 v3 b3x g33_ hI33_ hF33_  (by omega)
        · skip
          have b7x : zB v4 1 1 := by have q1 := b4x; have q2 := (zB.of (x := 0) 0 (by decide)); simp only [z32lt, z32le, z32eq, Int32.reduceToInt, Int32.toInt_zero] at h47_4; constructor <;> omega
          refine z_aload_n (pc := 50) C dX3_goesBy_50 rfl ?_
          refine z_iconst (pc := 51) (v := 1) C dX3_goesBy_51 (by decide) ?_
          refine z_callV (pc := 52) C zk_X3_49 (w_X4_pledges _ _ m1 h1 1 (zB.wk (a' := (-2147483648)) (b' := 2147483647) (zB.of (x := 1) 1 (by decide)) (by decide) (by decide)) hI33_) rfl rfl h1 rfl rfl (Nat.le_of_ble_eq_true rfl) dX3_goesBy_52 (fun r8 g8 q8 => ?_)
          obtain ⟨⟨v8, rfl, b8x⟩, hI8, hF8q⟩ := q8
          obtain rfl := zFr_nil hF8q
          simp only [Option.toList, List.cons_append, List.nil_append]
          refine z_if_ne (pc := 55) 69 C dX3_goesBy_55 (by decide) (fun h55_8 => ?_) (fun h55_8 => ?_)
          · skip
            have b10x : zB v8 1 1 := by have q1 := b8x; have q2 := (zB.of (x := 0) 0 (by decide)); simp only [z32lt, z32le, z32eq, Int32.reduceToInt, Int32.toInt_zero] at h55_8; constructor <;> omega
            exact ih2 v3 b3x g33_ hI33_ hF33_  (by omega)
          · skip
            have b11x : zB v8 0 0 := by have q1 := b8x; have q2 := (zB.of (x := 0) 0 (by decide)); simp only [z32lt, z32le, z32eq, Int32.reduceToInt, Int32.toInt_zero] at h55_8; constructor <;> omega
            refine z_iload_n (pc := 58) C dX3_goesBy_58 rfl ?_
            refine z_aload_n (pc := 59) C dX3_goesBy_59 rfl ?_
            refine z_getI (pc := 60) C zf_X3_53 rfl rfl h1 dX3_goesBy_60 ?_
            refine w_gb 0 255 (hI33_ 11 _ 9) (fun v12 b12x => ?_)
            refine z_iconst (pc := 63) (v := -1) C dX3_goesBy_63 (by decide) ?_
            refine z_ixor (pc := 64) C dX3_goesBy_64 ?_
            refine w_gb (-2147483648) 2147483647 (zB_any _) (fun v13 b13x => ?_)
            refine z_iand (pc := 65) C dX3_goesBy_65 ?_
            refine w_gb 0 255 (zand_bl b3x b13x (by decide)) (fun v14 b14x => ?_)
            refine z_goto (pc := 66) 70 C dX3_goesBy_66 (by decide) ?_
            exact ih3 v3 b3x v14 b14x g33_ hI33_ hF33_  (by omega)
      · skip
        intro a69_2 b69_2 g69_ hI69_ hF69_ hM69_
        refine z_iload_n (pc := 69) C dX3_goesBy_69 rfl ?_
        exact ih3 a69_2 b69_2 a69_2 b69_2 g69_ hI69_ hF69_  (by omega)
      · skip
        intro a70_2 b70_2 a70_s0 b70_s0 g70_ hI70_ hF70_ hM70_
        exact z_iret (pc := 70) C hr dX3_goesBy_70 ⟨⟨_, rfl, b70_s0⟩, hI70_, hF70_⟩
  obtain ⟨J0, J1, J2, J3⟩ := J 15
  show Z X 0 [some (zr 6 m0), some (zr 11 m1), none] [] f
  refine z_aload_n (pc := 0) C dX3_goesBy_0 rfl ?_
  refine z_getI (pc := 1) C zf_X3_38 rfl rfl h1 dX3_goesBy_1 ?_
  refine w_gb 0 5 (hI 11 _ 1) (fun v15 b15x => ?_)
  refine z_aload_n (pc := 4) C dX3_goesBy_4 rfl ?_
  refine z_getI (pc := 5) C zf_X3_18 rfl rfl h0 dX3_goesBy_5 ?_
  refine w_gb 0 5 (hI 6 _ 1) (fun v16 b16x => ?_)
  refine z_icmp_ne (pc := 8) 31 C dX3_goesBy_8 (by decide) (fun h8_16 => ?_) (fun h8_16 => ?_)
  · skip
    exact J0  f hI hF  (by omega)
  · skip
    refine z_aload_n (pc := 11) C dX3_goesBy_11 rfl ?_
    refine z_getI (pc := 12) C zf_X3_9 rfl rfl h0 dX3_goesBy_12 ?_
    refine w_gb (-4) 5 (hI 6 _ 5) (fun v18 b18x => ?_)
    refine z_bipush (pc := 15) (v := -4) C dX3_goesBy_15 (by decide) ?_
    refine z_icmp_eq (pc := 17) 33 C dX3_goesBy_17 (by decide) (fun h17_18 => ?_) (fun h17_18 => ?_)
    · skip
      have b20x : zB v18 (-4) (-4) := by have q1 := b18x; have q2 := (zB.of (x := (-4)) (-4) (by decide)); simp only [z32lt, z32le, z32eq, Int32.reduceToInt, Int32.toInt_zero] at h17_18; constructor <;> omega
      exact J1  f hI hF  (by omega)
    · skip
      have b21x : zB v18 (-3) 5 := by have q1 := b18x; have q2 := (zB.of (x := (-4)) (-4) (by decide)); simp only [z32lt, z32le, z32eq, Int32.reduceToInt, Int32.toInt_zero] at h17_18; constructor <;> omega
      refine z_aload_n (pc := 20) C dX3_goesBy_20 rfl ?_
      refine z_getI (pc := 21) C zf_X3_9 rfl rfl h0 dX3_goesBy_21 ?_
      refine w_gb (-4) 5 (hI 6 _ 5) (fun v22 b22x => ?_)
      refine z_aload_n (pc := 24) C dX3_goesBy_24 rfl ?_
      refine z_getI (pc := 25) C zf_X3_43 rfl rfl h1 dX3_goesBy_25 ?_
      refine w_gb 0 5 (hI 11 _ 2) (fun v23 b23x => ?_)
      refine z_icmp_eq (pc := 28) 33 C dX3_goesBy_28 (by decide) (fun h28_23 => ?_) (fun h28_23 => ?_)
      · skip
        have b25x : zB v22 0 5 := by have q1 := b22x; have q2 := b23x; simp only [z32lt, z32le, z32eq, Int32.reduceToInt, Int32.toInt_zero] at h28_23; constructor <;> omega
        exact J1  f hI hF  (by omega)
      · skip
        exact J0  f hI hF  (by omega)
