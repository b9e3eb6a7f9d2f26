theorem w_X9_byteOf (d : Nat) (f : zM) (a0 : Int64) (a1 : Int32) (b1 : zB a1 (-2147483648) 2147483647) (hI : zInv f) : ZM d yX9_byteOf cX9_byteOf 3 (some .int) [zl a0, zi a1] f (fun r g => (∃ v, r = some (zi v) ∧ zB v 0 255) ∧ zInv g ∧ zFr [] f g) := ZM.mono (m_X9_byteOf d f a0 a1) (fun r g h => by
  obtain ⟨rfl, rfl⟩ := h
  exact ⟨⟨_, rfl, zand_b (zB_any _) (zB.of (x := 255) 255 (by decide)) (by decide)⟩, hI, zFr.rf _ _⟩)
set_option maxRecDepth 100000 in
set_option maxHeartbeats 4000000 in
theorem w_X7_write (d : Nat) (f : zM) (a1 : Int32) (b1 : zB a1 0 255) (hI : zInv f) : ZM d yX7_write cX7_write 2 none [zr 18 0, zi a1] f (fun r g => r = none ∧ zInv g ∧ zFr [(18, some 3), (19, none)] f g) := by
  refine ZM.intro (by decide +kernel) (Nat.le_of_ble_eq_true rfl) ?_
  intro X C hr hn
  have hF : zFr [(18, some 3), (19, none)] f f := zFr.rf _ _
  have ct18_0_3 : zB (f 18 0 3) 0 120 := hI 18 0 3
  have J : ∀ t : Nat, (∀ g : zM, zInv g → zFr [(18, some 3), (19, none)] f g → zB (g 18 0 3) 1 120 → (0 : Int) < t → Z X 29 [some (zr 18 0), some (zi a1)] [] g) := by
    intro t
    induction t with
    | zero =>
      intros; exfalso; omega
    | succ t ih =>
      have ih0 := ih
      intro g29_ hI29_ hF29_ f29_18_0_3 hM29_
      exact z_vret (pc := 29) C hr dX7_write_29 ⟨rfl, hI29_, hF29_⟩
  have J0 := J 12
  show Z X 0 [some (zr 18 0), some (zi a1)] [] f
  refine z_aload_n (pc := 0) C dX7_write_0 rfl ?_
  refine z_getI (pc := 1) C zf_X7_29 rfl rfl (by decide) dX7_write_1 ?_
  refine w_gp (fun v => v.toInt = (f 18 0 3).toInt) rfl (fun v1 e1 => ?_)
  have b1x : zB v1 0 120 := by have q9 : zB (f 18 0 3) 0 120 := ct18_0_3; constructor <;> omega
  refine z_bipush (pc := 4) (v := 120) C dX7_write_4 (by decide) ?_
  refine z_icmp_ge (pc := 6) 29 C dX7_write_6 (by decide) (fun h6_1 => ?_) (fun h6_1 => ?_)
  · skip
    have b3x : zB v1 120 120 := by have q1 := b1x; have q2 := (zB.of (x := 120) 120 (by decide)); simp only [z32lt, z32le, z32eq, Int32.reduceToInt, Int32.toInt_zero] at h6_1; constructor <;> omega
    have c4x : zB (f 18 0 3) 120 120 := by constructor <;> omega
    exact J0  f hI hF (zB.wk c4x (by decide) (by decide)) (by omega)
  · skip
    have b5x : zB v1 0 119 := by have q1 := b1x; have q2 := (zB.of (x := 120) 120 (by decide)); simp only [z32lt, z32le, z32eq, Int32.reduceToInt, Int32.toInt_zero] at h6_1; constructor <;> omega
    have c6x : zB (f 18 0 3) 0 119 := by constructor <;> omega
    refine z_aload_n (pc := 9) C dX7_write_9 rfl ?_
    refine z_getR (pc := 10) C zf_X7_9 rfl rfl (by decide) dX7_write_10 ?_
    refine z_aload_n (pc := 13) C dX7_write_13 rfl ?_
    refine z_getI (pc := 14) C zf_X7_29 rfl rfl (by decide) dX7_write_14 ?_
    refine w_gp (fun v => v.toInt = (f 18 0 3).toInt) rfl (fun v7 e7 => ?_)
    have b7x : zB v7 0 119 := by have q9 : zB (f 18 0 3) 0 119 := c6x; constructor <;> omega
    refine z_iload_n (pc := 17) C dX7_write_17 rfl ?_
    refine z_cast (pc := 18) C rfl (by decide) (zIx b7x (by decide) (by decide)) dX7_write_18 ?_
    refine w_mem2 hI hF (zi2n_b (a := 0) (b := 255) b1 (by decide) (by decide)) rfl (fun g8 hI8 hF8 hq8 hx8 => ?_)
    have ek8_18_0_3 : (g8 18 0 3).toInt = (f 18 0 3).toInt := by rw [hq8 18 0 3 (by omega)]
    have c8_18_0_3x : zB (g8 18 0 3) 0 119 := by have q9 := c6x; constructor <;> omega
    refine z_aload_n (pc := 19) C dX7_write_19 rfl ?_
    refine z_dupr (pc := 20) C dX7_write_20 ?_
    refine z_getI (pc := 21) C zf_X7_29 rfl rfl (by decide) dX7_write_21 ?_
    refine w_gp (fun v => v.toInt = (g8 18 0 3).toInt) rfl (fun v9 e9 => ?_)
    have b9x : zB v9 0 119 := by have q9 : zB (g8 18 0 3) 0 119 := c8_18_0_3x; constructor <;> omega
    refine z_iconst (pc := 24) (v := 1) C dX7_write_24 (by decide) ?_
    refine z_iadd (pc := 25) C dX7_write_25 ?_
    refine w_gp (fun v => v.toInt = v9.toInt + 1) (zadd_eb b9x (zB.of (x := 1) 1 (by decide)) (by decide) (by decide)) (fun v10 e10 => ?_)
    have b10x : zB v10 1 120 := by have q1 := b9x; have q2 := (zB.of (x := 1) 1 (by decide)); constructor <;> omega
    refine z_putI (pc := 26) C zf_X7_29 zp_7_3 rfl rfl (by decide) dX7_write_26 ?_
    refine w_mem2 hI8 hF8 (zB.wk (a' := 0) (b' := 120) b10x (by decide) (by decide)) rfl (fun g11 hI11 hF11 hq11 hx11 => ?_)
    have ec11 : (g11 18 0 3).toInt = v10.toInt := by rw [hx11]
    have c11x : zB (g11 18 0 3) 1 120 := by have q9 := b10x; constructor <;> omega
    exact J0  g11 hI11 hF11 c11x (by omega)

set_option maxRecDepth 100000 in
set_option maxHeartbeats 4000000 in
theorem w_X9_type (d : Nat) (f : zM) (a1 : Int64) (a2 : Int32) (b2 : zB a2 (-2147483648) 2147483647) (hI : zInv f) : ZM (d + 1) yX9_type cX9_type 6 (some .int) [zr 0 0, zl a1, zi a2] f (fun r g => (∃ v, r = some (zi v) ∧ zB v (-3) 120) ∧ zInv g ∧ zFr [(18, some 3), (19, none)] f g) := by
  refine ZM.intro (by decide +kernel) (Nat.le_of_ble_eq_true rfl) ?_
  intro X C hr hn
  have hF : zFr [(18, some 3), (19, none)] f f := zFr.rf _ _
  have J : ∀ t : Nat, (∀ g : zM, zInv g → zFr [(18, some 3), (19, none)] f g → (597 : Int) < t → Z X 11 [some (zr 0 0), some (zl a1), none, some (zi a2), none, none] [] g) ∧ (zB a2 1 8 → ∀ a16_4 : Int32, zB a16_4 0 8 → ∀ g : zM, zInv g → zFr [(18, some 3), (19, none)] f g → (56 + 60 * (8 - a16_4.toInt) : Int) < t → Z X 16 [some (zr 0 0), some (zl a1), none, some (zi a2), some (zi a16_4), none] [] g) ∧ (zB a2 1 8 → ∀ a44_4 : Int32, zB a44_4 0 7 → ∀ a44_5 : Int32, zB a44_5 0 255 → ∀ g : zM, zInv g → zFr [(18, some 3), (19, none)] f g → (55 + 60 * (8 - a44_4.toInt) : Int) < t → Z X 44 [some (zr 0 0), some (zl a1), none, some (zi a2), some (zi a44_4), some (zi a44_5)] [] g) ∧ (zB a2 1 8 → ∀ a74_4 : Int32, zB a74_4 (-1) 7 → ∀ g : zM, zInv g → zFr [(18, some 3), (19, none)] f g → (0 + 6 * (a74_4.toInt - (-1)) : Int) < t → Z X 74 [some (zr 0 0), some (zl a1), none, some (zi a2), some (zi a74_4), none] [] g) := by
    intro t
    induction t with
    | zero =>
      refine ⟨?_, ?_, ?_, ?_⟩ <;> (intros; exfalso; omega)
    | succ t ih =>
      obtain ⟨ih0, ih1, ih2, ih3⟩ := ih
      refine ⟨?_, ?_, ?_, ?_⟩
      · skip
        intro g11_ hI11_ hF11_ hM11_
        refine z_iconst (pc := 11) (v := -1) C dX9_type_11 (by decide) ?_
        exact z_iret (pc := 12) C hr dX9_type_12 ⟨⟨_, rfl, (zB.wk (a' := (-3)) (b' := 120) (zB.of (x := (-1)) (-1) (by decide)) (by decide) (by decide))⟩, hI11_, hF11_⟩
      · skip
        intro b16_3 a16_4 b16_4 g16_ hI16_ hF16_ hM16_
        refine z_iload (pc := 16) C dX9_type_16 rfl ?_
        refine z_iload_n (pc := 18) C dX9_type_18 rfl ?_
        refine z_icmp_ge (pc := 19) 52 C dX9_type_19 (by decide) (fun h19_0 => ?_) (fun h19_0 => ?_)
        · skip
          have b2x : zB a16_4 1 8 := by have q1 := b16_4; have q2 := b16_3; simp only [z32lt, z32le, z32eq, Int32.reduceToInt, Int32.toInt_zero] at h19_0; constructor <;> omega
          refine z_aload_n (pc := 52) C dX9_type_52 rfl ?_
          refine z_getR (pc := 53) C zf_X9_31 rfl rfl (by decide) dX9_type_53 ?_
          refine z_getI (pc := 56) C zf_X9_108 rfl rfl (by decide) dX9_type_56 ?_
          refine w_gb 0 120 (hI16_ 18 _ 3) (fun v3 b3x => ?_)
          refine z_iload_n (pc := 59) C dX9_type_59 rfl ?_
          refine z_iadd (pc := 60) C dX9_type_60 ?_
          refine w_gp (fun v => v.toInt = v3.toInt + a2.toInt) (zadd_eb b3x b16_3 (by decide) (by decide)) (fun v4 e4 => ?_)
          have b4x : zB v4 1 128 := by have q1 := b3x; have q2 := b16_3; constructor <;> omega
          refine z_bipush (pc := 61) (v := 120) C dX9_type_61 (by decide) ?_
          refine z_icmp_le (pc := 63) 69 C dX9_type_63 (by decide) (fun h63_4 => ?_) (fun h63_4 => ?_)
          · skip
            have b6x : zB v4 1 120 := by have q1 := b4x; have q2 := (zB.of (x := 120) 120 (by decide)); simp only [z32lt, z32le, z32eq, Int32.reduceToInt, Int32.toInt_zero] at h63_4; constructor <;> omega
            refine z_iload_n (pc := 69) C dX9_type_69 rfl ?_
            refine z_iconst (pc := 70) (v := 1) C dX9_type_70 (by decide) ?_
            refine z_isub (pc := 71) C dX9_type_71 ?_
            refine w_gp (fun v => v.toInt = a2.toInt - 1) (zsub_eb b16_3 (zB.of (x := 1) 1 (by decide)) (by decide) (by decide)) (fun v7 e7 => ?_)
            have b7x : zB v7 0 7 := by have q1 := b16_3; have q2 := (zB.of (x := 1) 1 (by decide)); constructor <;> omega
            refine z_istore (pc := 72) C dX9_type_72 (by rw [hn]; decide) rfl ?_
            exact ih3 b16_3 v7 (zB.wk (a' := (-1)) (b' := 7) b7x (by decide) (by decide)) g16_ hI16_ hF16_  (by omega)
          · skip
            have b8x : zB v4 121 128 := by have q1 := b4x; have q2 := (zB.of (x := 120) 120 (by decide)); simp only [z32lt, z32le, z32eq, Int32.reduceToInt, Int32.toInt_zero] at h63_4; constructor <;> omega
            refine z_bipush (pc := 66) (v := -3) C dX9_type_66 (by decide) ?_
            exact z_iret (pc := 68) C hr dX9_type_68 ⟨⟨_, rfl, (zB.wk (a' := (-3)) (b' := 120) (zB.of (x := (-3)) (-3) (by decide)) (by decide) (by decide))⟩, hI16_, hF16_⟩
        · skip
          have b9x : zB a16_4 0 7 := by have q1 := b16_4; have q2 := b16_3; simp only [z32lt, z32le, z32eq, Int32.reduceToInt, Int32.toInt_zero] at h19_0; constructor <;> omega
          refine z_lload_n (pc := 22) C dX9_type_22 rfl ?_
          refine z_iload (pc := 23) C dX9_type_23 rfl ?_
          refine z_callS (pc := 25) C zk_X9_104 (w_X9_byteOf _ _ a1 a16_4 (zB.wk (a' := (-2147483648)) (b' := 2147483647) b9x (by decide) (by decide)) hI16_) rfl rfl (Nat.le_of_ble_eq_true rfl) dX9_type_25 (fun r10 g10 q10 => ?_)
          obtain ⟨⟨v10, rfl, b10x⟩, hI10, hF10q⟩ := q10
          obtain rfl := zFr_nil hF10q
          simp only [Option.toList, List.cons_append, List.nil_append]
          refine z_istore (pc := 28) C dX9_type_28 (by rw [hn]; decide) rfl ?_
          refine z_iload (pc := 30) C dX9_type_30 rfl ?_
          refine z_bipush (pc := 32) (v := 32) C dX9_type_32 (by decide) ?_
          refine z_icmp_lt (pc := 34) 44 C dX9_type_34 (by decide) (fun h34_10 => ?_) (fun h34_10 => ?_)
          · skip
            have b12x : zB v10 0 31 := by have q1 := b10x; have q2 := (zB.of (x := 32) 32 (by decide)); simp only [z32lt, z32le, z32eq, Int32.reduceToInt, Int32.toInt_zero] at h34_10; constructor <;> omega
            exact ih2 b16_3 a16_4 b9x v10 (zB.wk (a' := 0) (b' := 255) b12x (by decide) (by decide)) g16_ hI16_ hF16_  (by omega)
          · skip
            have b13x : zB v10 32 255 := by have q1 := b10x; have q2 := (zB.of (x := 32) 32 (by decide)); simp only [z32lt, z32le, z32eq, Int32.reduceToInt, Int32.toInt_zero] at h34_10; constructor <;> omega
            refine z_iload (pc := 37) C dX9_type_37 rfl ?_
            refine z_bipush (pc := 39) (v := 126) C dX9_type_39 (by decide) ?_
            refine z_icmp_le (pc := 41) 46 C dX9_type_41 (by decide) (fun h41_13 => ?_) (fun h41_13 => ?_)
            · skip
              have b15x : zB v10 32 126 := by have q1 := b13x; have q2 := (zB.of (x := 126) 126 (by decide)); simp only [z32lt, z32le, z32eq, Int32.reduceToInt, Int32.toInt_zero] at h41_13; constructor <;> omega
              refine z_iinc (pc := 46) (v := 1) C dX9_type_46 rfl (by decide) (by rw [hn]; decide) rfl ?_
              obtain ⟨v16, hv16, e16⟩ : ∃ v : Int32, v = a16_4 + 1 ∧ v.toInt = a16_4.toInt + 1 := ⟨_, rfl, zadd_eb b9x (zB.of (x := 1) 1 (by decide)) (by decide) (by decide)⟩
              rw [← hv16]
              have b16x : zB v16 1 8 := by have q9 := b9x; constructor <;> omega
              refine z_goto (pc := 49) 16 C dX9_type_49 (by decide) ?_
              refine w_mask [5] ?_
              exact ih1 b16_3 v16 (zB.wk (a' := 0) (b' := 8) b16x (by decide) (by decide)) g16_ hI16_ hF16_  (by omega)
            · skip
              have b17x : zB v10 127 255 := by have q1 := b13x; have q2 := (zB.of (x := 126) 126 (by decide)); simp only [z32lt, z32le, z32eq, Int32.reduceToInt, Int32.toInt_zero] at h41_13; constructor <;> omega
              exact ih2 b16_3 a16_4 b9x v10 (zB.wk (a' := 0) (b' := 255) b17x (by decide) (by decide)) g16_ hI16_ hF16_  (by omega)
      · skip
        intro b44_3 a44_4 b44_4 a44_5 b44_5 g44_ hI44_ hF44_ hM44_
        refine z_iconst (pc := 44) (v := -1) C dX9_type_44 (by decide) ?_
        exact z_iret (pc := 45) C hr dX9_type_45 ⟨⟨_, rfl, (zB.wk (a' := (-3)) (b' := 120) (zB.of (x := (-1)) (-1) (by decide)) (by decide) (by decide))⟩, hI44_, hF44_⟩
      · skip
        intro b74_3 a74_4 b74_4 g74_ hI74_ hF74_ hM74_
        refine z_iload (pc := 74) C dX9_type_74 rfl ?_
        refine z_if_lt (pc := 76) 99 C dX9_type_76 (by decide) (fun h76_17 => ?_) (fun h76_17 => ?_)
        · skip
          have b19x : zB a74_4 (-1) (-1) := by have q1 := b74_4; have q2 := (zB.of (x := 0) 0 (by decide)); simp only [z32lt, z32le, z32eq, Int32.reduceToInt, Int32.toInt_zero] at h76_17; constructor <;> omega
          refine z_aload_n (pc := 99) C dX9_type_99 rfl ?_
          refine z_getR (pc := 100) C zf_X9_31 rfl rfl (by decide) dX9_type_100 ?_
          refine z_getI (pc := 103) C zf_X9_108 rfl rfl (by decide) dX9_type_103 ?_
          refine w_gb 0 120 (hI74_ 18 _ 3) (fun v20 b20x => ?_)
          exact z_iret (pc := 106) C hr dX9_type_106 ⟨⟨_, rfl, (zB.wk (a' := (-3)) (b' := 120) b20x (by decide) (by decide))⟩, hI74_, hF74_⟩
        · skip
          have b21x : zB a74_4 0 7 := by have q1 := b74_4; have q2 := (zB.of (x := 0) 0 (by decide)); simp only [z32lt, z32le, z32eq, Int32.reduceToInt, Int32.toInt_zero] at h76_17; constructor <;> omega
          refine z_aload_n (pc := 79) C dX9_type_79 rfl ?_
          refine z_getR (pc := 80) C zf_X9_31 rfl rfl (by decide) dX9_type_80 ?_
          refine z_lload_n (pc := 83) C dX9_type_83 rfl ?_
          refine z_iload (pc := 84) C dX9_type_84 rfl ?_
          refine z_callS (pc := 86) C zk_X9_104 (w_X9_byteOf _ _ a1 a74_4 (zB.wk (a' := (-2147483648)) (b' := 2147483647) b21x (by decide) (by decide)) hI74_) rfl rfl (Nat.le_of_ble_eq_true rfl) dX9_type_86 (fun r22 g22 q22 => ?_)
          obtain ⟨⟨v22, rfl, b22x⟩, hI22, hF22q⟩ := q22
          obtain rfl := zFr_nil hF22q
          simp only [Option.toList, List.cons_append, List.nil_append]
          refine z_i2c (pc := 89) C dX9_type_89 ?_
          refine w_gb 0 255 (zi2c_b b22x (by decide) (by decide)) (fun v23 b23x => ?_)
          refine z_callV (pc := 90) C zk_X9_111 (w_X7_write _ _ v23 b23x hI74_) rfl rfl (by decide) rfl rfl (Nat.le_of_ble_eq_true rfl) dX9_type_90 (fun r24 g24 q24 => ?_)
          obtain ⟨rfl, hI24, hF24q⟩ := q24
          have hF24 := zFr.tr hF74_ hF24q (by decide)
          simp only [Option.toList, List.cons_append, List.nil_append]
          refine z_iinc (pc := 93) (v := -1) C dX9_type_93 rfl (by decide) (by rw [hn]; decide) rfl ?_
          obtain ⟨v25, hv25, e25⟩ : ∃ v : Int32, v = a74_4 + (-1) ∧ v.toInt = a74_4.toInt + (-1) := ⟨_, rfl, zadd_eb b21x (zB.of (x := (-1)) (-1) (by decide)) (by decide) (by decide)⟩
          rw [← hv25]
          have b25x : zB v25 (-1) 6 := by have q9 := b21x; constructor <;> omega
          refine z_goto (pc := 96) 74 C dX9_type_96 (by decide) ?_
          exact ih3 b74_3 v25 (zB.wk (a' := (-1)) (b' := 7) b25x (by decide) (by decide)) g24 hI24 hF24  (by omega)
  obtain ⟨J0, J1, J2, J3⟩ := J 609
  show Z X 0 [some (zr 0 0), some (zl a1), none, some (zi a2), none, none] [] f
  refine z_iload_n (pc := 0) C dX9_type_0 rfl ?_
  refine z_iconst (pc := 1) (v := 1) C dX9_type_1 (by decide) ?_
  refine z_icmp_lt (pc := 2) 11 C dX9_type_2 (by decide) (fun h2_25 => ?_) (fun h2_25 => ?_)
  · skip
    have b27x : zB a2 (-2147483648) 0 := by have q1 := b2; have q2 := (zB.of (x := 1) 1 (by decide)); simp only [z32lt, z32le, z32eq, Int32.reduceToInt, Int32.toInt_zero] at h2_25; constructor <;> omega
    exact J0  f hI hF  (by omega)
  · skip
    have b28x : zB a2 1 2147483647 := by have q1 := b2; have q2 := (zB.of (x := 1) 1 (by decide)); simp only [z32lt, z32le, z32eq, Int32.reduceToInt, Int32.toInt_zero] at h2_25; constructor <;> omega
    refine z_iload_n (pc := 5) C dX9_type_5 rfl ?_
    refine z_bipush (pc := 6) (v := 8) C dX9_type_6 (by decide) ?_
    refine z_icmp_le (pc := 8) 13 C dX9_type_8 (by decide) (fun h8_28 => ?_) (fun h8_28 => ?_)
    · skip
      have b30x : zB a2 1 8 := by have q1 := b28x; have q2 := (zB.of (x := 8) 8 (by decide)); simp only [z32lt, z32le, z32eq, Int32.reduceToInt, Int32.toInt_zero] at h8_28; constructor <;> omega
      refine z_iconst (pc := 13) (v := 0) C dX9_type_13 (by decide) ?_
      refine z_istore (pc := 14) C dX9_type_14 (by rw [hn]; decide) rfl ?_
      exact J1 b30x 0 (zB.wk (a' := 0) (b' := 8) (zB.of (x := 0) 0 (by decide)) (by decide) (by decide)) f hI hF  (by have qc0 : (0 : Int32).toInt = 0 := (by decide); omega)
    · skip
      have b31x : zB a2 9 2147483647 := by have q1 := b28x; have q2 := (zB.of (x := 8) 8 (by decide)); simp only [z32lt, z32le, z32eq, Int32.reduceToInt, Int32.toInt_zero] at h8_28; constructor <;> omega
      exact J0  f hI hF  (by omega)

set_option maxRecDepth 100000 in
set_option maxHeartbeats 4000000 in
theorem w_X9_demand (d : Nat) (f : zM) (a1 : Int32) (b1 : zB a1 (-2147483648) 2147483647) (a2 : Int32) (b2 : zB a2 (-2147483648) 2147483647) (a3 : Int32) (b3 : zB a3 (-2147483648) 2147483647) (hI : zInv f) : ZM (d + 1) yX9_demand cX9_demand 4 (some .int) [zr 0 0, zi a1, zi a2, zi a3] f (fun r g => (∃ v, r = some (zi v) ∧ zB v (-3) 7) ∧ zInv g ∧ zFr [(1, some 8), (12, some 0), (12, some 1), (12, some 2)] f g) := by
  refine ZM.intro (by decide +kernel) (Nat.le_of_ble_eq_true rfl) ?_
  intro X C hr hn
  have hF : zFr [(1, some 8), (12, some 0), (12, some 1), (12, some 2)] f f := zFr.rf _ _
  have ct1_0_8 : zB (f 1 0 8) 0 8 := hI 1 0 8
  have J : ∀ t : Nat, (∀ g : zM, zInv g → zFr [(1, some 8), (12, some 0), (12, some 1), (12, some 2)] f g → zB (g 1 0 8) 0 8 → (0 : Int) < t → Z X 32 [some (zr 0 0), some (zi a1), some (zi a2), some (zi a3)] [] g) := by
    intro t
    induction t with
    | zero =>
      intros; exfalso; omega
    | succ t ih =>
      have ih0 := ih
      intro g32_ hI32_ hF32_ f32_1_0_8 hM32_
      refine z_iconst (pc := 32) (v := -1) C dX9_demand_32 (by decide) ?_
      exact z_iret (pc := 33) C hr dX9_demand_33 ⟨⟨_, rfl, (zB.wk (a' := (-3)) (b' := 7) (zB.of (x := (-1)) (-1) (by decide)) (by decide) (by decide))⟩, hI32_, hF32_⟩
  have J0 := J 12
  show Z X 0 [some (zr 0 0), some (zi a1), some (zi a2), some (zi a3)] [] f
  refine z_iload_n (pc := 0) C dX9_demand_0 rfl ?_
  refine z_callSb (pc := 1) C zk_X9_46 (m_X9_isLand _ _ _) rfl rfl (Nat.le_of_ble_eq_true rfl) dX9_demand_1 (fun h1_0 => ?_) (fun h1_0 => ?_)
  · skip
    have b2x : zB a1 0 5 := h1_0
    refine z_if_eq (pc := 4) 32 C dX9_demand_4 (by decide) (fun h => absurd h (by decide)) (fun _ => ?_)
    refine z_iload_n (pc := 7) C dX9_demand_7 rfl ?_
    refine z_if_eq (pc := 8) 32 C dX9_demand_8 (by decide) (fun h8_2 => ?_) (fun h8_2 => ?_)
    · skip
      have b4x : zB a2 0 0 := by have q1 := b2; have q2 := (zB.of (x := 0) 0 (by decide)); simp only [z32lt, z32le, z32eq, Int32.reduceToInt, Int32.toInt_zero] at h8_2; constructor <;> omega
      exact J0  f hI hF ct1_0_8 (by omega)
    · skip
      refine z_iload_n (pc := 11) C dX9_demand_11 rfl ?_
      refine z_aload_n (pc := 12) C dX9_demand_12 rfl ?_
      refine z_getR (pc := 13) C zf_X9_10 rfl rfl (by decide) dX9_demand_13 ?_
      refine z_callVx (pc := 16) C zk_X9_252 (m_X8_allDeeds _ _ 0 (by decide)) rfl rfl (by decide) rfl rfl (Nat.le_of_ble_eq_true rfl) dX9_demand_16 ?_
      simp only [Option.toList, List.cons_append, List.nil_append]
      refine z_iconst (pc := 19) (v := -1) C dX9_demand_19 (by decide) ?_
      refine z_ixor (pc := 20) C dX9_demand_20 ?_
      refine z_iand (pc := 21) C dX9_demand_21 ?_
      refine z_if_ne (pc := 22) 32 C dX9_demand_22 (by decide) (fun h22 => ?_) (fun h22 => ?_)
      · skip
        exact J0  f hI hF ct1_0_8 (by omega)
      · skip
        have bdem : zB a2 0 255 := zdem (hI 1 0 6) h22
        refine z_iload_n (pc := 25) C dX9_demand_25 rfl ?_
        refine z_callSb (pc := 26) C zk_X9_68 (m_X9_isYear _ _ _) rfl rfl (Nat.le_of_ble_eq_true rfl) dX9_demand_26 (fun h26_4 => ?_) (fun h26_4 => ?_)
        · skip
          have b6x : zB a3 0 99 := h26_4
          refine z_if_ne (pc := 29) 34 C dX9_demand_29 (by decide) (fun _ => ?_) (fun h => absurd h (by decide))
          refine z_aload_n (pc := 34) C dX9_demand_34 rfl ?_
          refine z_getR (pc := 35) C zf_X9_10 rfl rfl (by decide) dX9_demand_35 ?_
          refine z_getI (pc := 38) C zf_X9_217 rfl rfl (by decide) dX9_demand_38 ?_
          refine w_gp (fun v => v.toInt = (f 1 0 8).toInt) rfl (fun v7 e7 => ?_)
          have b7x : zB v7 0 8 := by have q9 : zB (f 1 0 8) 0 8 := ct1_0_8; constructor <;> omega
          refine z_bipush (pc := 41) (v := 8) C dX9_demand_41 (by decide) ?_
          refine z_icmp_lt (pc := 43) 49 C dX9_demand_43 (by decide) (fun h43_7 => ?_) (fun h43_7 => ?_)
          · skip
            have b9x : zB v7 0 7 := by have q1 := b7x; have q2 := (zB.of (x := 8) 8 (by decide)); simp only [z32lt, z32le, z32eq, Int32.reduceToInt, Int32.toInt_zero] at h43_7; constructor <;> omega
            have c10x : zB (f 1 0 8) 0 7 := by constructor <;> omega
            refine z_aload_n (pc := 49) C dX9_demand_49 rfl ?_
            refine z_getR (pc := 50) C zf_X9_10 rfl rfl (by decide) dX9_demand_50 ?_
            refine z_getR (pc := 53) C zf_X9_300 rfl rfl (by decide) dX9_demand_53 ?_
            refine z_aload_n (pc := 56) C dX9_demand_56 rfl ?_
            refine z_getR (pc := 57) C zf_X9_10 rfl rfl (by decide) dX9_demand_57 ?_
            refine z_getI (pc := 60) C zf_X9_217 rfl rfl (by decide) dX9_demand_60 ?_
            refine w_gp (fun v => v.toInt = (f 1 0 8).toInt) rfl (fun v11 e11 => ?_)
            have b11x : zB v11 0 7 := by have q9 : zB (f 1 0 8) 0 7 := c10x; constructor <;> omega
            refine z_aald (pc := 63) C rfl ⟨rfl, by decide⟩ (by decide) (zIx b11x (by decide) (by decide)) dX9_demand_63 ?_
            refine w_gr (by have hq := zN b11x (by decide); show 8 * 0 + v11.toNatClampNeg < 16; omega) (fun m12 h12x => ?_)
            refine z_iload_n (pc := 64) C dX9_demand_64 rfl ?_
            refine z_iload_n (pc := 65) C dX9_demand_65 rfl ?_
            refine z_iload_n (pc := 66) C dX9_demand_66 rfl ?_
            refine z_callV (pc := 67) C zk_X9_304 (w_X2_tell _ _ m12 h12x a1 b2x a2 bdem a3 b6x hI) rfl rfl h12x rfl rfl (Nat.le_of_ble_eq_true rfl) dX9_demand_67 (fun r13 g13 q13 => ?_)
            obtain ⟨rfl, hI13, hF13q⟩ := q13
            have hF13 := zFr.tr hF hF13q (by decide)
            simp only [Option.toList, List.cons_append, List.nil_append]
            have ek13_1_0_8 : (g13 1 0 8).toInt = (f 1 0 8).toInt := by rw [hF13q 1 0 8 rfl]
            have c13_1_0_8x : zB (g13 1 0 8) 0 7 := by have q9 := c10x; constructor <;> omega
            refine z_aload_n (pc := 70) C dX9_demand_70 rfl ?_
            refine z_getR (pc := 71) C zf_X9_10 rfl rfl (by decide) dX9_demand_71 ?_
            refine z_dupr (pc := 74) C dX9_demand_74 ?_
            refine z_getI (pc := 75) C zf_X9_217 rfl rfl (by decide) dX9_demand_75 ?_
            refine w_gp (fun v => v.toInt = (g13 1 0 8).toInt) rfl (fun v14 e14 => ?_)
            have b14x : zB v14 0 7 := by have q9 : zB (g13 1 0 8) 0 7 := c13_1_0_8x; constructor <;> omega
            refine z_iconst (pc := 78) (v := 1) C dX9_demand_78 (by decide) ?_
            refine z_iadd (pc := 79) C dX9_demand_79 ?_
            refine w_gp (fun v => v.toInt = v14.toInt + 1) (zadd_eb b14x (zB.of (x := 1) 1 (by decide)) (by decide) (by decide)) (fun v15 e15 => ?_)
            have b15x : zB v15 1 8 := by have q1 := b14x; have q2 := (zB.of (x := 1) 1 (by decide)); constructor <;> omega
            refine z_putI (pc := 80) C zf_X9_217 zp_8_8 rfl rfl (by decide) dX9_demand_80 ?_
            refine w_mem2 hI13 hF13 (zB.wk (a' := 0) (b' := 8) b15x (by decide) (by decide)) rfl (fun g16 hI16 hF16 hq16 hx16 => ?_)
            have ec16 : (g16 1 0 8).toInt = v15.toInt := by rw [hx16]
            have c16x : zB (g16 1 0 8) 1 8 := by have q9 := b15x; constructor <;> omega
            refine z_aload_n (pc := 83) C dX9_demand_83 rfl ?_
            refine z_getR (pc := 84) C zf_X9_10 rfl rfl (by decide) dX9_demand_84 ?_
            refine z_getI (pc := 87) C zf_X9_217 rfl rfl (by decide) dX9_demand_87 ?_
            refine w_gp (fun v => v.toInt = (g16 1 0 8).toInt) rfl (fun v17 e17 => ?_)
            have b17x : zB v17 1 8 := by have q9 : zB (g16 1 0 8) 1 8 := c16x; constructor <;> omega
            refine z_iconst (pc := 90) (v := 1) C dX9_demand_90 (by decide) ?_
            refine z_isub (pc := 91) C dX9_demand_91 ?_
            refine w_gp (fun v => v.toInt = v17.toInt - 1) (zsub_eb b17x (zB.of (x := 1) 1 (by decide)) (by decide) (by decide)) (fun v18 e18 => ?_)
            have b18x : zB v18 0 7 := by have q1 := b17x; have q2 := (zB.of (x := 1) 1 (by decide)); constructor <;> omega
            exact z_iret (pc := 92) C hr dX9_demand_92 ⟨⟨_, rfl, (zB.wk (a' := (-3)) (b' := 7) b18x (by decide) (by decide))⟩, hI16, hF16⟩
          · skip
            have b19x : zB v7 8 8 := by have q1 := b7x; have q2 := (zB.of (x := 8) 8 (by decide)); simp only [z32lt, z32le, z32eq, Int32.reduceToInt, Int32.toInt_zero] at h43_7; constructor <;> omega
            have c20x : zB (f 1 0 8) 8 8 := by constructor <;> omega
            refine z_bipush (pc := 46) (v := -3) C dX9_demand_46 (by decide) ?_
            exact z_iret (pc := 48) C hr dX9_demand_48 ⟨⟨_, rfl, (zB.wk (a' := (-3)) (b' := 7) (zB.of (x := (-3)) (-3) (by decide)) (by decide) (by decide))⟩, hI, hF⟩
        · skip
          refine z_if_ne (pc := 29) 34 C dX9_demand_29 (by decide) (fun h => absurd (by decide) h) (fun _ => ?_)
          exact J0  f hI hF ct1_0_8 (by omega)
  · skip
    refine z_if_eq (pc := 4) 32 C dX9_demand_4 (by decide) (fun _ => ?_) (fun h => absurd (by decide) h)
    exact J0  f hI hF ct1_0_8 (by omega)

theorem zl255 (x : Int64) : 0 ≤ (x &&& 255).toInt ∧ (x &&& 255).toInt ≤ 255 := by
  have e : (x &&& 255).toBitVec.toNat = x.toBitVec.toNat &&& 255 := by
    rw [Int64.toBitVec_and, BitVec.toNat_and]; rfl
  have hle : x.toBitVec.toNat &&& 255 ≤ 255 := Nat.and_le_right
  have h2 : (x &&& 255).toInt = (x &&& 255).toBitVec.toInt := rfl
  rw [h2, BitVec.toInt_eq_toNat_of_lt (by rw [e]; omega), e]
  constructor <;> omega
theorem zl2i {x : Int64} (h : 0 ≤ x.toInt ∧ x.toInt ≤ 255) : zB x.toInt32 0 255 := by
  have e : x.toInt32.toInt = x.toInt.bmod (2 ^ 32) := Int64.toInt_toInt32 x
  have e2 := z_bmod (n := x.toInt) (by omega) (by omega)
  rw [e2] at e
  constructor <;> omega
set_option maxRecDepth 100000 in
set_option maxHeartbeats 4000000 in
theorem w_X10_type (d : Nat) (f : zM) (a1 : Int64) (a2 : Int32) (b2 : zB a2 (-2147483648) 2147483647) (hI : zInv f) : ZM (d + 1) yX10_type cX10_type 5 (some .int) [zr 25 0, zl a1, zi a2] f (fun r g => (∃ v, r = some (zi v) ∧ zB v (-3) 120) ∧ zInv g ∧ zFr [(25, some 16), (36, none)] f g) := by
  refine ZM.intro (by decide +kernel) (Nat.le_of_ble_eq_true rfl) ?_
  intro X C hr hn
  have hF : zFr [(25, some 16), (36, none)] f f := zFr.rf _ _
  have ct25_0_16 : zB (f 25 0 16) 0 120 := hI 25 0 16
  have J : ∀ t : Nat, (zB a2 1 8 → ∀ a19_4 : Int32, zB a19_4 (-1) 7 → ∀ g : zM, zInv g → zFr [(25, some 16), (36, none)] f g → zB (g 25 0 16) 0 120 → (37 + 40 * (a19_4.toInt - (-1)) : Int) < t → Z X 19 [some (zr 25 0), some (zl a1), none, some (zi a2), some (zi a19_4)] [] g) ∧ (zB a2 1 8 → ∀ a74_4 : Int32, zB a74_4 (-1) 7 → ∀ g : zM, zInv g → zFr [(25, some 16), (36, none)] f g → zB (g 25 0 16) 0 120 → ((g 25 0 16).toInt + a74_4.toInt + 1 ≤ 120) → (0 + 4 * (a74_4.toInt - (-1)) : Int) < t → Z X 74 [some (zr 25 0), some (zl a1), none, some (zi a2), some (zi a74_4)] [] g) := by
    intro t
    induction t with
    | zero =>
      refine ⟨?_, ?_⟩ <;> (intros; exfalso; omega)
    | succ t ih =>
      obtain ⟨ih0, ih1⟩ := ih
      refine ⟨?_, ?_⟩
      · skip
        intro b19_3 a19_4 b19_4 g19_ hI19_ hF19_ f19_25_0_16 hM19_
        refine z_iload (pc := 19) C dX10_type_19 rfl ?_
        refine z_if_lt (pc := 21) 55 C dX10_type_21 (by decide) (fun h21_0 => ?_) (fun h21_0 => ?_)
        · skip
          have b2x : zB a19_4 (-1) (-1) := by have q1 := b19_4; have q2 := (zB.of (x := 0) 0 (by decide)); simp only [z32lt, z32le, z32eq, Int32.reduceToInt, Int32.toInt_zero] at h21_0; constructor <;> omega
          refine z_aload_n (pc := 55) C dX10_type_55 rfl ?_
          refine z_getI (pc := 56) C zf_X10_208 rfl rfl (by decide) dX10_type_56 ?_
          refine w_gp (fun v => v.toInt = (g19_ 25 0 16).toInt) rfl (fun v3 e3 => ?_)
          have b3x : zB v3 0 120 := by have q9 : zB (g19_ 25 0 16) 0 120 := f19_25_0_16; constructor <;> omega
          refine z_iload_n (pc := 59) C dX10_type_59 rfl ?_
          refine z_iadd (pc := 60) C dX10_type_60 ?_
          refine w_gp (fun v => v.toInt = v3.toInt + a2.toInt) (zadd_eb b3x b19_3 (by decide) (by decide)) (fun v4 e4 => ?_)
          have b4x : zB v4 1 128 := by have q1 := b3x; have q2 := b19_3; constructor <;> omega
          refine z_bipush (pc := 61) (v := 120) C dX10_type_61 (by decide) ?_
          refine z_icmp_le (pc := 63) 69 C dX10_type_63 (by decide) (fun h63_4 => ?_) (fun h63_4 => ?_)
          · skip
            have b6x : zB v4 1 120 := by have q1 := b4x; have q2 := (zB.of (x := 120) 120 (by decide)); simp only [z32lt, z32le, z32eq, Int32.reduceToInt, Int32.toInt_zero] at h63_4; constructor <;> omega
            refine z_iload_n (pc := 69) C dX10_type_69 rfl ?_
            refine z_iconst (pc := 70) (v := 1) C dX10_type_70 (by decide) ?_
            refine z_isub (pc := 71) C dX10_type_71 ?_
            refine w_gp (fun v => v.toInt = a2.toInt - 1) (zsub_eb b19_3 (zB.of (x := 1) 1 (by decide)) (by decide) (by decide)) (fun v7 e7 => ?_)
            have b7x : zB v7 0 7 := by have q1 := b19_3; have q2 := (zB.of (x := 1) 1 (by decide)); constructor <;> omega
            refine z_istore (pc := 72) C dX10_type_72 (by rw [hn]; decide) rfl ?_
            exact ih1 b19_3 v7 (zB.wk (a' := (-1)) (b' := 7) b7x (by decide) (by decide)) g19_ hI19_ hF19_ f19_25_0_16 (by omega) (by omega)
          · skip
            have b8x : zB v4 121 128 := by have q1 := b4x; have q2 := (zB.of (x := 120) 120 (by decide)); simp only [z32lt, z32le, z32eq, Int32.reduceToInt, Int32.toInt_zero] at h63_4; constructor <;> omega
            refine z_bipush (pc := 66) (v := -3) C dX10_type_66 (by decide) ?_
            exact z_iret (pc := 68) C hr dX10_type_68 ⟨⟨_, rfl, (zB.wk (a' := (-3)) (b' := 120) (zB.of (x := (-3)) (-3) (by decide)) (by decide) (by decide))⟩, hI19_, hF19_⟩
        · skip
          have b9x : zB a19_4 0 7 := by have q1 := b19_4; have q2 := (zB.of (x := 0) 0 (by decide)); simp only [z32lt, z32le, z32eq, Int32.reduceToInt, Int32.toInt_zero] at h21_0; constructor <;> omega
          refine z_lload_n (pc := 24) C dX10_type_24 rfl ?_
          refine z_bipush (pc := 25) (v := 8) C dX10_type_25 (by decide) ?_
          refine z_iload (pc := 27) C dX10_type_27 rfl ?_
          refine z_imul (pc := 29) C dX10_type_29 ?_
          refine z_lshr (pc := 30) C dX10_type_30 ?_
          refine z_ldc2 (pc := 31) C zw_1349 dX10_type_31 ?_
          refine z_land (pc := 34) C dX10_type_34 ?_
          refine w_gl (fun v => 0 ≤ v.toInt ∧ v.toInt ≤ 255) (zl255 _) (fun w10 hw10 => ?_)
          refine z_ldc2 (pc := 35) C zw_1350 dX10_type_35 ?_
          refine z_ldc2 (pc := 38) C zw_1351 dX10_type_38 ?_
          refine z_callSb (pc := 41) C zk_X10_69 (m_X10_in _ _ _ _ _) rfl rfl (Nat.le_of_ble_eq_true rfl) dX10_type_41 (fun h41_10 => ?_) (fun h41_10 => ?_)
          · skip
            refine z_if_ne (pc := 44) 49 C dX10_type_44 (by decide) (fun _ => ?_) (fun h => absurd h (by decide))
            refine z_iinc (pc := 49) (v := -1) C dX10_type_49 rfl (by decide) (by rw [hn]; decide) rfl ?_
            obtain ⟨v12, hv12, e12⟩ : ∃ v : Int32, v = a19_4 + (-1) ∧ v.toInt = a19_4.toInt + (-1) := ⟨_, rfl, zadd_eb b9x (zB.of (x := (-1)) (-1) (by decide)) (by decide) (by decide)⟩
            rw [← hv12]
            have b12x : zB v12 (-1) 6 := by have q9 := b9x; constructor <;> omega
            refine z_goto (pc := 52) 19 C dX10_type_52 (by decide) ?_
            exact ih0 b19_3 v12 (zB.wk (a' := (-1)) (b' := 7) b12x (by decide) (by decide)) g19_ hI19_ hF19_ f19_25_0_16 (by omega)
          · skip
            refine z_if_ne (pc := 44) 49 C dX10_type_44 (by decide) (fun h => absurd (by decide) h) (fun _ => ?_)
            refine z_iconst (pc := 47) (v := -1) C dX10_type_47 (by decide) ?_
            exact z_iret (pc := 48) C hr dX10_type_48 ⟨⟨_, rfl, (zB.wk (a' := (-3)) (b' := 120) (zB.of (x := (-1)) (-1) (by decide)) (by decide) (by decide))⟩, hI19_, hF19_⟩
      · skip
        intro b74_3 a74_4 b74_4 g74_ hI74_ hF74_ f74_25_0_16 hR74_0 hM74_
        refine z_iload (pc := 74) C dX10_type_74 rfl ?_
        refine z_if_lt (pc := 76) 116 C dX10_type_76 (by decide) (fun h76_12 => ?_) (fun h76_12 => ?_)
        · skip
          have b14x : zB a74_4 (-1) (-1) := by have q1 := b74_4; have q2 := (zB.of (x := 0) 0 (by decide)); simp only [z32lt, z32le, z32eq, Int32.reduceToInt, Int32.toInt_zero] at h76_12; constructor <;> omega
          refine z_aload_n (pc := 116) C dX10_type_116 rfl ?_
          refine z_getI (pc := 117) C zf_X10_208 rfl rfl (by decide) dX10_type_117 ?_
          refine w_gp (fun v => v.toInt = (g74_ 25 0 16).toInt) rfl (fun v15 e15 => ?_)
          have b15x : zB v15 0 120 := by have q9 : zB (g74_ 25 0 16) 0 120 := f74_25_0_16; constructor <;> omega
          exact z_iret (pc := 120) C hr dX10_type_120 ⟨⟨_, rfl, (zB.wk (a' := (-3)) (b' := 120) b15x (by decide) (by decide))⟩, hI74_, hF74_⟩
        · skip
          have b16x : zB a74_4 0 7 := by have q1 := b74_4; have q2 := (zB.of (x := 0) 0 (by decide)); simp only [z32lt, z32le, z32eq, Int32.reduceToInt, Int32.toInt_zero] at h76_12; constructor <;> omega
          have c17x : zB (g74_ 25 0 16) 0 119 := by constructor <;> omega
          refine z_aload_n (pc := 79) C dX10_type_79 rfl ?_
          refine z_getR (pc := 80) C zf_X10_40 rfl rfl (by decide) dX10_type_80 ?_
          refine z_aload_n (pc := 83) C dX10_type_83 rfl ?_
          refine z_getI (pc := 84) C zf_X10_208 rfl rfl (by decide) dX10_type_84 ?_
          refine w_gp (fun v => v.toInt = (g74_ 25 0 16).toInt) rfl (fun v18 e18 => ?_)
          have b18x : zB v18 0 119 := by have q9 : zB (g74_ 25 0 16) 0 119 := c17x; constructor <;> omega
          refine z_lload_n (pc := 87) C dX10_type_87 rfl ?_
          refine z_bipush (pc := 88) (v := 8) C dX10_type_88 (by decide) ?_
          refine z_iload (pc := 90) C dX10_type_90 rfl ?_
          refine z_imul (pc := 92) C dX10_type_92 ?_
          refine z_lshr (pc := 93) C dX10_type_93 ?_
          refine z_ldc2 (pc := 94) C zw_1349 dX10_type_94 ?_
          refine z_land (pc := 97) C dX10_type_97 ?_
          refine w_gl (fun v => 0 ≤ v.toInt ∧ v.toInt ≤ 255) (zl255 _) (fun w19 hw19 => ?_)
          refine z_l2i (pc := 98) C dX10_type_98 ?_
          refine w_gb 0 255 (zl2i hw19) (fun v20 b20x => ?_)
          refine z_iast (pc := 99) C rfl (by decide) (zIx b18x (by decide) (by decide)) dX10_type_99 ?_
          refine w_mem2 hI74_ hF74_ b20x rfl (fun g21 hI21 hF21 hq21 hx21 => ?_)
          have ek21_25_0_16 : (g21 25 0 16).toInt = (g74_ 25 0 16).toInt := by rw [hq21 25 0 16 (by omega)]
          have c21_25_0_16x : zB (g21 25 0 16) 0 119 := by have q9 := c17x; constructor <;> omega
          refine z_aload_n (pc := 100) C dX10_type_100 rfl ?_
          refine z_dupr (pc := 101) C dX10_type_101 ?_
          refine z_getI (pc := 102) C zf_X10_208 rfl rfl (by decide) dX10_type_102 ?_
          refine w_gp (fun v => v.toInt = (g21 25 0 16).toInt) rfl (fun v22 e22 => ?_)
          have b22x : zB v22 0 119 := by have q9 : zB (g21 25 0 16) 0 119 := c21_25_0_16x; constructor <;> omega
          refine z_iconst (pc := 105) (v := 1) C dX10_type_105 (by decide) ?_
          refine z_iadd (pc := 106) C dX10_type_106 ?_
          refine w_gp (fun v => v.toInt = v22.toInt + 1) (zadd_eb b22x (zB.of (x := 1) 1 (by decide)) (by decide) (by decide)) (fun v23 e23 => ?_)
          have b23x : zB v23 1 120 := by have q1 := b22x; have q2 := (zB.of (x := 1) 1 (by decide)); constructor <;> omega
          refine z_putI (pc := 107) C zf_X10_208 zp_10_16 rfl rfl (by decide) dX10_type_107 ?_
          refine w_mem2 hI21 hF21 (zB.wk (a' := 0) (b' := 120) b23x (by decide) (by decide)) rfl (fun g24 hI24 hF24 hq24 hx24 => ?_)
          have ec24 : (g24 25 0 16).toInt = v23.toInt := by rw [hx24]
          have c24x : zB (g24 25 0 16) 1 120 := by have q9 := b23x; constructor <;> omega
          refine z_iinc (pc := 110) (v := -1) C dX10_type_110 rfl (by decide) (by rw [hn]; decide) rfl ?_
          obtain ⟨v25, hv25, e25⟩ : ∃ v : Int32, v = a74_4 + (-1) ∧ v.toInt = a74_4.toInt + (-1) := ⟨_, rfl, zadd_eb b16x (zB.of (x := (-1)) (-1) (by decide)) (by decide) (by decide)⟩
          rw [← hv25]
          have b25x : zB v25 (-1) 6 := by have q9 := b16x; constructor <;> omega
          refine z_goto (pc := 113) 74 C dX10_type_113 (by decide) ?_
          exact ih1 b74_3 v25 (zB.wk (a' := (-1)) (b' := 7) b25x (by decide) (by decide)) g24 hI24 hF24 (zB.wk c24x (by decide) (by decide)) (by omega) (by omega)
  obtain ⟨J0, J1⟩ := J 409
  show Z X 0 [some (zr 25 0), some (zl a1), none, some (zi a2), none] [] f
  refine z_iload_n (pc := 0) C dX10_type_0 rfl ?_
  refine z_i2l (pc := 1) C dX10_type_1 ?_
  refine z_lconst (pc := 2) (v := 1) C dX10_type_2 (by decide) ?_
  refine z_ldc2 (pc := 3) C zw_1348 dX10_type_3 ?_
  refine z_callSb (pc := 6) C zk_X10_69 (m_X10_in _ _ _ _ _) rfl rfl (Nat.le_of_ble_eq_true rfl) dX10_type_6 (fun h6_25 => ?_) (fun h6_25 => ?_)
  · skip
    have b27x : zB a2 1 8 := zin64 h6_25 rfl rfl
    refine z_if_ne (pc := 9) 14 C dX10_type_9 (by decide) (fun _ => ?_) (fun h => absurd h (by decide))
    refine z_iload_n (pc := 14) C dX10_type_14 rfl ?_
    refine z_iconst (pc := 15) (v := 1) C dX10_type_15 (by decide) ?_
    refine z_isub (pc := 16) C dX10_type_16 ?_
    refine w_gp (fun v => v.toInt = a2.toInt - 1) (zsub_eb b27x (zB.of (x := 1) 1 (by decide)) (by decide) (by decide)) (fun v28 e28 => ?_)
    have b28x : zB v28 0 7 := by have q1 := b27x; have q2 := (zB.of (x := 1) 1 (by decide)); constructor <;> omega
    refine z_istore (pc := 17) C dX10_type_17 (by rw [hn]; decide) rfl ?_
    exact J0 b27x v28 (zB.wk (a' := (-1)) (b' := 7) b28x (by decide) (by decide)) f hI hF ct25_0_16 (by omega)
  · skip
    refine z_if_ne (pc := 9) 14 C dX10_type_9 (by decide) (fun h => absurd (by decide) h) (fun _ => ?_)
    refine z_iconst (pc := 12) (v := -1) C dX10_type_12 (by decide) ?_
    exact z_iret (pc := 13) C hr dX10_type_13 ⟨⟨_, rfl, (zB.wk (a' := (-3)) (b' := 120) (zB.of (x := (-1)) (-1) (by decide)) (by decide) (by decide))⟩, hI, hF⟩
