section ZN2
variable {X : zX} {d : Nat} {pc : Nat} {L : List (Option zV)} {st stk : List zV} {f : zM} {as : List zV} {cc : ByteArray}
theorem z_callNb {P : Prop} {dP : Decidable P} {f' : zM} (C : zC X cc "SentRoads$Tape" (d + 1)) (hw : Cond.static yX9_isLand ∈ zT ∧ Cond.initialized yX9_isLand.cls ∈ zT ∧ Cond.code yX9_isLand cX9_isLand 1 (some .boolean) ∈ zT) (hM : ZM d yX9_isLand cX9_isLand 1 (some .boolean) as f (fun r' g => r' = some (zi (if P then 1 else 0)) ∧ g = f')) (hn : as.length = 1) (hst : stk = as.reverse ++ st) (hW : zsz st ≤ 8) (hd : decode cc pc = .ok (.invokestatic 109, 3))
    (k1 : P → Z X (pc + 3) L (zi 1 :: st) f') (k0 : ¬ P → Z X (pc + 3) L (zi 0 :: st) f') : Z X pc L stk f := z_callN C hw hM hn hst hW hd (fun r2 f2 h => by
  obtain ⟨rfl, rfl⟩ := h
  by_cases hP : P
  · simpa [hP] using k1 hP
  · simpa [hP] using k0 hP)
end ZN2
set_option maxRecDepth 100000 in
set_option maxHeartbeats 4000000 in
theorem w_X7_takes (d : Nat) (f : zM) (a1 : Int32) (b1 : zB a1 1 126) (hI : zInv f) : ZM (d + 1) yX7_takes cX7_takes 3 (some .boolean) [zr 18 0, zi a1] f (fun r g => (∃ v, r = some (zi v) ∧ zB v 0 1) ∧ zInv g ∧ zFr [(18, some 6)] f g) := by
  refine ZM.intro (by decide +kernel) (Nat.le_of_ble_eq_true rfl) ?_
  intro X C hr hn
  have hF : zFr [(18, some 6)] f f := zFr.rf _ _
  have ct18_0_6 : zB (f 18 0 6) 0 120 := hI 18 0 6
  have J : ∀ t : Nat, (∀ a13_s0 : Int32, zB a13_s0 0 1 → ∀ g : zM, zInv g → zFr [(18, some 6)] f g → zB (g 18 0 6) 0 120 → ((1 ≤ a13_s0.toInt → 0 ≤ (g 18 0 6).toInt ∧ (g 18 0 6).toInt ≤ 119)) → (1 : Int) < t → Z X 13 [some (zr 18 0), some (zi a1), none] [zi a13_s0] g) ∧ (∀ a28_2 : Int32, zB a28_2 0 1 → ∀ g : zM, zInv g → zFr [(18, some 6)] f g → zB (g 18 0 6) 0 120 → (0 : Int) < t → Z X 28 [some (zr 18 0), some (zi a1), some (zi a28_2)] [] g) := by
    intro t
    induction t with
    | zero =>
      refine ⟨?_, ?_⟩ <;> (intros; exfalso; omega)
    | succ t ih =>
      obtain ⟨ih0, ih1⟩ := ih
      refine ⟨?_, ?_⟩
      · skip
        intro a13_s0 b13_s0 g13_ hI13_ hF13_ f13_18_0_6 hR13_0 hM13_
        refine z_istore_n (pc := 13) C dX7_takes_13 (by rw [hn]; decide) rfl ?_
        refine z_iload_n (pc := 14) C dX7_takes_14 rfl ?_
        refine z_if_eq (pc := 15) 28 C dX7_takes_15 (by decide) (fun h15_0 => ?_) (fun h15_0 => ?_)
        · skip
          have b2x : zB a13_s0 0 0 := by have q1 := b13_s0; have q2 := (zB.of (x := 0) 0 (by decide)); simp only [z32lt, z32le, z32eq, Int32.reduceToInt, Int32.toInt_zero] at h15_0; constructor <;> omega
          exact ih1 a13_s0 (zB.wk (a' := 0) (b' := 1) b2x (by decide) (by decide)) g13_ hI13_ hF13_ f13_18_0_6 (by omega)
        · skip
          have b3x : zB a13_s0 1 1 := by have q1 := b13_s0; have q2 := (zB.of (x := 0) 0 (by decide)); simp only [z32lt, z32le, z32eq, Int32.reduceToInt, Int32.toInt_zero] at h15_0; constructor <;> omega
          have c4x : zB (g13_ 18 0 6) 0 119 := by first | assumption | (constructor <;> omega)
          refine z_aload_n (pc := 18) C dX7_takes_18 rfl ?_
          refine z_dupr (pc := 19) C dX7_takes_19 ?_
          refine z_getI (pc := 20) C zf_X7_33 rfl rfl (by decide) dX7_takes_20 ?_
          refine w_gp (fun v => v.toInt = (g13_ 18 0 6).toInt) rfl (fun v5 e5 => ?_)
          have b5x : zB v5 0 119 := by have q9 : zB (g13_ 18 0 6) 0 119 := c4x; constructor <;> omega
          refine z_iconst (pc := 23) (v := 1) C dX7_takes_23 (by decide) ?_
          refine z_iadd (pc := 24) C dX7_takes_24 ?_
          refine w_gp (fun v => v.toInt = v5.toInt + 1) (zadd_eb b5x (zB.of (x := 1) 1 (by decide)) (by decide) (by decide)) (fun v6 e6 => ?_)
          have b6x : zB v6 1 120 := by have q1 := b5x; have q2 := (zB.of (x := 1) 1 (by decide)); constructor <;> omega
          refine z_putI (pc := 25) C zf_X7_33 zp_7_6 rfl rfl (by decide) dX7_takes_25 ?_
          refine w_mem2 hI13_ hF13_ (zB.wk (a' := 0) (b' := 120) b6x (by decide) (by decide)) rfl (fun g7 hI7 hF7 hq7 hx7 => ?_)
          have ec7 : (g7 18 0 6).toInt = v6.toInt := by rw [hx7]
          have c7x : zB (g7 18 0 6) 1 120 := by first | exact zB.eqv ec7 b6x | (have q9 := b6x; constructor <;> omega)
          exact ih1 a13_s0 (zB.wk (a' := 0) (b' := 1) b3x (by decide) (by decide)) g7 hI7 hF7 (zB.wk c7x (by decide) (by decide)) (by omega)
      · skip
        intro a28_2 b28_2 g28_ hI28_ hF28_ f28_18_0_6 hM28_
        refine z_iload_n (pc := 28) C dX7_takes_28 rfl ?_
        exact z_zret (pc := 29) C hr (z01 b28_2) dX7_takes_29 ⟨⟨_, rfl, b28_2⟩, hI28_, hF28_⟩
  obtain ⟨J0, J1⟩ := J 13
  show Z X 0 [some (zr 18 0), some (zi a1), none] [] f
  refine z_aload_n (pc := 0) C dX7_takes_0 rfl ?_
  refine z_callV (pc := 1) C zk_X7_52 (w_X7_next _ _  hI) rfl rfl (by decide) rfl rfl (Nat.le_of_ble_eq_true rfl) dX7_takes_1 (fun r8 g8 q8 => ?_)
  obtain ⟨⟨v8, rfl, b8x⟩, hI8, hF8q, hp8_0, hp8_1, hp8_2, hp8_3⟩ := q8
  have hp8_0 := hp8_0 _ rfl
  have hp8_1 := hp8_1 _ rfl
  have hp8_2 := hp8_2 _ rfl
  have hp8_3 := hp8_3 _ rfl
  have hF8 := zFr.tr hF hF8q (by decide)
  simp only [Option.toList, List.cons_append, List.nil_append]
  have cr8_18_0_6 : zB (g8 18 0 6) 0 120 := hI8 18 0 6
  refine z_iload_n (pc := 4) C dX7_takes_4 rfl ?_
  refine z_icmp_ne (pc := 5) 12 C dX7_takes_5 (by decide) (fun h5_8 => ?_) (fun h5_8 => ?_)
  · skip
    refine z_iconst (pc := 12) (v := 0) C dX7_takes_12 (by decide) ?_
    exact J0 0 (zB.wk (a' := 0) (b' := 1) (zB.of (x := 0) 0 (by decide)) (by decide) (by decide)) g8 hI8 hF8 cr8_18_0_6 (by have qc0 : (0 : Int32).toInt = 0 := (by decide); omega) (by have qc0 : (0 : Int32).toInt = 0 := (by decide); omega)
  · skip
    have b10x : zB v8 1 126 := by have q1 := b8x; have q2 := b1; simp only [z32lt, z32le, z32eq, Int32.reduceToInt, Int32.toInt_zero] at h5_8; constructor <;> omega
    have c11x : zB (g8 18 0 6) 0 119 := by first | assumption | (constructor <;> omega)
    refine z_iconst (pc := 8) (v := 1) C dX7_takes_8 (by decide) ?_
    refine z_goto (pc := 9) 13 C dX7_takes_9 (by decide) ?_
    exact J0 1 (zB.wk (a' := 0) (b' := 1) (zB.of (x := 1) 1 (by decide)) (by decide) (by decide)) g8 hI8 hF8 (zB.wk c11x (by decide) (by decide)) (by have qc0 : (1 : Int32).toInt = 1 := (by decide); omega) (by have qc0 : (1 : Int32).toInt = 1 := (by decide); omega)
