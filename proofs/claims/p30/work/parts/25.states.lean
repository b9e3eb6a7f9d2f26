/-! ===== the reference's search: what is seen is queued once ===== -/
def zcn (b : Nat → Int32) : Nat → Nat
  | 0 => 0
  | n + 1 => zcn b n + (if b n = -4 then 0 else 1)
theorem zcn_le (b : Nat → Int32) : ∀ n, zcn b n ≤ n
  | 0 => Nat.le_refl 0
  | n + 1 => by
    have := zcn_le b n
    unfold zcn
    split <;> omega
theorem zcn_lt (b : Nat → Int32) {s : Nat} (hb : b s = -4) : ∀ n, s < n → zcn b n < n
  | 0, h => absurd h (Nat.not_lt_zero s)
  | n + 1, h => by
    have h1 := zcn_le b n
    unfold zcn
    by_cases hs : s = n
    · subst hs; rw [if_pos hb]; omega
    · have := zcn_lt b hb n (by omega)
      split <;> omega
theorem zcn_congr {b c : Nat → Int32} : ∀ n, (∀ i, i < n → b i = c i) → zcn b n = zcn c n
  | 0, _ => rfl
  | n + 1, h => by
    unfold zcn
    rw [zcn_congr n (fun i hi => h i (by omega)), h n (by omega)]
theorem zcn_up {b c : Nat → Int32} {s : Nat} (hb : b s = -4) (hc : ¬ c s = -4) (ho : ∀ i, i ≠ s → c i = b i) : ∀ n, s < n → zcn c n = zcn b n + 1
  | 0, h => absurd h (Nat.not_lt_zero s)
  | n + 1, h => by
    unfold zcn
    by_cases hs : s = n
    · subst hs
      rw [if_pos hb, if_neg hc, zcn_congr s (fun i hi => ho i (by omega))]
    · rw [zcn_up hb hc ho n (by omega), ho n (by omega)]
      omega
theorem zcn_0 {b : Nat → Int32} : ∀ n, (∀ i, i < n → b i = -4) → zcn b n = 0
  | 0, _ => rfl
  | n + 1, h => by
    unfold zcn
    rw [zcn_0 n (fun i hi => h i (by omega)), if_pos (h n (by omega))]
def FQ (f : zM) : Prop := (f 25 0 13).toInt = (zcn (f 32 0) 21504 : Nat) ∧ ∀ i : Nat, (i : Int) < (f 25 0 13).toInt → ¬ f 32 0 (f 34 0 i).toNatClampNeg = -4 ∧ ((i = 0 ∧ f 32 0 (f 34 0 i).toNatClampNeg = f 34 0 i) ∨ ∃ j, j < i ∧ f 32 0 (f 34 0 i).toNatClampNeg = f 34 0 j)
def MQ1 (f : zM) (x : Int32) : Prop := ∃ j : Nat, (j : Int) < (f 25 0 13).toInt ∧ x = f 34 0 j
noncomputable def zfq (f : zM) : Int := @ite _ (FQ f) (Classical.propDecidable _) 1 0
noncomputable def zmq (f : zM) (x : Int32) : Int := @ite _ (MQ1 f x) (Classical.propDecidable _) 1 0
theorem zfq_i {f : zM} : zfq f = 1 ↔ FQ f := by
  unfold zfq
  split
  · exact ⟨fun _ => by assumption, fun _ => rfl⟩
  · exact ⟨fun h => absurd h (by decide), fun h => absurd h (by assumption)⟩
theorem zmq_i {f : zM} {x : Int32} : zmq f x = 1 ↔ MQ1 f x := by
  unfold zmq
  split
  · exact ⟨fun _ => by assumption, fun _ => rfl⟩
  · exact ⟨fun h => absurd h (by decide), fun h => absurd h (by assumption)⟩
theorem FQ_init {f : zM} (h0 : (f 25 0 13).toInt = 0) (h : ∀ i, i < 21504 → f 32 0 i = -4) : FQ f := by
  refine ⟨by rw [h0, zcn_0 21504 h]; rfl, fun i hi => absurd hi (by omega)⟩
set_option maxRecDepth 100000 in
set_option maxHeartbeats 4000000 in
theorem m_X10_come2 (d : Nat) (f : zM) (a1 a2 a3 : Int32) (hi : vp_in a1 21504) (hq : f 32 0 a1.toNatClampNeg = -4 → vp_in (f 25 0 13) 21504) : ZM d yX10_come cX10_come 4 none [zr 25 0, zi a1, zi a2, zi a3] f (fun r g => r = none ∧ g = if f 32 0 a1.toNatClampNeg = -4 then zup (zup (zup (zup f 32 0 a1.toNatClampNeg a2) 33 0 a1.toNatClampNeg a3) 34 0 (f 25 0 13).toNatClampNeg a1) 25 0 13 (f 25 0 13 + 1) else f) := by
  refine ZM.intro (by decide +kernel) (Nat.le_of_ble_eq_true rfl) ?_
  intro X C hr hn
  show Z X 0 [some (zr 25 0), some (zi a1), some (zi a2), some (zi a3)] [] f
  refine z_aload_n (pc := 0) C dX10_come_0 rfl ?_
  refine z_getR (pc := 1) C zf_X10_28 rfl rfl (by decide) dX10_come_1 ?_
  refine z_iload_n (pc := 4) C dX10_come_4 rfl ?_
  refine z_iald (pc := 5) C rfl (by decide) hi dX10_come_5 ?_
  refine z_bipush (pc := 6) (v := -4) C dX10_come_6 (by decide) ?_
  refine z_icmp_ne (pc := 8) 45 C dX10_come_8 (by decide) (fun h8 => ?_) (fun h8 => ?_)
  · skip
    exact z_vret (pc := 45) C hr dX10_come_45 (⟨rfl, by first | (rw [if_neg h8]; done) | (rw [if_pos h8]; rfl)⟩)
  · skip
    refine z_aload_n (pc := 11) C dX10_come_11 rfl ?_
    refine z_getR (pc := 12) C zf_X10_28 rfl rfl (by decide) dX10_come_12 ?_
    refine z_iload_n (pc := 15) C dX10_come_15 rfl ?_
    refine z_iload_n (pc := 16) C dX10_come_16 rfl ?_
    refine z_iast (pc := 17) C rfl (by decide) hi dX10_come_17 ?_
    refine z_aload_n (pc := 18) C dX10_come_18 rfl ?_
    refine z_getR (pc := 19) C zf_X10_31 rfl rfl (by decide) dX10_come_19 ?_
    refine z_iload_n (pc := 22) C dX10_come_22 rfl ?_
    refine z_iload_n (pc := 23) C dX10_come_23 rfl ?_
    refine z_iast (pc := 24) C rfl (by decide) hi dX10_come_24 ?_
    refine z_aload_n (pc := 25) C dX10_come_25 rfl ?_
    refine z_getR (pc := 26) C zf_X10_34 rfl rfl (by decide) dX10_come_26 ?_
    refine z_aload_n (pc := 29) C dX10_come_29 rfl ?_
    refine z_getI (pc := 30) C zf_X10_168 rfl rfl (by decide) dX10_come_30 ?_
    refine z_iload_n (pc := 33) C dX10_come_33 rfl ?_
    refine z_iast (pc := 34) C rfl (by decide) (hq h8) dX10_come_34 ?_
    refine z_aload_n (pc := 35) C dX10_come_35 rfl ?_
    first | refine z_dupr (pc := 36) C dX10_come_36 ?_ | refine z_dupi (pc := 36) C dX10_come_36 ?_
    refine z_getI (pc := 37) C zf_X10_168 rfl rfl (by decide) dX10_come_37 ?_
    refine z_iconst (pc := 40) (v := 1) C dX10_come_40 (by decide) ?_
    refine z_iadd (pc := 41) C dX10_come_41 ?_
    refine z_putI (pc := 42) C zf_X10_168 zp_10_13 rfl rfl (by decide) dX10_come_42 ?_
    exact z_vret (pc := 45) C hr dX10_come_45 (⟨rfl, by first | (rw [if_neg h8]; done) | (rw [if_pos h8]; rfl)⟩)

theorem w_X10_come (d : Nat) (f : zM) (a1 : Int32) (b1 : zB a1 0 21503) (a2 : Int32) (b2 : zB a2 0 21503) (a3 : Int32) (b3 : zB a3 (-4) 11) (hp0 : zfq f = 1) (hp1 : ((f 25 0 13).toInt = 0 ∧ a1.toInt = a2.toInt) ∨ zmq f a2 = 1) (hI : zInv f) : ZM d yX10_come cX10_come 4 none [zr 25 0, zi a1, zi a2, zi a3] f (fun r g => r = none ∧ zInv g ∧ zFr [(25, some 13), (32, none), (33, none), (34, none)] f g ∧ zfq g = 1 ∧ (zmq f a2 = 1 → zmq g a2 = 1)) := by
  rw [zfq_i] at hp0
  have hn1 : a1.toNatClampNeg = a1.toInt.toNat := rfl
  have h13 : zB (f 25 0 13) 0 21504 := hI 25 0 13
  have ha1 : a1.toNatClampNeg < 21504 := by have := b1.1; have := b1.2; omega
  have hlt : f 32 0 a1.toNatClampNeg = -4 → (f 25 0 13).toInt < 21504 := by
    intro h
    have := zcn_lt (f 32 0) h 21504 ha1
    rw [hp0.1]; omega
  refine ZM.mono (m_X10_come2 d f a1 a2 a3 (zIx b1 (by decide) (by decide)) (fun h => (zidx h13.1 (hlt h)).1)) ?_
  rintro r g ⟨rfl, rfl⟩
  by_cases hb : f 32 0 a1.toNatClampNeg = -4
  · rw [if_pos hb]
    have hl := hlt hb
    have hq : (f 25 0 13).toNatClampNeg = (f 25 0 13).toInt.toNat := rfl
    have e1 : (f 25 0 13 + 1 : Int32).toInt = (f 25 0 13).toInt + 1 := zadd_e (y := 1) (by show _ ≤ _ + (1 : Int); have := h13.1; omega) (by show _ + (1 : Int) ≤ _; omega)
    have ne4 : ¬ a2 = -4 := fun h => by have := b2.1; rw [h] at this; exact absurd this (by decide)
    generalize hg : zup (zup (zup (zup f 32 0 a1.toNatClampNeg a2) 33 0 a1.toNatClampNeg a3) 34 0 (f 25 0 13).toNatClampNeg a1) 25 0 13 (f 25 0 13 + 1) = g
    have g13 : g 25 0 13 = f 25 0 13 + 1 := by rw [← hg, zup_same]
    have g32 : ∀ i, i ≠ a1.toNatClampNeg → g 32 0 i = f 32 0 i := fun i hi => by
      rw [← hg, zup_ne _ _ (by omega), zup_ne _ _ (by omega), zup_ne _ _ (by omega), zup_ne _ _ (by omega)]
    have g32s : g 32 0 a1.toNatClampNeg = a2 := by
      rw [← hg, zup_ne _ _ (by omega), zup_ne _ _ (by omega), zup_ne _ _ (by omega), zup_same]
    have g34 : ∀ i, i ≠ (f 25 0 13).toNatClampNeg → g 34 0 i = f 34 0 i := fun i hi => by
      rw [← hg, zup_ne _ _ (by omega), zup_ne _ _ (by omega), zup_ne _ _ (by omega), zup_ne _ _ (by omega)]
    have g34s : g 34 0 (f 25 0 13).toNatClampNeg = a1 := by
      rw [← hg, zup_ne _ _ (by omega), zup_same]
    have hIg : zInv g := by
      rw [← hg]
      exact (((hI.up (k := 32) (n := 0) (j := a1.toNatClampNeg) (x := a2) (b2.wk (a' := -4) (b' := 21503) (by decide) (by decide))).up (k := 33) (n := 0) (j := a1.toNatClampNeg) (x := a3) b3).up (k := 34) (n := 0) (j := (f 25 0 13).toNatClampNeg) (x := a1) b1).up (k := 25) (n := 0) (j := 13) ⟨by rw [e1]; show (0 : Int) ≤ _; have := h13.1; omega, by rw [e1]; show _ ≤ (21504 : Int); omega⟩
    have hFg : zFr [(25, some 13), (32, none), (33, none), (34, none)] f g := by
      rw [← hg]
      exact ((((zFr.rf _ f).up rfl).up rfl).up rfl).up rfl
    have old : ∀ i : Nat, (i : Int) < (f 25 0 13).toInt → (f 34 0 i).toNatClampNeg ≠ a1.toNatClampNeg := fun i hi q => (hp0.2 i hi).1 (by rw [q]; exact hb)
    have mk : ∀ x, MQ1 f x → MQ1 g x := fun x ⟨j, h1, h2⟩ => ⟨j, by rw [g13, e1]; omega, by rw [g34 j (by omega)]; exact h2⟩
    refine ⟨rfl, hIg, hFg, zfq_i.mpr ⟨?_, ?_⟩, fun h => zmq_i.mpr (mk _ (zmq_i.mp h))⟩
    · rw [g13, e1, hp0.1, zcn_up (b := f 32 0) (c := g 32 0) hb (by rw [g32s]; exact ne4) g32 21504 ha1]
      omega
    · intro i hi
      rw [g13, e1] at hi
      by_cases hlast : i = (f 25 0 13).toNatClampNeg
      · subst hlast
        rw [g34s, g32s]
        refine ⟨ne4, ?_⟩
        rcases hp1 with ⟨h0, h1⟩ | h1
        · exact Or.inl ⟨by omega, ((z32eq a1 a2).mpr h1).symm⟩
        · obtain ⟨j, u1, u2⟩ := zmq_i.mp h1
          exact Or.inr ⟨j, by omega, by rw [g34 j (by omega)]; exact u2⟩
      · have hi2 : (i : Int) < (f 25 0 13).toInt := by omega
        rw [g34 i hlast, g32 _ (old i hi2)]
        obtain ⟨u1, u2⟩ := hp0.2 i hi2
        refine ⟨u1, ?_⟩
        rcases u2 with ⟨v1, v2⟩ | ⟨j, v1, v2⟩
        · exact Or.inl ⟨v1, v2⟩
        · exact Or.inr ⟨j, v1, by rw [g34 j (by omega)]; exact v2⟩
  · rw [if_neg hb]
    exact ⟨rfl, hI, zFr.rf _ f, zfq_i.mpr hp0, fun h => h⟩
