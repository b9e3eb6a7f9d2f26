theorem zrb_s (T : Nat → Int32) (n k p : Nat) (b : Int32) : zrb T n (k + 1) p b = if (zpb (zch T n (zsp T n p))).toInt ≤ 0 then .inr (b, zsp T n p) else if ¬ b &&& zpb (zch T n (zsp T n p)) = 0 then .inl (zsp T n p) else zrb T n k (zsp T n p + 1) (b ||| zpb (zch T n (zsp T n p))) := rfl
theorem zrp_s (T : Nat → Int32) (n k p : Nat) (b : Int32) : zrp T n (k + 1) p b = if (zpp (zch T n (zsp T n p))).toInt ≤ b.toInt then (if b = 0 then .inl (zsp T n p) else .inr (b, zsp T n p)) else zrp T n k (zsp T n p + 1) (b ||| zpp (zch T n (zsp T n p))) := rfl
theorem zpb_of {c : Int32} : zpb c = 0 ∨ zpb c = 1 ∨ zpb c = 2 ∨ zpb c = 4 ∨ zpb c = 8 ∨ zpb c = 16 := by
  unfold zpb
  split
  · simp
  · split
    · simp
    · split
      · simp
      · split
        · simp
        · split <;> simp
theorem zpp_of {c : Int32} : zpp c = 0 ∨ zpp c = 1 ∨ zpp c = 2 ∨ zpp c = 4 := by
  unfold zpp
  split
  · simp
  · split
    · simp
    · split <;> simp
theorem zpc_b {b c : Int32} (hb : zB b 0 31) (hc : 0 < (zpb c).toInt) (h : b &&& zpb c = 0) : zpc (b ||| zpb c) = zpc b + 1 := by
  have key : ∀ a : Fin 32, (nI a.val &&& 1 = 0 → zpc (nI a.val ||| 1) = zpc (nI a.val) + 1) ∧ (nI a.val &&& 2 = 0 → zpc (nI a.val ||| 2) = zpc (nI a.val) + 1) ∧ (nI a.val &&& 4 = 0 → zpc (nI a.val ||| 4) = zpc (nI a.val) + 1) ∧ (nI a.val &&& 8 = 0 → zpc (nI a.val ||| 8) = zpc (nI a.val) + 1) ∧ (nI a.val &&& 16 = 0 → zpc (nI a.val ||| 16) = zpc (nI a.val) + 1) := by decide +kernel
  obtain ⟨e1, e2⟩ := nI_ofI (x := b) hb.1
  have h3 : b.toInt.toNat < 32 := by have := hb.2; omega
  generalize b.toInt.toNat = a at e1 h3
  subst e1
  have k := key ⟨a, h3⟩
  rcases zpb_of (c := c) with q | q | q | q | q | q <;> rw [q] at h hc ⊢
  · exact absurd hc (by decide)
  · exact k.1 h
  · exact k.2.1 h
  · exact k.2.2.1 h
  · exact k.2.2.2.1 h
  · exact k.2.2.2.2 h
theorem zpc_p {b c : Int32} (hb : zB b 0 7) (hc : b.toInt < (zpp c).toInt) : zpc (b ||| zpp c) = zpc b + 1 := by
  have key : ∀ a : Fin 8, ((nI a.val).toInt < 1 → zpc (nI a.val ||| 1) = zpc (nI a.val) + 1) ∧ ((nI a.val).toInt < 2 → zpc (nI a.val ||| 2) = zpc (nI a.val) + 1) ∧ ((nI a.val).toInt < 4 → zpc (nI a.val ||| 4) = zpc (nI a.val) + 1) := by decide +kernel
  have h0 := hb.1
  obtain ⟨e1, e2⟩ := nI_ofI (x := b) hb.1
  have h3 : b.toInt.toNat < 8 := by have := hb.2; omega
  generalize b.toInt.toNat = a at e1 h3
  subst e1
  have k := key ⟨a, h3⟩
  rcases zpp_of (c := c) with q | q | q | q <;> rw [q] at hc ⊢
  · exact absurd hc (by have : (0 : Int32).toInt = 0 := by decide
                        omega)
  · exact k.1 hc
  · exact k.2.1 hc
  · exact k.2.2 hc
theorem zpc_5 {b : Int32} (hb : zB b 0 31) : zpc b ≤ 5 := by
  have key : ∀ a : Fin 32, zpc (nI a.val) ≤ 5 := by decide +kernel
  obtain ⟨e1, e2⟩ := nI_ofI (x := b) hb.1
  have h3 : b.toInt.toNat < 32 := by have := hb.2; omega
  generalize b.toInt.toNat = a at e1 h3
  subst e1
  exact key ⟨a, h3⟩
theorem zpc_3 {b : Int32} (hb : zB b 0 7) : zpc b ≤ 3 := by
  have key : ∀ a : Fin 8, zpc (nI a.val) ≤ 3 := by decide +kernel
  obtain ⟨e1, e2⟩ := nI_ofI (x := b) hb.1
  have h3 : b.toInt.toNat < 8 := by have := hb.2; omega
  generalize b.toInt.toNat = a at e1 h3
  subst e1
  exact key ⟨a, h3⟩

theorem zrow8 {f g1 g2 g3 g4 g5 g6 g7 g8 : zM} {k K : Nat} {i0 i1 i2 i3 i4 i5 i6 i7 : Nat} {v0 v1 v2 v3 v4 v5 v6 v7 : Int32} (e1 : g1 = zup f k 0 i0 v0) (e2 : g2 = zup g1 k 0 i1 v1) (e3 : g3 = zup g2 k 0 i2 v2) (e4 : g4 = zup g3 k 0 i3 v3) (e5 : g5 = zup g4 k 0 i4 v4) (e6 : g6 = zup g5 k 0 i5 v5) (e7 : g7 = zup g6 k 0 i6 v6) (e8 : g8 = zup g7 k 0 i7 v7) (h0 : i0 = K + 0) (h1 : i1 = K + 1) (h2 : i2 = K + 2) (h3 : i3 = K + 3) (h4 : i4 = K + 4) (h5 : i5 = K + 5) (h6 : i6 = K + 6) (h7 : i7 = K + 7) : (∀ j, j < 8 → g8 k 0 (K + j) = zc8 v0 v1 v2 v3 v4 v5 v6 v7 j) ∧ (∀ q, (q < K ∨ K + 8 ≤ q) → g8 k 0 q = f k 0 q) := by
  subst h0 h1 h2 h3 h4 h5 h6 h7
  refine ⟨fun j hj => ?_, fun q hq => ?_⟩
  · rcases (show j = 0 ∨ j = 1 ∨ j = 2 ∨ j = 3 ∨ j = 4 ∨ j = 5 ∨ j = 6 ∨ j = 7 by omega) with rfl | rfl | rfl | rfl | rfl | rfl | rfl | rfl
    · rw [e8, zup_ne _ _ (by omega), e7, zup_ne _ _ (by omega), e6, zup_ne _ _ (by omega), e5, zup_ne _ _ (by omega), e4, zup_ne _ _ (by omega), e3, zup_ne _ _ (by omega), e2, zup_ne _ _ (by omega), e1, Nat.add_zero, zup_same] <;> rfl
    · rw [e8, zup_ne _ _ (by omega), e7, zup_ne _ _ (by omega), e6, zup_ne _ _ (by omega), e5, zup_ne _ _ (by omega), e4, zup_ne _ _ (by omega), e3, zup_ne _ _ (by omega), e2, zup_same] <;> rfl
    · rw [e8, zup_ne _ _ (by omega), e7, zup_ne _ _ (by omega), e6, zup_ne _ _ (by omega), e5, zup_ne _ _ (by omega), e4, zup_ne _ _ (by omega), e3, zup_same] <;> rfl
    · rw [e8, zup_ne _ _ (by omega), e7, zup_ne _ _ (by omega), e6, zup_ne _ _ (by omega), e5, zup_ne _ _ (by omega), e4, zup_same] <;> rfl
    · rw [e8, zup_ne _ _ (by omega), e7, zup_ne _ _ (by omega), e6, zup_ne _ _ (by omega), e5, zup_same] <;> rfl
    · rw [e8, zup_ne _ _ (by omega), e7, zup_ne _ _ (by omega), e6, zup_same] <;> rfl
    · rw [e8, zup_ne _ _ (by omega), e7, zup_same] <;> rfl
    · rw [e8, zup_same] <;> rfl
  · rw [e8, zup_ne _ _ (by omega), e7, zup_ne _ _ (by omega), e6, zup_ne _ _ (by omega), e5, zup_ne _ _ (by omega), e4, zup_ne _ _ (by omega), e3, zup_ne _ _ (by omega), e2, zup_ne _ _ (by omega), e1, zup_ne _ _ (by omega)]
theorem zrow6 {f g1 g2 g3 g4 g5 g6 : zM} {k K : Nat} {i0 i1 i2 i3 i4 i5 : Nat} {v0 v1 v2 v3 v4 v5 : Int32} (e1 : g1 = zup f k 0 i0 v0) (e2 : g2 = zup g1 k 0 i1 v1) (e3 : g3 = zup g2 k 0 i2 v2) (e4 : g4 = zup g3 k 0 i3 v3) (e5 : g5 = zup g4 k 0 i4 v4) (e6 : g6 = zup g5 k 0 i5 v5) (h0 : i0 = K + 0) (h1 : i1 = K + 1) (h2 : i2 = K + 2) (h3 : i3 = K + 3) (h4 : i4 = K + 4) (h5 : i5 = K + 5) : (∀ j, j < 6 → g6 k 0 (K + j) = zc6 v0 v1 v2 v3 v4 v5 j) ∧ (∀ q, (q < K ∨ K + 6 ≤ q) → g6 k 0 q = f k 0 q) := by
  subst h0 h1 h2 h3 h4 h5
  refine ⟨fun j hj => ?_, fun q hq => ?_⟩
  · rcases (show j = 0 ∨ j = 1 ∨ j = 2 ∨ j = 3 ∨ j = 4 ∨ j = 5 by omega) with rfl | rfl | rfl | rfl | rfl | rfl
    · rw [e6, zup_ne _ _ (by omega), e5, zup_ne _ _ (by omega), e4, zup_ne _ _ (by omega), e3, zup_ne _ _ (by omega), e2, zup_ne _ _ (by omega), e1, Nat.add_zero, zup_same] <;> rfl
    · rw [e6, zup_ne _ _ (by omega), e5, zup_ne _ _ (by omega), e4, zup_ne _ _ (by omega), e3, zup_ne _ _ (by omega), e2, zup_same] <;> rfl
    · rw [e6, zup_ne _ _ (by omega), e5, zup_ne _ _ (by omega), e4, zup_ne _ _ (by omega), e3, zup_same] <;> rfl
    · rw [e6, zup_ne _ _ (by omega), e5, zup_ne _ _ (by omega), e4, zup_same] <;> rfl
    · rw [e6, zup_ne _ _ (by omega), e5, zup_same] <;> rfl
    · rw [e6, zup_same] <;> rfl
  · rw [e6, zup_ne _ _ (by omega), e5, zup_ne _ _ (by omega), e4, zup_ne _ _ (by omega), e3, zup_ne _ _ (by omega), e2, zup_ne _ _ (by omega), e1, zup_ne _ _ (by omega)]

set_option maxRecDepth 100000 in
set_option maxHeartbeats 4000000 in
theorem x_X10_barOf (d : Nat) (f : zM) (a0 : Int32) (b0 : zB a0 (-1) 255) (hI : zInv f) : ZM d yX10_barOf cX10_barOf 1 (some .int) [zi a0] f (fun r g => (∃ v, r = some (zi v) ∧ zB v 0 16) ∧ zInv g ∧ zFr [] f g ∧ (∀ v : Int32, r = some (zi v) → v = zpb a0) ∧ (∀ v : Int32, r = some (zi v) → (1 ≤ v.toInt → 0 ≤ a0.toInt ∧ a0.toInt ≤ 255))) := by
  refine ZM.intro (by decide +kernel) (Nat.le_of_ble_eq_true rfl) ?_
  intro X C hr hn
  have hF : zFr [] f f := zFr.rf _ _
  show Z X 0 [some (zi a0)] [] f
  refine z_iload_n (pc := 0) C dX10_barOf_0 rfl ?_
  refine z_bipush (pc := 1) (v := 111) C dX10_barOf_1 (by decide) ?_
  refine z_icmp_ne (pc := 3) 10 C dX10_barOf_3 (by decide) (fun h3_0 => ?_) (fun h3_0 => ?_)
  · skip
    refine z_iload_n (pc := 10) C dX10_barOf_10 rfl ?_
    refine z_bipush (pc := 11) (v := 106) C dX10_barOf_11 (by decide) ?_
    refine z_icmp_ne (pc := 13) 20 C dX10_barOf_13 (by decide) (fun h13_1 => ?_) (fun h13_1 => ?_)
    · skip
      refine z_iload_n (pc := 20) C dX10_barOf_20 rfl ?_
      refine z_bipush (pc := 21) (v := 112) C dX10_barOf_21 (by decide) ?_
      refine z_icmp_ne (pc := 23) 30 C dX10_barOf_23 (by decide) (fun h23_2 => ?_) (fun h23_2 => ?_)
      · skip
        refine z_iload_n (pc := 30) C dX10_barOf_30 rfl ?_
        refine z_bipush (pc := 31) (v := 107) C dX10_barOf_31 (by decide) ?_
        refine z_icmp_ne (pc := 33) 41 C dX10_barOf_33 (by decide) (fun h33_3 => ?_) (fun h33_3 => ?_)
        · skip
          refine z_iload_n (pc := 41) C dX10_barOf_41 rfl ?_
          refine z_bipush (pc := 42) (v := 104) C dX10_barOf_42 (by decide) ?_
          refine z_icmp_ne (pc := 44) 52 C dX10_barOf_44 (by decide) (fun h44_4 => ?_) (fun h44_4 => ?_)
          · skip
            refine z_iconst (pc := 52) (v := 0) C dX10_barOf_52 (by decide) ?_
            exact z_iret (pc := 53) C hr dX10_barOf_53 ⟨⟨_, rfl, (zB.wk (a' := 0) (b' := 16) (zB.of (x := 0) 0 (by decide)) (by decide) (by decide))⟩, hI, hF, (by
                                                                                          intro v hv; cases hv
                                                                                          unfold zpb
                                                                                          first
                                                                                            | (rw [if_pos (by assumption)]; done)
                                                                                            | (rw [if_neg (by assumption), if_pos (by assumption)]; done)
                                                                                            | (rw [if_neg (by assumption), if_neg (by assumption), if_pos (by assumption)]; done)
                                                                                            | (rw [if_neg (by assumption), if_neg (by assumption), if_neg (by assumption), if_pos (by assumption)]; done)
                                                                                            | (rw [if_neg (by assumption), if_neg (by assumption), if_neg (by assumption), if_neg (by assumption), if_pos (by assumption)]; done)
                                                                                            | (rw [if_neg (by assumption), if_neg (by assumption), if_neg (by assumption), if_neg (by assumption), if_neg (by assumption)]; done)), (by intro v hv; cases hv; have qc0 : (0 : Int32).toInt = 0 := (by decide); omega)⟩
          · skip
            have b6x : zB a0 104 104 := by have q1 := b0; have q2 := (zB.of (x := 104) 104 (by decide)); simp only [z32lt, z32le, z32eq, Int32.reduceToInt, Int32.toInt_zero] at h44_4; constructor <;> omega
            refine z_bipush (pc := 47) (v := 16) C dX10_barOf_47 (by decide) ?_
            refine z_goto (pc := 49) 53 C dX10_barOf_49 (by decide) ?_
            exact z_iret (pc := 53) C hr dX10_barOf_53 ⟨⟨_, rfl, (zB.wk (a' := 0) (b' := 16) (zB.of (x := 16) 16 (by decide)) (by decide) (by decide))⟩, hI, hF, (by
                                                                                          intro v hv; cases hv
                                                                                          unfold zpb
                                                                                          first
                                                                                            | (rw [if_pos (by assumption)]; done)
                                                                                            | (rw [if_neg (by assumption), if_pos (by assumption)]; done)
                                                                                            | (rw [if_neg (by assumption), if_neg (by assumption), if_pos (by assumption)]; done)
                                                                                            | (rw [if_neg (by assumption), if_neg (by assumption), if_neg (by assumption), if_pos (by assumption)]; done)
                                                                                            | (rw [if_neg (by assumption), if_neg (by assumption), if_neg (by assumption), if_neg (by assumption), if_pos (by assumption)]; done)
                                                                                            | (rw [if_neg (by assumption), if_neg (by assumption), if_neg (by assumption), if_neg (by assumption), if_neg (by assumption)]; done)), (by intro v hv; cases hv; have qc0 : (16 : Int32).toInt = 16 := (by decide); omega)⟩
        · skip
          have b7x : zB a0 107 107 := by have q1 := b0; have q2 := (zB.of (x := 107) 107 (by decide)); simp only [z32lt, z32le, z32eq, Int32.reduceToInt, Int32.toInt_zero] at h33_3; constructor <;> omega
          refine z_bipush (pc := 36) (v := 8) C dX10_barOf_36 (by decide) ?_
          refine z_goto (pc := 38) 53 C dX10_barOf_38 (by decide) ?_
          exact z_iret (pc := 53) C hr dX10_barOf_53 ⟨⟨_, rfl, (zB.wk (a' := 0) (b' := 16) (zB.of (x := 8) 8 (by decide)) (by decide) (by decide))⟩, hI, hF, (by
                                                                                          intro v hv; cases hv
                                                                                          unfold zpb
                                                                                          first
                                                                                            | (rw [if_pos (by assumption)]; done)
                                                                                            | (rw [if_neg (by assumption), if_pos (by assumption)]; done)
                                                                                            | (rw [if_neg (by assumption), if_neg (by assumption), if_pos (by assumption)]; done)
                                                                                            | (rw [if_neg (by assumption), if_neg (by assumption), if_neg (by assumption), if_pos (by assumption)]; done)
                                                                                            | (rw [if_neg (by assumption), if_neg (by assumption), if_neg (by assumption), if_neg (by assumption), if_pos (by assumption)]; done)
                                                                                            | (rw [if_neg (by assumption), if_neg (by assumption), if_neg (by assumption), if_neg (by assumption), if_neg (by assumption)]; done)), (by intro v hv; cases hv; have qc0 : (8 : Int32).toInt = 8 := (by decide); omega)⟩
      · skip
        have b8x : zB a0 112 112 := by have q1 := b0; have q2 := (zB.of (x := 112) 112 (by decide)); simp only [z32lt, z32le, z32eq, Int32.reduceToInt, Int32.toInt_zero] at h23_2; constructor <;> omega
        refine z_iconst (pc := 26) (v := 4) C dX10_barOf_26 (by decide) ?_
        refine z_goto (pc := 27) 53 C dX10_barOf_27 (by decide) ?_
        exact z_iret (pc := 53) C hr dX10_barOf_53 ⟨⟨_, rfl, (zB.wk (a' := 0) (b' := 16) (zB.of (x := 4) 4 (by decide)) (by decide) (by decide))⟩, hI, hF, (by
                                                                                          intro v hv; cases hv
                                                                                          unfold zpb
                                                                                          first
                                                                                            | (rw [if_pos (by assumption)]; done)
                                                                                            | (rw [if_neg (by assumption), if_pos (by assumption)]; done)
                                                                                            | (rw [if_neg (by assumption), if_neg (by assumption), if_pos (by assumption)]; done)
                                                                                            | (rw [if_neg (by assumption), if_neg (by assumption), if_neg (by assumption), if_pos (by assumption)]; done)
                                                                                            | (rw [if_neg (by assumption), if_neg (by assumption), if_neg (by assumption), if_neg (by assumption), if_pos (by assumption)]; done)
                                                                                            | (rw [if_neg (by assumption), if_neg (by assumption), if_neg (by assumption), if_neg (by assumption), if_neg (by assumption)]; done)), (by intro v hv; cases hv; have qc0 : (4 : Int32).toInt = 4 := (by decide); omega)⟩
    · skip
      have b9x : zB a0 106 106 := by have q1 := b0; have q2 := (zB.of (x := 106) 106 (by decide)); simp only [z32lt, z32le, z32eq, Int32.reduceToInt, Int32.toInt_zero] at h13_1; constructor <;> omega
      refine z_iconst (pc := 16) (v := 2) C dX10_barOf_16 (by decide) ?_
      refine z_goto (pc := 17) 53 C dX10_barOf_17 (by decide) ?_
      exact z_iret (pc := 53) C hr dX10_barOf_53 ⟨⟨_, rfl, (zB.wk (a' := 0) (b' := 16) (zB.of (x := 2) 2 (by decide)) (by decide) (by decide))⟩, hI, hF, (by
                                                                                          intro v hv; cases hv
                                                                                          unfold zpb
                                                                                          first
                                                                                            | (rw [if_pos (by assumption)]; done)
                                                                                            | (rw [if_neg (by assumption), if_pos (by assumption)]; done)
                                                                                            | (rw [if_neg (by assumption), if_neg (by assumption), if_pos (by assumption)]; done)
                                                                                            | (rw [if_neg (by assumption), if_neg (by assumption), if_neg (by assumption), if_pos (by assumption)]; done)
                                                                                            | (rw [if_neg (by assumption), if_neg (by assumption), if_neg (by assumption), if_neg (by assumption), if_pos (by assumption)]; done)
                                                                                            | (rw [if_neg (by assumption), if_neg (by assumption), if_neg (by assumption), if_neg (by assumption), if_neg (by assumption)]; done)), (by intro v hv; cases hv; have qc0 : (2 : Int32).toInt = 2 := (by decide); omega)⟩
  · skip
    have b10x : zB a0 111 111 := by have q1 := b0; have q2 := (zB.of (x := 111) 111 (by decide)); simp only [z32lt, z32le, z32eq, Int32.reduceToInt, Int32.toInt_zero] at h3_0; constructor <;> omega
    refine z_iconst (pc := 6) (v := 1) C dX10_barOf_6 (by decide) ?_
    refine z_goto (pc := 7) 53 C dX10_barOf_7 (by decide) ?_
    exact z_iret (pc := 53) C hr dX10_barOf_53 ⟨⟨_, rfl, (zB.wk (a' := 0) (b' := 16) (zB.of (x := 1) 1 (by decide)) (by decide) (by decide))⟩, hI, hF, (by
                                                                                          intro v hv; cases hv
                                                                                          unfold zpb
                                                                                          first
                                                                                            | (rw [if_pos (by assumption)]; done)
                                                                                            | (rw [if_neg (by assumption), if_pos (by assumption)]; done)
                                                                                            | (rw [if_neg (by assumption), if_neg (by assumption), if_pos (by assumption)]; done)
                                                                                            | (rw [if_neg (by assumption), if_neg (by assumption), if_neg (by assumption), if_pos (by assumption)]; done)
                                                                                            | (rw [if_neg (by assumption), if_neg (by assumption), if_neg (by assumption), if_neg (by assumption), if_pos (by assumption)]; done)
                                                                                            | (rw [if_neg (by assumption), if_neg (by assumption), if_neg (by assumption), if_neg (by assumption), if_neg (by assumption)]; done)), (by intro v hv; cases hv; have qc0 : (1 : Int32).toInt = 1 := (by decide); omega)⟩

set_option maxRecDepth 100000 in
set_option maxHeartbeats 4000000 in
theorem x_X10_promiseOf (d : Nat) (f : zM) (a0 : Int32) (b0 : zB a0 (-1) 255) (hI : zInv f) : ZM d yX10_promiseOf cX10_promiseOf 1 (some .int) [zi a0] f (fun r g => (∃ v, r = some (zi v) ∧ zB v 0 4) ∧ zInv g ∧ zFr [] f g ∧ (∀ v : Int32, r = some (zi v) → v = zpp a0) ∧ (∀ v : Int32, r = some (zi v) → (1 ≤ v.toInt → 0 ≤ a0.toInt ∧ a0.toInt ≤ 255))) := by
  refine ZM.intro (by decide +kernel) (Nat.le_of_ble_eq_true rfl) ?_
  intro X C hr hn
  have hF : zFr [] f f := zFr.rf _ _
  show Z X 0 [some (zi a0)] [] f
  refine z_iload_n (pc := 0) C dX10_promiseOf_0 rfl ?_
  refine z_bipush (pc := 1) (v := 68) C dX10_promiseOf_1 (by decide) ?_
  refine z_icmp_ne (pc := 3) 10 C dX10_promiseOf_3 (by decide) (fun h3_0 => ?_) (fun h3_0 => ?_)
  · skip
    refine z_iload_n (pc := 10) C dX10_promiseOf_10 rfl ?_
    refine z_bipush (pc := 11) (v := 83) C dX10_promiseOf_11 (by decide) ?_
    refine z_icmp_ne (pc := 13) 20 C dX10_promiseOf_13 (by decide) (fun h13_1 => ?_) (fun h13_1 => ?_)
    · skip
      refine z_iload_n (pc := 20) C dX10_promiseOf_20 rfl ?_
      refine z_bipush (pc := 21) (v := 79) C dX10_promiseOf_21 (by decide) ?_
      refine z_icmp_ne (pc := 23) 30 C dX10_promiseOf_23 (by decide) (fun h23_2 => ?_) (fun h23_2 => ?_)
      · skip
        refine z_iconst (pc := 30) (v := 0) C dX10_promiseOf_30 (by decide) ?_
        exact z_iret (pc := 31) C hr dX10_promiseOf_31 ⟨⟨_, rfl, (zB.wk (a' := 0) (b' := 4) (zB.of (x := 0) 0 (by decide)) (by decide) (by decide))⟩, hI, hF, (by
                                                                                          intro v hv; cases hv
                                                                                          unfold zpp
                                                                                          first
                                                                                            | (rw [if_pos (by assumption)]; done)
                                                                                            | (rw [if_neg (by assumption), if_pos (by assumption)]; done)
                                                                                            | (rw [if_neg (by assumption), if_neg (by assumption), if_pos (by assumption)]; done)
                                                                                            | (rw [if_neg (by assumption), if_neg (by assumption), if_neg (by assumption)]; done)), (by intro v hv; cases hv; have qc0 : (0 : Int32).toInt = 0 := (by decide); omega)⟩
      · skip
        have b4x : zB a0 79 79 := by have q1 := b0; have q2 := (zB.of (x := 79) 79 (by decide)); simp only [z32lt, z32le, z32eq, Int32.reduceToInt, Int32.toInt_zero] at h23_2; constructor <;> omega
        refine z_iconst (pc := 26) (v := 4) C dX10_promiseOf_26 (by decide) ?_
        refine z_goto (pc := 27) 31 C dX10_promiseOf_27 (by decide) ?_
        exact z_iret (pc := 31) C hr dX10_promiseOf_31 ⟨⟨_, rfl, (zB.wk (a' := 0) (b' := 4) (zB.of (x := 4) 4 (by decide)) (by decide) (by decide))⟩, hI, hF, (by
                                                                                          intro v hv; cases hv
                                                                                          unfold zpp
                                                                                          first
                                                                                            | (rw [if_pos (by assumption)]; done)
                                                                                            | (rw [if_neg (by assumption), if_pos (by assumption)]; done)
                                                                                            | (rw [if_neg (by assumption), if_neg (by assumption), if_pos (by assumption)]; done)
                                                                                            | (rw [if_neg (by assumption), if_neg (by assumption), if_neg (by assumption)]; done)), (by intro v hv; cases hv; have qc0 : (4 : Int32).toInt = 4 := (by decide); omega)⟩
    · skip
      have b5x : zB a0 83 83 := by have q1 := b0; have q2 := (zB.of (x := 83) 83 (by decide)); simp only [z32lt, z32le, z32eq, Int32.reduceToInt, Int32.toInt_zero] at h13_1; constructor <;> omega
      refine z_iconst (pc := 16) (v := 2) C dX10_promiseOf_16 (by decide) ?_
      refine z_goto (pc := 17) 31 C dX10_promiseOf_17 (by decide) ?_
      exact z_iret (pc := 31) C hr dX10_promiseOf_31 ⟨⟨_, rfl, (zB.wk (a' := 0) (b' := 4) (zB.of (x := 2) 2 (by decide)) (by decide) (by decide))⟩, hI, hF, (by
                                                                                          intro v hv; cases hv
                                                                                          unfold zpp
                                                                                          first
                                                                                            | (rw [if_pos (by assumption)]; done)
                                                                                            | (rw [if_neg (by assumption), if_pos (by assumption)]; done)
                                                                                            | (rw [if_neg (by assumption), if_neg (by assumption), if_pos (by assumption)]; done)
                                                                                            | (rw [if_neg (by assumption), if_neg (by assumption), if_neg (by assumption)]; done)), (by intro v hv; cases hv; have qc0 : (2 : Int32).toInt = 2 := (by decide); omega)⟩
  · skip
    have b6x : zB a0 68 68 := by have q1 := b0; have q2 := (zB.of (x := 68) 68 (by decide)); simp only [z32lt, z32le, z32eq, Int32.reduceToInt, Int32.toInt_zero] at h3_0; constructor <;> omega
    refine z_iconst (pc := 6) (v := 1) C dX10_promiseOf_6 (by decide) ?_
    refine z_goto (pc := 7) 31 C dX10_promiseOf_7 (by decide) ?_
    exact z_iret (pc := 31) C hr dX10_promiseOf_31 ⟨⟨_, rfl, (zB.wk (a' := 0) (b' := 4) (zB.of (x := 1) 1 (by decide)) (by decide) (by decide))⟩, hI, hF, (by
                                                                                          intro v hv; cases hv
                                                                                          unfold zpp
                                                                                          first
                                                                                            | (rw [if_pos (by assumption)]; done)
                                                                                            | (rw [if_neg (by assumption), if_pos (by assumption)]; done)
                                                                                            | (rw [if_neg (by assumption), if_neg (by assumption), if_pos (by assumption)]; done)
                                                                                            | (rw [if_neg (by assumption), if_neg (by assumption), if_neg (by assumption)]; done)), (by intro v hv; cases hv; have qc0 : (1 : Int32).toInt = 1 := (by decide); omega)⟩

set_option maxRecDepth 100000 in
set_option maxHeartbeats 4000000 in
theorem e_X10_readPaper_n0 (d : Nat) (f : zM) (a1 : Int32) (b1 : zB a1 0 5) (pf25_0_20 : zB (f 25 0 20) 0 11) (T : Nat → Int32) (n p : Nat) (hN : n ≤ 120) (h18 : f 25 0 16 = nI n) (hTp : ∀ i, i < n → f 36 0 i = T i) (hp : f 25 0 17 = nI p) (hb : p ≤ n) (hI : zInv f) (X : zX) (C : zC X cX10_readPaper yX10_readPaper.cls (d + 2)) (hr : zRet X (some .boolean) (fun r g => (∃ v, r = some (zi v) ∧ zB v 0 1) ∧ zInv g ∧ zFr [(25, some 17), (25, some 20), (38, none)] f g ∧ (∀ v : Int32, r = some (zi v) → (∃ e, zpaR T n a1 p = .inl e ∧ e ≤ n ∧ g 25 0 17 = nI e ∧ v = 0) ∨ (∃ q c, zpaR T n a1 p = .inr (c, q) ∧ g 25 0 17 = nI q ∧ q ≤ n ∧ v = 1 ∧ g 25 0 20 = f 25 0 20 + 1 ∧ (∀ j, j < 8 → g 38 0 (8 * (f 25 0 20).toInt.toNat + j) = c j) ∧ (∀ x, (x < 8 * (f 25 0 20).toInt.toNat ∨ 8 * (f 25 0 20).toInt.toNat + 8 ≤ x) → g 38 0 x = f 38 0 x))))) (hn : znL X = 9) (t : Nat) (ih0 : (∀ a86_2 : Int32, zB a86_2 0 88 → a86_2.toInt % 8 = 0 → ∀ a86_3 : Int32, zB a86_3 0 5 → ∀ a86_4 : Int32, zB a86_4 0 1 → ∀ a86_5 : Int32, zB a86_5 1 40 → ∀ a86_6 : Int32, zB a86_6 0 31 → ∀ g : zM, zInv g → zFr [(25, some 17), (25, some 20), (38, none)] f g → zB (g 25 0 17) 0 120 → zB (g 25 0 20) 0 11 → (g 25 0 16 = nI n) → (∀ i, i < n → g 36 0 i = T i) → ((g 25 0 17).toInt.toNat ≤ n) → ((g 25 0 20).toInt = (f 25 0 20).toInt) → (a86_2.toInt = 8 * (f 25 0 20).toInt) → (∀ x j, g 38 x j = f 38 x j) → (∃ K : Nat, K + zpc a86_6 = 6 ∧ zpaR T n a1 p = zbd (zrb T n K ((g 25 0 17).toInt.toNat) a86_6) (fun bars p3 => zPb (zprR T n) T n (zkd a86_4) a1 a86_3 a86_5 bars p3)) → (607 + 610 * (120 - (g 25 0 17).toInt) : Int) < t → Z X 86 [some (zr 25 0), some (zi a1), some (zi a86_2), some (zi a86_3), some (zi a86_4), some (zi a86_5), some (zi a86_6), none, none] [] g)) (ih1 : (∀ a176_2 : Int32, zB a176_2 0 88 → a176_2.toInt % 8 = 0 → ∀ a176_3 : Int32, zB a176_3 0 5 → ∀ a176_4 : Int32, zB a176_4 0 1 → ∀ a176_5 : Int32, zB a176_5 1 40 → ∀ a176_6 : Int32, zB a176_6 0 31 → ∀ a176_7 : Int32, zB a176_7 0 99 → ∀ a176_8 : Int32, zB a176_8 0 7 → ∀ g : zM, zInv g → zFr [(25, some 17), (25, some 20), (38, none)] f g → zB (g 25 0 17) 0 120 → zB (g 25 0 20) 0 11 → (g 25 0 16 = nI n) → (∀ i, i < n → g 36 0 i = T i) → ((g 25 0 17).toInt.toNat ≤ n) → ((g 25 0 20).toInt = (f 25 0 20).toInt) → (a176_2.toInt = 8 * (f 25 0 20).toInt) → (∀ x j, g 38 x j = f 38 x j) → (∃ K : Nat, K + zpc a176_8 = 4 ∧ zpaR T n a1 p = zbd (zrp T n K ((g 25 0 17).toInt.toNat) a176_8) (fun prm p5 => .inr (zc8 (zkd a176_4) a1 a176_3 a176_5 0 a176_6 a176_7 prm, p5))) → (1 + 5 * (120 - (g 25 0 17).toInt) : Int) < t → Z X 176 [some (zr 25 0), some (zi a1), some (zi a176_2), some (zi a176_3), some (zi a176_4), some (zi a176_5), some (zi a176_6), some (zi a176_7), some (zi a176_8)] [] g)) (ih2 : (∀ a220_2 : Int32, zB a220_2 0 88 → a220_2.toInt % 8 = 0 → ∀ a220_3 : Int32, zB a220_3 0 5 → ∀ a220_4 : Int32, zB a220_4 0 1 → ∀ a220_5 : Int32, zB a220_5 1 40 → ∀ a220_6 : Int32, zB a220_6 0 31 → ∀ a220_7 : Int32, zB a220_7 0 99 → ∀ a220_8 : Int32, zB a220_8 0 7 → ∀ g : zM, zInv g → zFr [(25, some 17), (25, some 20), (38, none)] f g → zB (g 25 0 17) 0 120 → zB (g 25 0 20) 0 11 → (g 25 0 16 = nI n) → (∀ i, i < n → g 36 0 i = T i) → ((g 25 0 17).toInt.toNat ≤ n) → ((g 25 0 20).toInt = (f 25 0 20).toInt) → (a220_2.toInt = 8 * (f 25 0 20).toInt) → (∀ x j, g 38 x j = f 38 x j) → (zpaR T n a1 p = .inr (zc8 (zkd a220_4) a1 a220_3 a220_5 0 a220_6 a220_7 a220_8, (g 25 0 17).toInt.toNat)) → (0 : Int) < t → Z X 220 [some (zr 25 0), some (zi a1), some (zi a220_2), some (zi a220_3), some (zi a220_4), some (zi a220_5), some (zi a220_6), some (zi a220_7), some (zi a220_8)] [] g)) : (∀ a86_2 : Int32, zB a86_2 0 88 → a86_2.toInt % 8 = 0 → ∀ a86_3 : Int32, zB a86_3 0 5 → ∀ a86_4 : Int32, zB a86_4 0 1 → ∀ a86_5 : Int32, zB a86_5 1 40 → ∀ a86_6 : Int32, zB a86_6 0 31 → ∀ g : zM, zInv g → zFr [(25, some 17), (25, some 20), (38, none)] f g → zB (g 25 0 17) 0 120 → zB (g 25 0 20) 0 11 → (g 25 0 16 = nI n) → (∀ i, i < n → g 36 0 i = T i) → ((g 25 0 17).toInt.toNat ≤ n) → ((g 25 0 20).toInt = (f 25 0 20).toInt) → (a86_2.toInt = 8 * (f 25 0 20).toInt) → (∀ x j, g 38 x j = f 38 x j) → (∃ K : Nat, K + zpc a86_6 = 6 ∧ zpaR T n a1 p = zbd (zrb T n K ((g 25 0 17).toInt.toNat) a86_6) (fun bars p3 => zPb (zprR T n) T n (zkd a86_4) a1 a86_3 a86_5 bars p3)) → (607 + 610 * (120 - (g 25 0 17).toInt) : Int) < ((t + 1 : Nat) : Int) → Z X 86 [some (zr 25 0), some (zi a1), some (zi a86_2), some (zi a86_3), some (zi a86_4), some (zi a86_5), some (zi a86_6), none, none] [] g) := by
        have hF : zFr [(25, some 17), (25, some 20), (38, none)] f f := zFr.rf _ _
        have ct25_0_17 : zB (f 25 0 17) 0 120 := hI 25 0 17
        intro a86_2 b86_2 n86_2 a86_3 b86_3 a86_4 b86_4 a86_5 b86_5 a86_6 b86_6 g86_ hI86_ hF86_ f86_25_0_17 f86_25_0_20 hR86_0 hR86_1 hR86_2 hR86_3 hR86_4 hR86_5 hR86_6 hM86_
        have hpl86 : g86_ 25 0 17 = nI ((g86_ 25 0 17).toInt.toNat) := (nI_ofI (hI86_ 25 0 17).1).1
        refine z_aload_n (pc := 86) C dX10_readPaper_86 rfl ?_
        refine z_callV (pc := 87) C zk_X10_214 (e_X10_next _ _ T n ((g86_ 25 0 17).toInt.toNat) hN hR86_0 hR86_1 hpl86 hR86_2 hI86_) rfl rfl (by decide) rfl rfl (Nat.le_of_ble_eq_true rfl) dX10_readPaper_87 (fun r1 g1 q1 => ?_)
        obtain ⟨⟨v1, rfl, b1x⟩, hI1, hF1q, hp1⟩ := q1
        have hp1 := hp1 _ rfl
        have hF1 := zFr.tr hF86_ hF1q (by decide)
        simp only [Option.toList, List.cons_append, List.nil_append]
        have cr1_25_0_17 : zB (g1 25 0 17) 0 120 := hI1 25 0 17
        have ek1_25_0_20 : (g1 25 0 20).toInt = (g86_ 25 0 20).toInt := by rw [hF1q 25 0 20 rfl]
        have c1_25_0_20x : zB (g1 25 0 20) 0 11 := by rw [hF1q 25 0 20 rfl]; exact f86_25_0_20
        obtain ⟨hv1, hq1, hj1⟩ := hp1
        have h181 : g1 25 0 16 = nI n := (hF1q 25 0 16 rfl).trans hR86_0
        have hTp1 : ∀ i, i < n → g1 36 0 i = T i := fun i hi => (hF1q 36 0 i rfl).trans (hR86_1 i hi)
        have kk38_1 : ∀ x j, g1 38 x j = f 38 x j := fun x j => (hF1q 38 x j rfl).trans (hR86_5 x j)
        have hb1 : zsp T n ((g86_ 25 0 17).toInt.toNat) ≤ n := zsp_len hR86_2
        have ez1 : (g1 25 0 17).toInt = ((zsp T n ((g86_ 25 0 17).toInt.toNat) : Nat) : Int) := by rw [hq1]; exact nI_toInt (by have := hb1; omega)
        have zg1 := zsp_ge T n ((g86_ 25 0 17).toInt.toNat)
        refine z_callS (pc := 90) C zk_X10_236 (x_X10_barOf _ _ v1 b1x hI1) rfl rfl (Nat.le_of_ble_eq_true rfl) dX10_readPaper_90 (fun r2 g2 q2 => ?_)
        obtain ⟨⟨v2, rfl, b2x⟩, hI2, hF2q, hp2_0, hp2_1⟩ := q2
        have hp2_0 := hp2_0 _ rfl
        have hp2_1 := hp2_1 _ rfl
        obtain rfl := zFr_nil hF2q
        simp only [Option.toList, List.cons_append, List.nil_append]
        refine z_if_le (pc := 93) 136 C dX10_readPaper_93 (by decide) (fun h93_2 => ?_) (fun h93_2 => ?_)
        · skip
          have b4x : zB v2 0 0 := by have q1 := b2x; have q2 := (zB.of (x := 0) 0 (by decide)); simp only [z32lt, z32le, z32eq, Int32.reduceToInt, Int32.toInt_zero] at h93_2; constructor <;> omega
          obtain ⟨K, hK1, hK2⟩ := hR86_6
          have z5 := zpc_5 (b := a86_6) b86_6
          obtain ⟨K, rfl⟩ : ∃ K2, K = K2 + 1 := ⟨K - 1, by omega⟩
          have w0 : v2 = zpb (zch T n (zsp T n ((g86_ 25 0 17).toInt.toNat))) := by rw [hp2_0, hv1]
          have hZ86 : zpaR T n a1 p = zPb (zprR T n) T n (zkd a86_4) a1 a86_3 a86_5 a86_6 (zsp T n ((g86_ 25 0 17).toInt.toNat)) := by rw [hK2, zrb_s, if_pos (by rw [← w0]; omega)]; rfl
          refine z_iconst (pc := 136) (v := 0) C dX10_readPaper_136 (by decide) ?_
          refine z_istore (pc := 137) C dX10_readPaper_137 (by rw [hn]; decide) rfl ?_
          refine z_aload_n (pc := 139) C dX10_readPaper_139 rfl ?_
          refine z_bipush (pc := 140) (v := 116) C dX10_readPaper_140 (by decide) ?_
          refine z_callV (pc := 142) C zk_X10_227 (e_X10_takes _ _ 116 (zB.wk (a' := 1) (b' := 126) (zB.of (x := 116) 116 (by decide)) (by decide) (by decide)) T n (zsp T n ((g86_ 25 0 17).toInt.toNat)) hN h181 hTp1 hq1 hb1 hI1) rfl rfl (by decide) rfl rfl (Nat.le_of_ble_eq_true rfl) dX10_readPaper_142 (fun r5 g5 q5 => ?_)
          obtain ⟨⟨v5, rfl, b5x⟩, hI5, hF5q, hp5⟩ := q5
          have hp5 := hp5 _ rfl
          have hF5 := zFr.tr hF1 hF5q (by decide)
          simp only [Option.toList, List.cons_append, List.nil_append]
          have cr5_25_0_17 : zB (g5 25 0 17) 0 120 := hI5 25 0 17
          have ek5_25_0_20 : (g5 25 0 20).toInt = (g1 25 0 20).toInt := by rw [hF5q 25 0 20 rfl]
          have c5_25_0_20x : zB (g5 25 0 20) 0 11 := by rw [hF5q 25 0 20 rfl]; exact c1_25_0_20x
          have h185 : g5 25 0 16 = nI n := (hF5q 25 0 16 rfl).trans h181
          have hTp5 : ∀ i, i < n → g5 36 0 i = T i := fun i hi => (hF5q 36 0 i rfl).trans (hTp1 i hi)
          have kk38_5 : ∀ x j, g5 38 x j = f 38 x j := fun x j => (hF5q 38 x j rfl).trans (kk38_1 x j)
          rcases hp5 with ⟨hc5, rfl, hq5, hb5⟩ | ⟨hc5, rfl, hq5⟩
          · skip
            refine z_if_eq (pc := 145) 164 C dX10_readPaper_145 (by decide) (fun h => absurd h (by decide)) (fun _ => ?_)
            refine z_aload_n (pc := 148) C dX10_readPaper_148 rfl ?_
            refine z_iconst (pc := 149) (v := 1) C dX10_readPaper_149 (by decide) ?_
            refine z_bipush (pc := 150) (v := 99) C dX10_readPaper_150 (by decide) ?_
            refine z_callV (pc := 152) C zk_X10_230 (e_X10_readNumber _ _ 1 (zB.wk (a' := 0) (b' := 40) (zB.of (x := 1) 1 (by decide)) (by decide) (by decide)) 99 (zB.wk (a' := 0) (b' := 99) (zB.of (x := 99) 99 (by decide)) (by decide) (by decide)) T n (zsp T n (zsp T n ((g86_ 25 0 17).toInt.toNat)) + 1) hN h185 hTp5 hq5 hb5 hI5) rfl rfl (by decide) rfl rfl (Nat.le_of_ble_eq_true rfl) dX10_readPaper_152 (fun r6 g6 q6 => ?_)
            obtain ⟨⟨v6, rfl, b6x⟩, hI6, hF6q, hp6⟩ := q6
            have hp6 := hp6 _ rfl
            have hF6 := zFr.tr hF5 hF6q (by decide)
            simp only [Option.toList, List.cons_append, List.nil_append]
            have cr6_25_0_17 : zB (g6 25 0 17) 0 120 := hI6 25 0 17
            have ek6_25_0_20 : (g6 25 0 20).toInt = (g5 25 0 20).toInt := by rw [hF6q 25 0 20 rfl]
            have c6_25_0_20x : zB (g6 25 0 20) 0 11 := by rw [hF6q 25 0 20 rfl]; exact c5_25_0_20x
            rcases hp6 with ⟨u6, hc6, hb6, hq6, rfl⟩ | ⟨u6, hc6, hq6, hb6, hlo6, hhi6⟩
            · skip
              have hd6 : znu T n 1 99 (zsp T n (zsp T n ((g86_ 25 0 17).toInt.toNat)) + 1) = _ := hc6
              have h186 : g6 25 0 16 = nI n := (hF6q 25 0 16 rfl).trans h185
              have hTp6 : ∀ i, i < n → g6 36 0 i = T i := fun i hi => (hF6q 36 0 i rfl).trans (hTp5 i hi)
              have kk38_6 : ∀ x j, g6 38 x j = f 38 x j := fun x j => (hF6q 38 x j rfl).trans (kk38_5 x j)
              refine z_istore (pc := 155) C dX10_readPaper_155 (by rw [hn]; decide) rfl ?_
              refine z_iload (pc := 157) C dX10_readPaper_157 rfl ?_
              refine z_if_ge (pc := 159) 164 C dX10_readPaper_159 (by decide) (fun h159_6 => absurd h159_6 (by decide)) (fun h159_6 => ?_)
              refine z_iconst (pc := 162) (v := 0) C dX10_readPaper_162 (by decide) ?_
              exact z_zret (pc := 163) C hr (z01 (zB.wk (a' := 0) (b' := 1) (zB.of (x := 0) 0 (by decide)) (by decide) (by decide))) dX10_readPaper_163 ⟨⟨_, rfl, (zB.wk (a' := 0) (b' := 1) (zB.of (x := 0) 0 (by decide)) (by decide) (by decide))⟩, hI6, hF6, (by
                                                                                          intro v hv; cases hv
                                                                                          refine Or.inl ⟨_, ?_, hb6, hq6, rfl⟩
                                                                                          rw [hZ86]
                                                                                          unfold zPb
                                                                                          simp only [zbd, if_pos hc5, hd6])⟩
            · skip
              have hd6 : znu T n 1 99 (zsp T n (zsp T n ((g86_ 25 0 17).toInt.toNat)) + 1) = _ := hc6
              have h186 : g6 25 0 16 = nI n := (hF6q 25 0 16 rfl).trans h185
              have hTp6 : ∀ i, i < n → g6 36 0 i = T i := fun i hi => (hF6q 36 0 i rfl).trans (hTp5 i hi)
              have kk38_6 : ∀ x j, g6 38 x j = f 38 x j := fun x j => (hF6q 38 x j rfl).trans (kk38_5 x j)
              have bo6x : zB v6 1 99 := by have qk6_0 : (1 : Int32).toInt = 1 := (by decide); have qk6_1 : (99 : Int32).toInt = 99 := (by decide); constructor <;> omega
              refine z_istore (pc := 155) C dX10_readPaper_155 (by rw [hn]; decide) rfl ?_
              refine z_iload (pc := 157) C dX10_readPaper_157 rfl ?_
              refine z_if_ge (pc := 159) 164 C dX10_readPaper_159 (by decide) (fun h159_7 => ?_) (fun h159_7 => absurd h159_7 (by have q1 := bo6x; have q2 := (zB.of (x := 0) 0 (by decide)); first | (simp only [z32lt, z32le, z32eq]; omega) | (simp only [z32lt, z32le, z32eq] at *; omega)))
              refine z_iconst (pc := 164) (v := 0) C dX10_readPaper_164 (by decide) ?_
              refine z_istore (pc := 165) C dX10_readPaper_165 (by rw [hn]; decide) rfl ?_
              refine z_aload_n (pc := 167) C dX10_readPaper_167 rfl ?_
              refine z_bipush (pc := 168) (v := 43) C dX10_readPaper_168 (by decide) ?_
              refine z_callV (pc := 170) C zk_X10_227 (e_X10_takes _ _ 43 (zB.wk (a' := 1) (b' := 126) (zB.of (x := 43) 43 (by decide)) (by decide) (by decide)) T n (u6) hN h186 hTp6 hq6 hb6 hI6) rfl rfl (by decide) rfl rfl (Nat.le_of_ble_eq_true rfl) dX10_readPaper_170 (fun r9 g9 q9 => ?_)
              obtain ⟨⟨v9, rfl, b9x⟩, hI9, hF9q, hp9⟩ := q9
              have hp9 := hp9 _ rfl
              have hF9 := zFr.tr hF6 hF9q (by decide)
              simp only [Option.toList, List.cons_append, List.nil_append]
              have cr9_25_0_17 : zB (g9 25 0 17) 0 120 := hI9 25 0 17
              have ek9_25_0_20 : (g9 25 0 20).toInt = (g6 25 0 20).toInt := by rw [hF9q 25 0 20 rfl]
              have c9_25_0_20x : zB (g9 25 0 20) 0 11 := by rw [hF9q 25 0 20 rfl]; exact c6_25_0_20x
              have h189 : g9 25 0 16 = nI n := (hF9q 25 0 16 rfl).trans h186
              have hTp9 : ∀ i, i < n → g9 36 0 i = T i := fun i hi => (hF9q 36 0 i rfl).trans (hTp6 i hi)
              have kk38_9 : ∀ x j, g9 38 x j = f 38 x j := fun x j => (hF9q 38 x j rfl).trans (kk38_6 x j)
              rcases hp9 with ⟨hc9, rfl, hq9, hb9⟩ | ⟨hc9, rfl, hq9⟩
              · skip
                refine z_if_eq (pc := 173) 220 C dX10_readPaper_173 (by decide) (fun h => absurd h (by decide)) (fun _ => ?_)
                exact ih1 a86_2 b86_2 (by have qc0 : (0 : Int32).toInt = 0 := (by decide); omega) a86_3 b86_3 a86_4 b86_4 a86_5 b86_5 a86_6 b86_6 v6 (zB.wk (a' := 0) (b' := 99) bo6x (by decide) (by decide)) 0 (zB.wk (a' := 0) (b' := 7) (zB.of (x := 0) 0 (by decide)) (by decide) (by decide)) g9 hI9 hF9 cr9_25_0_17 c9_25_0_20x (by exact h189) (by exact hTp9) (by rw [hq9, nI_tt (by have := hb9; omega)]; exact hb9) (by have qc0 : (0 : Int32).toInt = 0 := (by decide); omega) (by have qc0 : (0 : Int32).toInt = 0 := (by decide); omega) (by exact kk38_9) (by
                                                                                          refine ⟨4, by decide, ?_⟩
                                                                                          rw [hZ86, hq9, nI_tt (by have := hb9; omega)]
                                                                                          unfold zPb zprR
                                                                                          simp only [zbd, if_pos hc5, hd6, if_pos hc9]) (by have qc0 : (0 : Int32).toInt = 0 := (by decide); omega)
              · skip
                have hb9 : zsp T n (u6) ≤ n := zsp_len hb6
                refine z_if_eq (pc := 173) 220 C dX10_readPaper_173 (by decide) (fun _ => ?_) (fun h => absurd (by decide) h)
                exact ih2 a86_2 b86_2 (by have qc0 : (0 : Int32).toInt = 0 := (by decide); omega) a86_3 b86_3 a86_4 b86_4 a86_5 b86_5 a86_6 b86_6 v6 (zB.wk (a' := 0) (b' := 99) bo6x (by decide) (by decide)) 0 (zB.wk (a' := 0) (b' := 7) (zB.of (x := 0) 0 (by decide)) (by decide) (by decide)) g9 hI9 hF9 cr9_25_0_17 c9_25_0_20x (by exact h189) (by exact hTp9) (by rw [hq9, nI_tt (by have := hb9; omega)]; exact hb9) (by have qc0 : (0 : Int32).toInt = 0 := (by decide); omega) (by have qc0 : (0 : Int32).toInt = 0 := (by decide); omega) (by exact kk38_9) (by
                                                                                          rw [hq9, nI_tt (by have := hb9; omega), hZ86]
                                                                                          unfold zPb
                                                                                          simp only [zbd, if_pos hc5, hd6, if_neg hc9]) (by have qc0 : (0 : Int32).toInt = 0 := (by decide); omega)
          · skip
            have hb5 : zsp T n (zsp T n ((g86_ 25 0 17).toInt.toNat)) ≤ n := zsp_len hb1
            refine z_if_eq (pc := 145) 164 C dX10_readPaper_145 (by decide) (fun _ => ?_) (fun h => absurd (by decide) h)
            refine z_iconst (pc := 164) (v := 0) C dX10_readPaper_164 (by decide) ?_
            refine z_istore (pc := 165) C dX10_readPaper_165 (by rw [hn]; decide) rfl ?_
            refine z_aload_n (pc := 167) C dX10_readPaper_167 rfl ?_
            refine z_bipush (pc := 168) (v := 43) C dX10_readPaper_168 (by decide) ?_
            refine z_callV (pc := 170) C zk_X10_227 (e_X10_takes _ _ 43 (zB.wk (a' := 1) (b' := 126) (zB.of (x := 43) 43 (by decide)) (by decide) (by decide)) T n (zsp T n (zsp T n ((g86_ 25 0 17).toInt.toNat))) hN h185 hTp5 hq5 hb5 hI5) rfl rfl (by decide) rfl rfl (Nat.le_of_ble_eq_true rfl) dX10_readPaper_170 (fun r10 g10 q10 => ?_)
            obtain ⟨⟨v10, rfl, b10x⟩, hI10, hF10q, hp10⟩ := q10
            have hp10 := hp10 _ rfl
            have hF10 := zFr.tr hF5 hF10q (by decide)
            simp only [Option.toList, List.cons_append, List.nil_append]
            have cr10_25_0_17 : zB (g10 25 0 17) 0 120 := hI10 25 0 17
            have ek10_25_0_20 : (g10 25 0 20).toInt = (g5 25 0 20).toInt := by rw [hF10q 25 0 20 rfl]
            have c10_25_0_20x : zB (g10 25 0 20) 0 11 := by rw [hF10q 25 0 20 rfl]; exact c5_25_0_20x
            have h1810 : g10 25 0 16 = nI n := (hF10q 25 0 16 rfl).trans h185
            have hTp10 : ∀ i, i < n → g10 36 0 i = T i := fun i hi => (hF10q 36 0 i rfl).trans (hTp5 i hi)
            have kk38_10 : ∀ x j, g10 38 x j = f 38 x j := fun x j => (hF10q 38 x j rfl).trans (kk38_5 x j)
            rcases hp10 with ⟨hc10, rfl, hq10, hb10⟩ | ⟨hc10, rfl, hq10⟩
            · skip
              refine z_if_eq (pc := 173) 220 C dX10_readPaper_173 (by decide) (fun h => absurd h (by decide)) (fun _ => ?_)
              exact ih1 a86_2 b86_2 (by have qc0 : (0 : Int32).toInt = 0 := (by decide); omega) a86_3 b86_3 a86_4 b86_4 a86_5 b86_5 a86_6 b86_6 0 (zB.wk (a' := 0) (b' := 99) (zB.of (x := 0) 0 (by decide)) (by decide) (by decide)) 0 (zB.wk (a' := 0) (b' := 7) (zB.of (x := 0) 0 (by decide)) (by decide) (by decide)) g10 hI10 hF10 cr10_25_0_17 c10_25_0_20x (by exact h1810) (by exact hTp10) (by rw [hq10, nI_tt (by have := hb10; omega)]; exact hb10) (by have qc0 : (0 : Int32).toInt = 0 := (by decide); omega) (by have qc0 : (0 : Int32).toInt = 0 := (by decide); omega) (by exact kk38_10) (by
                                                                                          refine ⟨4, by decide, ?_⟩
                                                                                          rw [hZ86, hq10, nI_tt (by have := hb10; omega)]
                                                                                          unfold zPb zprR
                                                                                          simp only [zbd, if_neg hc5, if_pos hc10]) (by have qc0 : (0 : Int32).toInt = 0 := (by decide); omega)
            · skip
              have hb10 : zsp T n (zsp T n (zsp T n ((g86_ 25 0 17).toInt.toNat))) ≤ n := zsp_len hb5
              refine z_if_eq (pc := 173) 220 C dX10_readPaper_173 (by decide) (fun _ => ?_) (fun h => absurd (by decide) h)
              exact ih2 a86_2 b86_2 (by have qc0 : (0 : Int32).toInt = 0 := (by decide); omega) a86_3 b86_3 a86_4 b86_4 a86_5 b86_5 a86_6 b86_6 0 (zB.wk (a' := 0) (b' := 99) (zB.of (x := 0) 0 (by decide)) (by decide) (by decide)) 0 (zB.wk (a' := 0) (b' := 7) (zB.of (x := 0) 0 (by decide)) (by decide) (by decide)) g10 hI10 hF10 cr10_25_0_17 c10_25_0_20x (by exact h1810) (by exact hTp10) (by rw [hq10, nI_tt (by have := hb10; omega)]; exact hb10) (by have qc0 : (0 : Int32).toInt = 0 := (by decide); omega) (by have qc0 : (0 : Int32).toInt = 0 := (by decide); omega) (by exact kk38_10) (by
                                                                                          rw [hq10, nI_tt (by have := hb10; omega), hZ86]
                                                                                          unfold zPb
                                                                                          simp only [zbd, if_neg hc5, if_neg hc10]) (by have qc0 : (0 : Int32).toInt = 0 := (by decide); omega)
        · skip
          have b11x : zB v2 1 16 := by have q1 := b2x; have q2 := (zB.of (x := 0) 0 (by decide)); simp only [z32lt, z32le, z32eq, Int32.reduceToInt, Int32.toInt_zero] at h93_2; constructor <;> omega
          have b12x : zB v1 0 255 := by first | assumption | (constructor <;> omega)
          refine z_iload (pc := 96) C dX10_readPaper_96 rfl ?_
          refine z_aload_n (pc := 98) C dX10_readPaper_98 rfl ?_
          refine z_callV (pc := 99) C zk_X10_214 (e_X10_next _ _ T n (zsp T n ((g86_ 25 0 17).toInt.toNat)) hN h181 hTp1 hq1 hb1 hI1) rfl rfl (by decide) rfl rfl (Nat.le_of_ble_eq_true rfl) dX10_readPaper_99 (fun r13 g13 q13 => ?_)
          obtain ⟨⟨v13, rfl, b13x⟩, hI13, hF13q, hp13⟩ := q13
          have hp13 := hp13 _ rfl
          have hF13 := zFr.tr hF1 hF13q (by decide)
          simp only [Option.toList, List.cons_append, List.nil_append]
          have cr13_25_0_17 : zB (g13 25 0 17) 0 120 := hI13 25 0 17
          have ek13_25_0_20 : (g13 25 0 20).toInt = (g1 25 0 20).toInt := by rw [hF13q 25 0 20 rfl]
          have c13_25_0_20x : zB (g13 25 0 20) 0 11 := by rw [hF13q 25 0 20 rfl]; exact c1_25_0_20x
          obtain ⟨hv13, hq13, hj13⟩ := hp13
          rw [zsp_idem] at hv13 hq13
          have h1813 : g13 25 0 16 = nI n := (hF13q 25 0 16 rfl).trans h181
          have hTp13 : ∀ i, i < n → g13 36 0 i = T i := fun i hi => (hF13q 36 0 i rfl).trans (hTp1 i hi)
          have kk38_13 : ∀ x j, g13 38 x j = f 38 x j := fun x j => (hF13q 38 x j rfl).trans (kk38_1 x j)
          have ez13 : (g13 25 0 17).toInt = ((zsp T n ((g86_ 25 0 17).toInt.toNat) : Nat) : Int) := by rw [hq13]; exact nI_toInt (by have := hb1; omega)
          refine z_callS (pc := 102) C zk_X10_236 (x_X10_barOf _ _ v13 b13x hI13) rfl rfl (Nat.le_of_ble_eq_true rfl) dX10_readPaper_102 (fun r14 g14 q14 => ?_)
          obtain ⟨⟨v14, rfl, b14x⟩, hI14, hF14q, hp14_0, hp14_1⟩ := q14
          have hp14_0 := hp14_0 _ rfl
          have hp14_1 := hp14_1 _ rfl
          obtain rfl := zFr_nil hF14q
          simp only [Option.toList, List.cons_append, List.nil_append]
          refine z_iand (pc := 105) C dX10_readPaper_105 ?_
          refine w_gp (fun v => v = a86_6 &&& v14) rfl (fun v15 q15 => ?_)
          have b15x : zB v15 0 16 := by rw [q15]; exact (zand_b b86_6 b14x (by decide))
          refine z_if_eq (pc := 106) 111 C dX10_readPaper_106 (by decide) (fun h106_15 => ?_) (fun h106_15 => ?_)
          · skip
            have b17x : zB v15 0 0 := by have q1 := b15x; have q2 := (zB.of (x := 0) 0 (by decide)); simp only [z32lt, z32le, z32eq, Int32.reduceToInt, Int32.toInt_zero] at h106_15; constructor <;> omega
            refine z_iload (pc := 111) C dX10_readPaper_111 rfl ?_
            refine z_aload_n (pc := 113) C dX10_readPaper_113 rfl ?_
            refine z_callV (pc := 114) C zk_X10_214 (e_X10_next _ _ T n (zsp T n ((g86_ 25 0 17).toInt.toNat)) hN h1813 hTp13 hq13 hb1 hI13) rfl rfl (by decide) rfl rfl (Nat.le_of_ble_eq_true rfl) dX10_readPaper_114 (fun r18 g18 q18 => ?_)
            obtain ⟨⟨v18, rfl, b18x⟩, hI18, hF18q, hp18⟩ := q18
            have hp18 := hp18 _ rfl
            have hF18 := zFr.tr hF13 hF18q (by decide)
            simp only [Option.toList, List.cons_append, List.nil_append]
            have cr18_25_0_17 : zB (g18 25 0 17) 0 120 := hI18 25 0 17
            have ek18_25_0_20 : (g18 25 0 20).toInt = (g13 25 0 20).toInt := by rw [hF18q 25 0 20 rfl]
            have c18_25_0_20x : zB (g18 25 0 20) 0 11 := by rw [hF18q 25 0 20 rfl]; exact c13_25_0_20x
            obtain ⟨hv18, hq18, hj18⟩ := hp18
            rw [zsp_idem] at hv18 hq18
            have h1818 : g18 25 0 16 = nI n := (hF18q 25 0 16 rfl).trans h1813
            have hTp18 : ∀ i, i < n → g18 36 0 i = T i := fun i hi => (hF18q 36 0 i rfl).trans (hTp13 i hi)
            have kk38_18 : ∀ x j, g18 38 x j = f 38 x j := fun x j => (hF18q 38 x j rfl).trans (kk38_13 x j)
            have ez18 : (g18 25 0 17).toInt = ((zsp T n ((g86_ 25 0 17).toInt.toNat) : Nat) : Int) := by rw [hq18]; exact nI_toInt (by have := hb1; omega)
            refine z_callS (pc := 117) C zk_X10_236 (x_X10_barOf _ _ v18 b18x hI18) rfl rfl (Nat.le_of_ble_eq_true rfl) dX10_readPaper_117 (fun r19 g19 q19 => ?_)
            obtain ⟨⟨v19, rfl, b19x⟩, hI19, hF19q, hp19_0, hp19_1⟩ := q19
            have hp19_0 := hp19_0 _ rfl
            have hp19_1 := hp19_1 _ rfl
            obtain rfl := zFr_nil hF19q
            simp only [Option.toList, List.cons_append, List.nil_append]
            refine z_ior (pc := 120) C dX10_readPaper_120 ?_
            refine w_gp (fun v => v = a86_6 ||| v19) rfl (fun v20 q20 => ?_)
            have b20x : zB v20 0 31 := by rw [q20]; exact (zor_b 5 b86_6 b19x (by decide) (by decide) (by decide) (by decide) (by decide))
            refine z_istore (pc := 121) C dX10_readPaper_121 (by rw [hn]; decide) rfl ?_
            refine z_aload_n (pc := 123) C dX10_readPaper_123 rfl ?_
            refine z_dupr (pc := 124) C dX10_readPaper_124 ?_
            have qat125 : v18.toInt = v1.toInt := by rw [hv18, hv1]
            have c21x : zB (g18 25 0 17) 0 119 := by first | assumption | (constructor <;> omega)
            refine z_getI (pc := 125) C zf_X10_211 rfl rfl (by decide) dX10_readPaper_125 ?_
            refine w_gp (fun v => v = g18 25 0 17) rfl (fun v22 q22 => ?_)
            have e22 : v22.toInt = (g18 25 0 17).toInt := by rw [q22]
            have b22x : zB v22 0 119 := by first | exact zB.eqv e22 c21x | (have q9 := c21x; constructor <;> omega)
            refine z_iconst (pc := 128) (v := 1) C dX10_readPaper_128 (by decide) ?_
            refine z_iadd (pc := 129) C dX10_readPaper_129 ?_
            refine w_gp (fun v => v = v22 + (1 : Int32)) rfl (fun v23 q23 => ?_)
            have e23 : v23.toInt = v22.toInt + 1 := by rw [q23]; exact (zadd_eb b22x (zB.of (x := 1) 1 (by decide)) (by decide) (by decide))
            have b23x : zB v23 1 120 := by have q1 := b22x; have q2 := (zB.of (x := 1) 1 (by decide)); constructor <;> omega
            refine z_putI (pc := 130) C zf_X10_211 zp_10_17 rfl rfl (by decide) dX10_readPaper_130 ?_
            refine w_memx hI18 hF18 (zB.wk (a' := 0) (b' := 120) b23x (by decide) (by decide)) rfl (fun g24 qm24 hI24 hF24 hq24 hx24 => ?_)
            have ec24 : (g24 25 0 17).toInt = v23.toInt := by rw [hx24]
            have c24x : zB (g24 25 0 17) 1 120 := by first | exact zB.eqv ec24 b23x | (have q9 := b23x; constructor <;> omega)
            have ek24_25_0_20 : (g24 25 0 20).toInt = (g18 25 0 20).toInt := by rw [hq24 25 0 20 (fun h => absurd h.2 (by decide))]
            have c24_25_0_20x : zB (g24 25 0 20) 0 11 := by rw [hq24 25 0 20 (fun h => absurd h.2 (by decide))]; exact c18_25_0_20x
            have h1824 : g24 25 0 16 = nI n := by rw [qm24]; exact (zup_ne _ _ (fun h => absurd h.2.2 (by decide))).trans h1818
            have hTp24 : ∀ i, i < n → g24 36 0 i = T i := fun i hi => by rw [qm24]; exact (zup_ne _ _ (fun h => absurd h.1 (by decide))).trans (hTp18 i hi)
            have hq24 : g24 25 0 17 = nI (zsp T n ((g86_ 25 0 17).toInt.toNat) + 1) := by rw [qm24, zup_same, q23, q22, hq18, nI_succ]
            have hb24 : zsp T n ((g86_ 25 0 17).toInt.toNat) + 1 ≤ n := zch_lt (fun h => by rw [← hv1, z32eq] at h; have c1 : (-1 : Int32).toInt = -1 := (by decide); omega)
            have ez24 : (g24 25 0 17).toInt = ((zsp T n ((g86_ 25 0 17).toInt.toNat) + 1 : Nat) : Int) := by rw [hq24]; exact nI_toInt (by have := hb24; omega)
            have kk38_24 : ∀ x j, g24 38 x j = f 38 x j := fun x j => by rw [qm24]; exact (zup_ne _ _ (fun h => absurd h.1 (by decide))).trans (kk38_18 x j)
            refine z_goto (pc := 133) 86 C dX10_readPaper_133 (by decide) ?_
            exact ih0 a86_2 b86_2 (by omega) a86_3 b86_3 a86_4 b86_4 a86_5 b86_5 v20 b20x g24 hI24 hF24 (zB.wk c24x (by decide) (by decide)) c24_25_0_20x (by exact h1824) (by exact hTp24) (by rw [hq24, nI_tt (by have := hb24; omega)]; exact hb24) (by omega) (by omega) (by exact kk38_24) (by
                                                                                          obtain ⟨K, hK1, hK2⟩ := hR86_6
                                                                                          have z5 := zpc_5 (b := a86_6) b86_6
                                                                                          obtain ⟨K, rfl⟩ : ∃ K2, K = K2 + 1 := ⟨K - 1, by omega⟩
                                                                                          have w0 : v2 = zpb (zch T n (zsp T n ((g86_ 25 0 17).toInt.toNat))) := by rw [hp2_0, hv1]
                                                                                          have w1 : v14 = zpb (zch T n (zsp T n ((g86_ 25 0 17).toInt.toNat))) := by rw [hp14_0, hv13]
                                                                                          have w2 : v19 = zpb (zch T n (zsp T n ((g86_ 25 0 17).toInt.toNat))) := by rw [hp19_0, hv18]
                                                                                          have hz : a86_6 &&& zpb (zch T n (zsp T n ((g86_ 25 0 17).toInt.toNat))) = 0 := by rw [← w1, ← q15]; assumption
                                                                                          have hpos : 0 < (zpb (zch T n (zsp T n ((g86_ 25 0 17).toInt.toNat)))).toInt := by rw [← w0]; omega
                                                                                          refine ⟨K, ?_, ?_⟩
                                                                                          · rw [q20, w2, zpc_b b86_6 hpos hz]; omega
                                                                                          · rw [hK2, zrb_s, if_neg (by omega), if_neg (fun h => h hz), q20, w2, hq24, nI_tt (by have := hb24; omega)]) (by omega)
          · skip
            have b25x : zB v15 1 16 := by have q1 := b15x; have q2 := (zB.of (x := 0) 0 (by decide)); simp only [z32lt, z32le, z32eq, Int32.reduceToInt, Int32.toInt_zero] at h106_15; constructor <;> omega
            refine z_iconst (pc := 109) (v := 0) C dX10_readPaper_109 (by decide) ?_
            exact z_zret (pc := 110) C hr (z01 (zB.wk (a' := 0) (b' := 1) (zB.of (x := 0) 0 (by decide)) (by decide) (by decide))) dX10_readPaper_110 ⟨⟨_, rfl, (zB.wk (a' := 0) (b' := 1) (zB.of (x := 0) 0 (by decide)) (by decide) (by decide))⟩, hI13, hF13, (by
                                                                                          intro v hv; cases hv
                                                                                          obtain ⟨K, hK1, hK2⟩ := hR86_6
                                                                                          have z5 := zpc_5 (b := a86_6) b86_6
                                                                                          obtain ⟨K, rfl⟩ : ∃ K2, K = K2 + 1 := ⟨K - 1, by omega⟩
                                                                                          have w0 : v2 = zpb (zch T n (zsp T n ((g86_ 25 0 17).toInt.toNat))) := by rw [hp2_0, hv1]
                                                                                          have w1 : v14 = zpb (zch T n (zsp T n ((g86_ 25 0 17).toInt.toNat))) := by rw [hp14_0, hv13]
                                                                                          have hz : ¬ a86_6 &&& zpb (zch T n (zsp T n ((g86_ 25 0 17).toInt.toNat))) = 0 := by rw [← w1, ← q15]; assumption
                                                                                          refine Or.inl ⟨_, ?_, hb1, hq13, rfl⟩
                                                                                          rw [hK2, zrb_s, if_neg (by rw [← w0]; omega), if_pos hz]
                                                                                          rfl)⟩

set_option maxRecDepth 100000 in
set_option maxHeartbeats 4000000 in
theorem e_X10_readPaper_n1 (d : Nat) (f : zM) (a1 : Int32) (b1 : zB a1 0 5) (pf25_0_20 : zB (f 25 0 20) 0 11) (T : Nat → Int32) (n p : Nat) (hN : n ≤ 120) (h18 : f 25 0 16 = nI n) (hTp : ∀ i, i < n → f 36 0 i = T i) (hp : f 25 0 17 = nI p) (hb : p ≤ n) (hI : zInv f) (X : zX) (C : zC X cX10_readPaper yX10_readPaper.cls (d + 2)) (hr : zRet X (some .boolean) (fun r g => (∃ v, r = some (zi v) ∧ zB v 0 1) ∧ zInv g ∧ zFr [(25, some 17), (25, some 20), (38, none)] f g ∧ (∀ v : Int32, r = some (zi v) → (∃ e, zpaR T n a1 p = .inl e ∧ e ≤ n ∧ g 25 0 17 = nI e ∧ v = 0) ∨ (∃ q c, zpaR T n a1 p = .inr (c, q) ∧ g 25 0 17 = nI q ∧ q ≤ n ∧ v = 1 ∧ g 25 0 20 = f 25 0 20 + 1 ∧ (∀ j, j < 8 → g 38 0 (8 * (f 25 0 20).toInt.toNat + j) = c j) ∧ (∀ x, (x < 8 * (f 25 0 20).toInt.toNat ∨ 8 * (f 25 0 20).toInt.toNat + 8 ≤ x) → g 38 0 x = f 38 0 x))))) (hn : znL X = 9) (t : Nat) (ih0 : (∀ a86_2 : Int32, zB a86_2 0 88 → a86_2.toInt % 8 = 0 → ∀ a86_3 : Int32, zB a86_3 0 5 → ∀ a86_4 : Int32, zB a86_4 0 1 → ∀ a86_5 : Int32, zB a86_5 1 40 → ∀ a86_6 : Int32, zB a86_6 0 31 → ∀ g : zM, zInv g → zFr [(25, some 17), (25, some 20), (38, none)] f g → zB (g 25 0 17) 0 120 → zB (g 25 0 20) 0 11 → (g 25 0 16 = nI n) → (∀ i, i < n → g 36 0 i = T i) → ((g 25 0 17).toInt.toNat ≤ n) → ((g 25 0 20).toInt = (f 25 0 20).toInt) → (a86_2.toInt = 8 * (f 25 0 20).toInt) → (∀ x j, g 38 x j = f 38 x j) → (∃ K : Nat, K + zpc a86_6 = 6 ∧ zpaR T n a1 p = zbd (zrb T n K ((g 25 0 17).toInt.toNat) a86_6) (fun bars p3 => zPb (zprR T n) T n (zkd a86_4) a1 a86_3 a86_5 bars p3)) → (607 + 610 * (120 - (g 25 0 17).toInt) : Int) < t → Z X 86 [some (zr 25 0), some (zi a1), some (zi a86_2), some (zi a86_3), some (zi a86_4), some (zi a86_5), some (zi a86_6), none, none] [] g)) (ih1 : (∀ a176_2 : Int32, zB a176_2 0 88 → a176_2.toInt % 8 = 0 → ∀ a176_3 : Int32, zB a176_3 0 5 → ∀ a176_4 : Int32, zB a176_4 0 1 → ∀ a176_5 : Int32, zB a176_5 1 40 → ∀ a176_6 : Int32, zB a176_6 0 31 → ∀ a176_7 : Int32, zB a176_7 0 99 → ∀ a176_8 : Int32, zB a176_8 0 7 → ∀ g : zM, zInv g → zFr [(25, some 17), (25, some 20), (38, none)] f g → zB (g 25 0 17) 0 120 → zB (g 25 0 20) 0 11 → (g 25 0 16 = nI n) → (∀ i, i < n → g 36 0 i = T i) → ((g 25 0 17).toInt.toNat ≤ n) → ((g 25 0 20).toInt = (f 25 0 20).toInt) → (a176_2.toInt = 8 * (f 25 0 20).toInt) → (∀ x j, g 38 x j = f 38 x j) → (∃ K : Nat, K + zpc a176_8 = 4 ∧ zpaR T n a1 p = zbd (zrp T n K ((g 25 0 17).toInt.toNat) a176_8) (fun prm p5 => .inr (zc8 (zkd a176_4) a1 a176_3 a176_5 0 a176_6 a176_7 prm, p5))) → (1 + 5 * (120 - (g 25 0 17).toInt) : Int) < t → Z X 176 [some (zr 25 0), some (zi a1), some (zi a176_2), some (zi a176_3), some (zi a176_4), some (zi a176_5), some (zi a176_6), some (zi a176_7), some (zi a176_8)] [] g)) (ih2 : (∀ a220_2 : Int32, zB a220_2 0 88 → a220_2.toInt % 8 = 0 → ∀ a220_3 : Int32, zB a220_3 0 5 → ∀ a220_4 : Int32, zB a220_4 0 1 → ∀ a220_5 : Int32, zB a220_5 1 40 → ∀ a220_6 : Int32, zB a220_6 0 31 → ∀ a220_7 : Int32, zB a220_7 0 99 → ∀ a220_8 : Int32, zB a220_8 0 7 → ∀ g : zM, zInv g → zFr [(25, some 17), (25, some 20), (38, none)] f g → zB (g 25 0 17) 0 120 → zB (g 25 0 20) 0 11 → (g 25 0 16 = nI n) → (∀ i, i < n → g 36 0 i = T i) → ((g 25 0 17).toInt.toNat ≤ n) → ((g 25 0 20).toInt = (f 25 0 20).toInt) → (a220_2.toInt = 8 * (f 25 0 20).toInt) → (∀ x j, g 38 x j = f 38 x j) → (zpaR T n a1 p = .inr (zc8 (zkd a220_4) a1 a220_3 a220_5 0 a220_6 a220_7 a220_8, (g 25 0 17).toInt.toNat)) → (0 : Int) < t → Z X 220 [some (zr 25 0), some (zi a1), some (zi a220_2), some (zi a220_3), some (zi a220_4), some (zi a220_5), some (zi a220_6), some (zi a220_7), some (zi a220_8)] [] g)) : (∀ a176_2 : Int32, zB a176_2 0 88 → a176_2.toInt % 8 = 0 → ∀ a176_3 : Int32, zB a176_3 0 5 → ∀ a176_4 : Int32, zB a176_4 0 1 → ∀ a176_5 : Int32, zB a176_5 1 40 → ∀ a176_6 : Int32, zB a176_6 0 31 → ∀ a176_7 : Int32, zB a176_7 0 99 → ∀ a176_8 : Int32, zB a176_8 0 7 → ∀ g : zM, zInv g → zFr [(25, some 17), (25, some 20), (38, none)] f g → zB (g 25 0 17) 0 120 → zB (g 25 0 20) 0 11 → (g 25 0 16 = nI n) → (∀ i, i < n → g 36 0 i = T i) → ((g 25 0 17).toInt.toNat ≤ n) → ((g 25 0 20).toInt = (f 25 0 20).toInt) → (a176_2.toInt = 8 * (f 25 0 20).toInt) → (∀ x j, g 38 x j = f 38 x j) → (∃ K : Nat, K + zpc a176_8 = 4 ∧ zpaR T n a1 p = zbd (zrp T n K ((g 25 0 17).toInt.toNat) a176_8) (fun prm p5 => .inr (zc8 (zkd a176_4) a1 a176_3 a176_5 0 a176_6 a176_7 prm, p5))) → (1 + 5 * (120 - (g 25 0 17).toInt) : Int) < ((t + 1 : Nat) : Int) → Z X 176 [some (zr 25 0), some (zi a1), some (zi a176_2), some (zi a176_3), some (zi a176_4), some (zi a176_5), some (zi a176_6), some (zi a176_7), some (zi a176_8)] [] g) := by
        have hF : zFr [(25, some 17), (25, some 20), (38, none)] f f := zFr.rf _ _
        have ct25_0_17 : zB (f 25 0 17) 0 120 := hI 25 0 17
        intro a176_2 b176_2 n176_2 a176_3 b176_3 a176_4 b176_4 a176_5 b176_5 a176_6 b176_6 a176_7 b176_7 a176_8 b176_8 g176_ hI176_ hF176_ f176_25_0_17 f176_25_0_20 hR176_0 hR176_1 hR176_2 hR176_3 hR176_4 hR176_5 hR176_6 hM176_
        have hpl176 : g176_ 25 0 17 = nI ((g176_ 25 0 17).toInt.toNat) := (nI_ofI (hI176_ 25 0 17).1).1
        refine z_aload_n (pc := 176) C dX10_readPaper_176 rfl ?_
        refine z_callV (pc := 177) C zk_X10_214 (e_X10_next _ _ T n ((g176_ 25 0 17).toInt.toNat) hN hR176_0 hR176_1 hpl176 hR176_2 hI176_) rfl rfl (by decide) rfl rfl (Nat.le_of_ble_eq_true rfl) dX10_readPaper_177 (fun r26 g26 q26 => ?_)
        obtain ⟨⟨v26, rfl, b26x⟩, hI26, hF26q, hp26⟩ := q26
        have hp26 := hp26 _ rfl
        have hF26 := zFr.tr hF176_ hF26q (by decide)
        simp only [Option.toList, List.cons_append, List.nil_append]
        have cr26_25_0_17 : zB (g26 25 0 17) 0 120 := hI26 25 0 17
        have ek26_25_0_20 : (g26 25 0 20).toInt = (g176_ 25 0 20).toInt := by rw [hF26q 25 0 20 rfl]
        have c26_25_0_20x : zB (g26 25 0 20) 0 11 := by rw [hF26q 25 0 20 rfl]; exact f176_25_0_20
        obtain ⟨hv26, hq26, hj26⟩ := hp26
        have h1826 : g26 25 0 16 = nI n := (hF26q 25 0 16 rfl).trans hR176_0
        have hTp26 : ∀ i, i < n → g26 36 0 i = T i := fun i hi => (hF26q 36 0 i rfl).trans (hR176_1 i hi)
        have kk38_26 : ∀ x j, g26 38 x j = f 38 x j := fun x j => (hF26q 38 x j rfl).trans (hR176_5 x j)
        have hb26 : zsp T n ((g176_ 25 0 17).toInt.toNat) ≤ n := zsp_len hR176_2
        have ez26 : (g26 25 0 17).toInt = ((zsp T n ((g176_ 25 0 17).toInt.toNat) : Nat) : Int) := by rw [hq26]; exact nI_toInt (by have := hb26; omega)
        have zg26 := zsp_ge T n ((g176_ 25 0 17).toInt.toNat)
        refine z_callS (pc := 180) C zk_X10_239 (x_X10_promiseOf _ _ v26 b26x hI26) rfl rfl (Nat.le_of_ble_eq_true rfl) dX10_readPaper_180 (fun r27 g27 q27 => ?_)
        obtain ⟨⟨v27, rfl, b27x⟩, hI27, hF27q, hp27_0, hp27_1⟩ := q27
        have hp27_0 := hp27_0 _ rfl
        have hp27_1 := hp27_1 _ rfl
        obtain rfl := zFr_nil hF27q
        simp only [Option.toList, List.cons_append, List.nil_append]
        refine z_iload (pc := 183) C dX10_readPaper_183 rfl ?_
        refine z_icmp_le (pc := 185) 213 C dX10_readPaper_185 (by decide) (fun h185_27 => ?_) (fun h185_27 => ?_)
        · skip
          have rr29 : v27.toInt ≤ a176_8.toInt := by simp only [z32lt, z32le, z32eq] at h185_27; omega
          refine z_iload (pc := 213) C dX10_readPaper_213 rfl ?_
          refine z_if_ne (pc := 215) 220 C dX10_readPaper_215 (by decide) (fun h215_29 => ?_) (fun h215_29 => ?_)
          · skip
            have b31x : zB a176_8 1 7 := by have q1 := b176_8; have q2 := (zB.of (x := 0) 0 (by decide)); simp only [z32lt, z32le, z32eq, Int32.reduceToInt, Int32.toInt_zero] at h215_29; constructor <;> omega
            exact ih2 a176_2 b176_2 (by omega) a176_3 b176_3 a176_4 b176_4 a176_5 b176_5 a176_6 b176_6 a176_7 b176_7 a176_8 (zB.wk (a' := 0) (b' := 7) b31x (by decide) (by decide)) g26 hI26 hF26 cr26_25_0_17 c26_25_0_20x (by exact h1826) (by exact hTp26) (by rw [hq26, nI_tt (by have := hb26; omega)]; exact hb26) (by omega) (by omega) (by exact kk38_26) (by
                                                                                          obtain ⟨K, hK1, hK2⟩ := hR176_6
                                                                                          have z5 := zpc_3 (b := a176_8) b176_8
                                                                                          obtain ⟨K, rfl⟩ : ∃ K2, K = K2 + 1 := ⟨K - 1, by omega⟩
                                                                                          have w0 : v27 = zpp (zch T n (zsp T n ((g176_ 25 0 17).toInt.toNat))) := by rw [hp27_0, hv26]
                                                                                          rw [hq26, nI_tt (by have := hb26; omega), hK2, zrp_s, if_pos (by rw [← w0]; omega), if_neg (by assumption)]
                                                                                          rfl) (by omega)
          · skip
            have b32x : zB a176_8 0 0 := by have q1 := b176_8; have q2 := (zB.of (x := 0) 0 (by decide)); simp only [z32lt, z32le, z32eq, Int32.reduceToInt, Int32.toInt_zero] at h215_29; constructor <;> omega
            refine z_iconst (pc := 218) (v := 0) C dX10_readPaper_218 (by decide) ?_
            exact z_zret (pc := 219) C hr (z01 (zB.wk (a' := 0) (b' := 1) (zB.of (x := 0) 0 (by decide)) (by decide) (by decide))) dX10_readPaper_219 ⟨⟨_, rfl, (zB.wk (a' := 0) (b' := 1) (zB.of (x := 0) 0 (by decide)) (by decide) (by decide))⟩, hI26, hF26, (by
                                                                                          intro v hv; cases hv
                                                                                          obtain ⟨K, hK1, hK2⟩ := hR176_6
                                                                                          have z5 := zpc_3 (b := a176_8) b176_8
                                                                                          obtain ⟨K, rfl⟩ : ∃ K2, K = K2 + 1 := ⟨K - 1, by omega⟩
                                                                                          have w0 : v27 = zpp (zch T n (zsp T n ((g176_ 25 0 17).toInt.toNat))) := by rw [hp27_0, hv26]
                                                                                          refine Or.inl ⟨_, ?_, hb26, hq26, rfl⟩
                                                                                          rw [hK2, zrp_s, if_pos (by rw [← w0]; omega), if_pos (by assumption)]
                                                                                          rfl)⟩
        · skip
          have rr33 : v27.toInt > a176_8.toInt := by simp only [z32lt, z32le, z32eq] at h185_27; omega
          have b34x : zB v27 1 4 := by have q1 := b27x; have q2 := b176_8; simp only [z32lt, z32le, z32eq, Int32.reduceToInt, Int32.toInt_zero] at h185_27; constructor <;> omega
          have b35x : zB v26 0 255 := by first | assumption | (constructor <;> omega)
          have b36x : zB a176_8 0 3 := by have q1 := b27x; have q2 := b176_8; simp only [z32lt, z32le, z32eq, Int32.reduceToInt, Int32.toInt_zero] at h185_27; constructor <;> omega
          refine z_iload (pc := 188) C dX10_readPaper_188 rfl ?_
          refine z_aload_n (pc := 190) C dX10_readPaper_190 rfl ?_
          refine z_callV (pc := 191) C zk_X10_214 (e_X10_next _ _ T n (zsp T n ((g176_ 25 0 17).toInt.toNat)) hN h1826 hTp26 hq26 hb26 hI26) rfl rfl (by decide) rfl rfl (Nat.le_of_ble_eq_true rfl) dX10_readPaper_191 (fun r37 g37 q37 => ?_)
          obtain ⟨⟨v37, rfl, b37x⟩, hI37, hF37q, hp37⟩ := q37
          have hp37 := hp37 _ rfl
          have hF37 := zFr.tr hF26 hF37q (by decide)
          simp only [Option.toList, List.cons_append, List.nil_append]
          have cr37_25_0_17 : zB (g37 25 0 17) 0 120 := hI37 25 0 17
          have ek37_25_0_20 : (g37 25 0 20).toInt = (g26 25 0 20).toInt := by rw [hF37q 25 0 20 rfl]
          have c37_25_0_20x : zB (g37 25 0 20) 0 11 := by rw [hF37q 25 0 20 rfl]; exact c26_25_0_20x
          obtain ⟨hv37, hq37, hj37⟩ := hp37
          rw [zsp_idem] at hv37 hq37
          have h1837 : g37 25 0 16 = nI n := (hF37q 25 0 16 rfl).trans h1826
          have hTp37 : ∀ i, i < n → g37 36 0 i = T i := fun i hi => (hF37q 36 0 i rfl).trans (hTp26 i hi)
          have kk38_37 : ∀ x j, g37 38 x j = f 38 x j := fun x j => (hF37q 38 x j rfl).trans (kk38_26 x j)
          have ez37 : (g37 25 0 17).toInt = ((zsp T n ((g176_ 25 0 17).toInt.toNat) : Nat) : Int) := by rw [hq37]; exact nI_toInt (by have := hb26; omega)
          refine z_callS (pc := 194) C zk_X10_239 (x_X10_promiseOf _ _ v37 b37x hI37) rfl rfl (Nat.le_of_ble_eq_true rfl) dX10_readPaper_194 (fun r38 g38 q38 => ?_)
          obtain ⟨⟨v38, rfl, b38x⟩, hI38, hF38q, hp38_0, hp38_1⟩ := q38
          have hp38_0 := hp38_0 _ rfl
          have hp38_1 := hp38_1 _ rfl
          obtain rfl := zFr_nil hF38q
          simp only [Option.toList, List.cons_append, List.nil_append]
          refine z_ior (pc := 197) C dX10_readPaper_197 ?_
          refine w_gp (fun v => v = a176_8 ||| v38) rfl (fun v39 q39 => ?_)
          have b39x : zB v39 0 7 := by rw [q39]; exact (zor_b 3 b36x b38x (by decide) (by decide) (by decide) (by decide) (by decide))
          refine z_istore (pc := 198) C dX10_readPaper_198 (by rw [hn]; decide) rfl ?_
          refine z_aload_n (pc := 200) C dX10_readPaper_200 rfl ?_
          refine z_dupr (pc := 201) C dX10_readPaper_201 ?_
          have qat202 : v37.toInt = v26.toInt := by rw [hv37, hv26]
          have c40x : zB (g37 25 0 17) 0 119 := by first | assumption | (constructor <;> omega)
          refine z_getI (pc := 202) C zf_X10_211 rfl rfl (by decide) dX10_readPaper_202 ?_
          refine w_gp (fun v => v = g37 25 0 17) rfl (fun v41 q41 => ?_)
          have e41 : v41.toInt = (g37 25 0 17).toInt := by rw [q41]
          have b41x : zB v41 0 119 := by first | exact zB.eqv e41 c40x | (have q9 := c40x; constructor <;> omega)
          refine z_iconst (pc := 205) (v := 1) C dX10_readPaper_205 (by decide) ?_
          refine z_iadd (pc := 206) C dX10_readPaper_206 ?_
          refine w_gp (fun v => v = v41 + (1 : Int32)) rfl (fun v42 q42 => ?_)
          have e42 : v42.toInt = v41.toInt + 1 := by rw [q42]; exact (zadd_eb b41x (zB.of (x := 1) 1 (by decide)) (by decide) (by decide))
          have b42x : zB v42 1 120 := by have q1 := b41x; have q2 := (zB.of (x := 1) 1 (by decide)); constructor <;> omega
          refine z_putI (pc := 207) C zf_X10_211 zp_10_17 rfl rfl (by decide) dX10_readPaper_207 ?_
          refine w_memx hI37 hF37 (zB.wk (a' := 0) (b' := 120) b42x (by decide) (by decide)) rfl (fun g43 qm43 hI43 hF43 hq43 hx43 => ?_)
          have ec43 : (g43 25 0 17).toInt = v42.toInt := by rw [hx43]
          have c43x : zB (g43 25 0 17) 1 120 := by first | exact zB.eqv ec43 b42x | (have q9 := b42x; constructor <;> omega)
          have ek43_25_0_20 : (g43 25 0 20).toInt = (g37 25 0 20).toInt := by rw [hq43 25 0 20 (fun h => absurd h.2 (by decide))]
          have c43_25_0_20x : zB (g43 25 0 20) 0 11 := by rw [hq43 25 0 20 (fun h => absurd h.2 (by decide))]; exact c37_25_0_20x
          have h1843 : g43 25 0 16 = nI n := by rw [qm43]; exact (zup_ne _ _ (fun h => absurd h.2.2 (by decide))).trans h1837
          have hTp43 : ∀ i, i < n → g43 36 0 i = T i := fun i hi => by rw [qm43]; exact (zup_ne _ _ (fun h => absurd h.1 (by decide))).trans (hTp37 i hi)
          have hq43 : g43 25 0 17 = nI (zsp T n ((g176_ 25 0 17).toInt.toNat) + 1) := by rw [qm43, zup_same, q42, q41, hq37, nI_succ]
          have hb43 : zsp T n ((g176_ 25 0 17).toInt.toNat) + 1 ≤ n := zch_lt (fun h => by rw [← hv26, z32eq] at h; have c1 : (-1 : Int32).toInt = -1 := (by decide); omega)
          have ez43 : (g43 25 0 17).toInt = ((zsp T n ((g176_ 25 0 17).toInt.toNat) + 1 : Nat) : Int) := by rw [hq43]; exact nI_toInt (by have := hb43; omega)
          have kk38_43 : ∀ x j, g43 38 x j = f 38 x j := fun x j => by rw [qm43]; exact (zup_ne _ _ (fun h => absurd h.1 (by decide))).trans (kk38_37 x j)
          refine z_goto (pc := 210) 176 C dX10_readPaper_210 (by decide) ?_
          exact ih1 a176_2 b176_2 (by omega) a176_3 b176_3 a176_4 b176_4 a176_5 b176_5 a176_6 b176_6 a176_7 b176_7 v39 b39x g43 hI43 hF43 (zB.wk c43x (by decide) (by decide)) c43_25_0_20x (by exact h1843) (by exact hTp43) (by rw [hq43, nI_tt (by have := hb43; omega)]; exact hb43) (by omega) (by omega) (by exact kk38_43) (by
                                                                                          obtain ⟨K, hK1, hK2⟩ := hR176_6
                                                                                          have z5 := zpc_3 (b := a176_8) b176_8
                                                                                          obtain ⟨K, rfl⟩ : ∃ K2, K = K2 + 1 := ⟨K - 1, by omega⟩
                                                                                          have w0 : v27 = zpp (zch T n (zsp T n ((g176_ 25 0 17).toInt.toNat))) := by rw [hp27_0, hv26]
                                                                                          have w1 : v38 = zpp (zch T n (zsp T n ((g176_ 25 0 17).toInt.toNat))) := by rw [hp38_0, hv37]
                                                                                          have hpos : a176_8.toInt < (zpp (zch T n (zsp T n ((g176_ 25 0 17).toInt.toNat)))).toInt := by rw [← w0]; omega
                                                                                          refine ⟨K, ?_, ?_⟩
                                                                                          · rw [q39, w1, zpc_p b176_8 hpos]; omega
                                                                                          · rw [hK2, zrp_s, if_neg (by omega), q39, w1, hq43, nI_tt (by have := hb43; omega)]) (by omega)

set_option maxRecDepth 100000 in
set_option maxHeartbeats 4000000 in
theorem e_X10_readPaper_n2 (d : Nat) (f : zM) (a1 : Int32) (b1 : zB a1 0 5) (pf25_0_20 : zB (f 25 0 20) 0 11) (T : Nat → Int32) (n p : Nat) (hN : n ≤ 120) (h18 : f 25 0 16 = nI n) (hTp : ∀ i, i < n → f 36 0 i = T i) (hp : f 25 0 17 = nI p) (hb : p ≤ n) (hI : zInv f) (X : zX) (C : zC X cX10_readPaper yX10_readPaper.cls (d + 2)) (hr : zRet X (some .boolean) (fun r g => (∃ v, r = some (zi v) ∧ zB v 0 1) ∧ zInv g ∧ zFr [(25, some 17), (25, some 20), (38, none)] f g ∧ (∀ v : Int32, r = some (zi v) → (∃ e, zpaR T n a1 p = .inl e ∧ e ≤ n ∧ g 25 0 17 = nI e ∧ v = 0) ∨ (∃ q c, zpaR T n a1 p = .inr (c, q) ∧ g 25 0 17 = nI q ∧ q ≤ n ∧ v = 1 ∧ g 25 0 20 = f 25 0 20 + 1 ∧ (∀ j, j < 8 → g 38 0 (8 * (f 25 0 20).toInt.toNat + j) = c j) ∧ (∀ x, (x < 8 * (f 25 0 20).toInt.toNat ∨ 8 * (f 25 0 20).toInt.toNat + 8 ≤ x) → g 38 0 x = f 38 0 x))))) (hn : znL X = 9) (t : Nat) (ih0 : (∀ a86_2 : Int32, zB a86_2 0 88 → a86_2.toInt % 8 = 0 → ∀ a86_3 : Int32, zB a86_3 0 5 → ∀ a86_4 : Int32, zB a86_4 0 1 → ∀ a86_5 : Int32, zB a86_5 1 40 → ∀ a86_6 : Int32, zB a86_6 0 31 → ∀ g : zM, zInv g → zFr [(25, some 17), (25, some 20), (38, none)] f g → zB (g 25 0 17) 0 120 → zB (g 25 0 20) 0 11 → (g 25 0 16 = nI n) → (∀ i, i < n → g 36 0 i = T i) → ((g 25 0 17).toInt.toNat ≤ n) → ((g 25 0 20).toInt = (f 25 0 20).toInt) → (a86_2.toInt = 8 * (f 25 0 20).toInt) → (∀ x j, g 38 x j = f 38 x j) → (∃ K : Nat, K + zpc a86_6 = 6 ∧ zpaR T n a1 p = zbd (zrb T n K ((g 25 0 17).toInt.toNat) a86_6) (fun bars p3 => zPb (zprR T n) T n (zkd a86_4) a1 a86_3 a86_5 bars p3)) → (607 + 610 * (120 - (g 25 0 17).toInt) : Int) < t → Z X 86 [some (zr 25 0), some (zi a1), some (zi a86_2), some (zi a86_3), some (zi a86_4), some (zi a86_5), some (zi a86_6), none, none] [] g)) (ih1 : (∀ a176_2 : Int32, zB a176_2 0 88 → a176_2.toInt % 8 = 0 → ∀ a176_3 : Int32, zB a176_3 0 5 → ∀ a176_4 : Int32, zB a176_4 0 1 → ∀ a176_5 : Int32, zB a176_5 1 40 → ∀ a176_6 : Int32, zB a176_6 0 31 → ∀ a176_7 : Int32, zB a176_7 0 99 → ∀ a176_8 : Int32, zB a176_8 0 7 → ∀ g : zM, zInv g → zFr [(25, some 17), (25, some 20), (38, none)] f g → zB (g 25 0 17) 0 120 → zB (g 25 0 20) 0 11 → (g 25 0 16 = nI n) → (∀ i, i < n → g 36 0 i = T i) → ((g 25 0 17).toInt.toNat ≤ n) → ((g 25 0 20).toInt = (f 25 0 20).toInt) → (a176_2.toInt = 8 * (f 25 0 20).toInt) → (∀ x j, g 38 x j = f 38 x j) → (∃ K : Nat, K + zpc a176_8 = 4 ∧ zpaR T n a1 p = zbd (zrp T n K ((g 25 0 17).toInt.toNat) a176_8) (fun prm p5 => .inr (zc8 (zkd a176_4) a1 a176_3 a176_5 0 a176_6 a176_7 prm, p5))) → (1 + 5 * (120 - (g 25 0 17).toInt) : Int) < t → Z X 176 [some (zr 25 0), some (zi a1), some (zi a176_2), some (zi a176_3), some (zi a176_4), some (zi a176_5), some (zi a176_6), some (zi a176_7), some (zi a176_8)] [] g)) (ih2 : (∀ a220_2 : Int32, zB a220_2 0 88 → a220_2.toInt % 8 = 0 → ∀ a220_3 : Int32, zB a220_3 0 5 → ∀ a220_4 : Int32, zB a220_4 0 1 → ∀ a220_5 : Int32, zB a220_5 1 40 → ∀ a220_6 : Int32, zB a220_6 0 31 → ∀ a220_7 : Int32, zB a220_7 0 99 → ∀ a220_8 : Int32, zB a220_8 0 7 → ∀ g : zM, zInv g → zFr [(25, some 17), (25, some 20), (38, none)] f g → zB (g 25 0 17) 0 120 → zB (g 25 0 20) 0 11 → (g 25 0 16 = nI n) → (∀ i, i < n → g 36 0 i = T i) → ((g 25 0 17).toInt.toNat ≤ n) → ((g 25 0 20).toInt = (f 25 0 20).toInt) → (a220_2.toInt = 8 * (f 25 0 20).toInt) → (∀ x j, g 38 x j = f 38 x j) → (zpaR T n a1 p = .inr (zc8 (zkd a220_4) a1 a220_3 a220_5 0 a220_6 a220_7 a220_8, (g 25 0 17).toInt.toNat)) → (0 : Int) < t → Z X 220 [some (zr 25 0), some (zi a1), some (zi a220_2), some (zi a220_3), some (zi a220_4), some (zi a220_5), some (zi a220_6), some (zi a220_7), some (zi a220_8)] [] g)) : (∀ a220_2 : Int32, zB a220_2 0 88 → a220_2.toInt % 8 = 0 → ∀ a220_3 : Int32, zB a220_3 0 5 → ∀ a220_4 : Int32, zB a220_4 0 1 → ∀ a220_5 : Int32, zB a220_5 1 40 → ∀ a220_6 : Int32, zB a220_6 0 31 → ∀ a220_7 : Int32, zB a220_7 0 99 → ∀ a220_8 : Int32, zB a220_8 0 7 → ∀ g : zM, zInv g → zFr [(25, some 17), (25, some 20), (38, none)] f g → zB (g 25 0 17) 0 120 → zB (g 25 0 20) 0 11 → (g 25 0 16 = nI n) → (∀ i, i < n → g 36 0 i = T i) → ((g 25 0 17).toInt.toNat ≤ n) → ((g 25 0 20).toInt = (f 25 0 20).toInt) → (a220_2.toInt = 8 * (f 25 0 20).toInt) → (∀ x j, g 38 x j = f 38 x j) → (zpaR T n a1 p = .inr (zc8 (zkd a220_4) a1 a220_3 a220_5 0 a220_6 a220_7 a220_8, (g 25 0 17).toInt.toNat)) → (0 : Int) < ((t + 1 : Nat) : Int) → Z X 220 [some (zr 25 0), some (zi a1), some (zi a220_2), some (zi a220_3), some (zi a220_4), some (zi a220_5), some (zi a220_6), some (zi a220_7), some (zi a220_8)] [] g) := by
        have hF : zFr [(25, some 17), (25, some 20), (38, none)] f f := zFr.rf _ _
        have ct25_0_17 : zB (f 25 0 17) 0 120 := hI 25 0 17
        intro a220_2 b220_2 n220_2 a220_3 b220_3 a220_4 b220_4 a220_5 b220_5 a220_6 b220_6 a220_7 b220_7 a220_8 b220_8 g220_ hI220_ hF220_ f220_25_0_17 f220_25_0_20 hR220_0 hR220_1 hR220_2 hR220_3 hR220_4 hR220_5 hR220_6 hM220_
        have hpl220 : g220_ 25 0 17 = nI ((g220_ 25 0 17).toInt.toNat) := (nI_ofI (hI220_ 25 0 17).1).1
        refine z_aload_n (pc := 220) C dX10_readPaper_220 rfl ?_
        refine z_getR (pc := 221) C zf_X10_46 rfl rfl (by decide) dX10_readPaper_221 ?_
        refine z_iload_n (pc := 224) C dX10_readPaper_224 rfl ?_
        refine z_iload (pc := 225) C dX10_readPaper_225 rfl ?_
        refine z_if_eq (pc := 227) 234 C dX10_readPaper_227 (by decide) (fun h227_43 => ?_) (fun h227_43 => ?_)
        · skip
          have b45x : zB a220_4 0 0 := by have q1 := b220_4; have q2 := (zB.of (x := 0) 0 (by decide)); simp only [z32lt, z32le, z32eq, Int32.reduceToInt, Int32.toInt_zero] at h227_43; constructor <;> omega
          refine z_iconst (pc := 234) (v := 0) C dX10_readPaper_234 (by decide) ?_
          have kw235_45 : a220_2.toNatClampNeg = a220_2.toInt.toNat := rfl
          refine z_iast (pc := 235) C rfl (by decide) (zIx b220_2 (by decide) (by decide)) dX10_readPaper_235 ?_
          refine w_memx hI220_ hF220_ (by rw [zrg38 (r := 0) (by have hq : a220_2.toNatClampNeg = a220_2.toInt.toNat := rfl; have hq2 := b220_2; omega)]; exact (zB.wk (a' := 0) (b' := 2) (zB.of (x := 0) 0 (by decide)) (by decide) (by decide))) rfl (fun g46 qm46 hI46 hF46 hq46 hx46 => ?_)
          have ek46_25_0_17 : (g46 25 0 17).toInt = (g220_ 25 0 17).toInt := by rw [hq46 25 0 17 (fun h => absurd h.1 (by decide))]
          have c46_25_0_17x : zB (g46 25 0 17) 0 120 := by rw [hq46 25 0 17 (fun h => absurd h.1 (by decide))]; exact f220_25_0_17
          have ek46_25_0_20 : (g46 25 0 20).toInt = (g220_ 25 0 20).toInt := by rw [hq46 25 0 20 (fun h => absurd h.1 (by decide))]
          have c46_25_0_20x : zB (g46 25 0 20) 0 11 := by rw [hq46 25 0 20 (fun h => absurd h.1 (by decide))]; exact f220_25_0_20
          have h1846 : g46 25 0 16 = nI n := by rw [qm46]; exact (zup_ne _ _ (fun h => absurd h.1 (by decide))).trans hR220_0
          have hTp46 : ∀ i, i < n → g46 36 0 i = T i := fun i hi => by rw [qm46]; exact (zup_ne _ _ (fun h => absurd h.1 (by decide))).trans (hR220_1 i hi)
          have hq46 : g46 25 0 17 = nI ((g220_ 25 0 17).toInt.toNat) := by rw [qm46]; exact (zup_ne _ _ (fun h => absurd h.1 (by decide))).trans hpl220
          refine z_aload_n (pc := 236) C dX10_readPaper_236 rfl ?_
          refine z_getR (pc := 237) C zf_X10_46 rfl rfl (by decide) dX10_readPaper_237 ?_
          refine z_iload_n (pc := 240) C dX10_readPaper_240 rfl ?_
          refine z_iconst (pc := 241) (v := 1) C dX10_readPaper_241 (by decide) ?_
          refine z_iadd (pc := 242) C dX10_readPaper_242 ?_
          refine w_gp (fun v => v = a220_2 + (1 : Int32)) rfl (fun v47 q47 => ?_)
          have e47 : v47.toInt = a220_2.toInt + 1 := by rw [q47]; exact (zadd_eb b220_2 (zB.of (x := 1) 1 (by decide)) (by decide) (by decide))
          have b47x : zB v47 1 89 := by have q1 := b220_2; have q2 := (zB.of (x := 1) 1 (by decide)); constructor <;> omega
          refine z_iload_n (pc := 243) C dX10_readPaper_243 rfl ?_
          have kw244_47 : v47.toNatClampNeg = v47.toInt.toNat := rfl
          refine z_iast (pc := 244) C rfl (by decide) (zIx b47x (by decide) (by decide)) dX10_readPaper_244 ?_
          refine w_memx hI46 hF46 (by rw [zrg38 (r := 1) (by have hq : v47.toNatClampNeg = v47.toInt.toNat := rfl; have hq2 := b47x; omega)]; exact b1) rfl (fun g48 qm48 hI48 hF48 hq48 hx48 => ?_)
          have ek48_25_0_17 : (g48 25 0 17).toInt = (g46 25 0 17).toInt := by rw [hq48 25 0 17 (fun h => absurd h.1 (by decide))]
          have c48_25_0_17x : zB (g48 25 0 17) 0 120 := by rw [hq48 25 0 17 (fun h => absurd h.1 (by decide))]; exact c46_25_0_17x
          have ek48_25_0_20 : (g48 25 0 20).toInt = (g46 25 0 20).toInt := by rw [hq48 25 0 20 (fun h => absurd h.1 (by decide))]
          have c48_25_0_20x : zB (g48 25 0 20) 0 11 := by rw [hq48 25 0 20 (fun h => absurd h.1 (by decide))]; exact c46_25_0_20x
          have h1848 : g48 25 0 16 = nI n := by rw [qm48]; exact (zup_ne _ _ (fun h => absurd h.1 (by decide))).trans h1846
          have hTp48 : ∀ i, i < n → g48 36 0 i = T i := fun i hi => by rw [qm48]; exact (zup_ne _ _ (fun h => absurd h.1 (by decide))).trans (hTp46 i hi)
          have hq48 : g48 25 0 17 = nI ((g220_ 25 0 17).toInt.toNat) := by rw [qm48]; exact (zup_ne _ _ (fun h => absurd h.1 (by decide))).trans hq46
          refine z_aload_n (pc := 245) C dX10_readPaper_245 rfl ?_
          refine z_getR (pc := 246) C zf_X10_46 rfl rfl (by decide) dX10_readPaper_246 ?_
          refine z_iload_n (pc := 249) C dX10_readPaper_249 rfl ?_
          refine z_iconst (pc := 250) (v := 2) C dX10_readPaper_250 (by decide) ?_
          refine z_iadd (pc := 251) C dX10_readPaper_251 ?_
          refine w_gp (fun v => v = a220_2 + (2 : Int32)) rfl (fun v49 q49 => ?_)
          have e49 : v49.toInt = a220_2.toInt + 2 := by rw [q49]; exact (zadd_eb b220_2 (zB.of (x := 2) 2 (by decide)) (by decide) (by decide))
          have b49x : zB v49 2 90 := by have q1 := b220_2; have q2 := (zB.of (x := 2) 2 (by decide)); constructor <;> omega
          refine z_iload_n (pc := 252) C dX10_readPaper_252 rfl ?_
          have kw253_49 : v49.toNatClampNeg = v49.toInt.toNat := rfl
          refine z_iast (pc := 253) C rfl (by decide) (zIx b49x (by decide) (by decide)) dX10_readPaper_253 ?_
          refine w_memx hI48 hF48 (by rw [zrg38 (r := 2) (by have hq : v49.toNatClampNeg = v49.toInt.toNat := rfl; have hq2 := b49x; omega)]; exact b220_3) rfl (fun g50 qm50 hI50 hF50 hq50 hx50 => ?_)
          have ek50_25_0_17 : (g50 25 0 17).toInt = (g48 25 0 17).toInt := by rw [hq50 25 0 17 (fun h => absurd h.1 (by decide))]
          have c50_25_0_17x : zB (g50 25 0 17) 0 120 := by rw [hq50 25 0 17 (fun h => absurd h.1 (by decide))]; exact c48_25_0_17x
          have ek50_25_0_20 : (g50 25 0 20).toInt = (g48 25 0 20).toInt := by rw [hq50 25 0 20 (fun h => absurd h.1 (by decide))]
          have c50_25_0_20x : zB (g50 25 0 20) 0 11 := by rw [hq50 25 0 20 (fun h => absurd h.1 (by decide))]; exact c48_25_0_20x
          have h1850 : g50 25 0 16 = nI n := by rw [qm50]; exact (zup_ne _ _ (fun h => absurd h.1 (by decide))).trans h1848
          have hTp50 : ∀ i, i < n → g50 36 0 i = T i := fun i hi => by rw [qm50]; exact (zup_ne _ _ (fun h => absurd h.1 (by decide))).trans (hTp48 i hi)
          have hq50 : g50 25 0 17 = nI ((g220_ 25 0 17).toInt.toNat) := by rw [qm50]; exact (zup_ne _ _ (fun h => absurd h.1 (by decide))).trans hq48
          refine z_aload_n (pc := 254) C dX10_readPaper_254 rfl ?_
          refine z_getR (pc := 255) C zf_X10_46 rfl rfl (by decide) dX10_readPaper_255 ?_
          refine z_iload_n (pc := 258) C dX10_readPaper_258 rfl ?_
          refine z_iconst (pc := 259) (v := 3) C dX10_readPaper_259 (by decide) ?_
          refine z_iadd (pc := 260) C dX10_readPaper_260 ?_
          refine w_gp (fun v => v = a220_2 + (3 : Int32)) rfl (fun v51 q51 => ?_)
          have e51 : v51.toInt = a220_2.toInt + 3 := by rw [q51]; exact (zadd_eb b220_2 (zB.of (x := 3) 3 (by decide)) (by decide) (by decide))
          have b51x : zB v51 3 91 := by have q1 := b220_2; have q2 := (zB.of (x := 3) 3 (by decide)); constructor <;> omega
          refine z_iload (pc := 261) C dX10_readPaper_261 rfl ?_
          have kw263_51 : v51.toNatClampNeg = v51.toInt.toNat := rfl
          refine z_iast (pc := 263) C rfl (by decide) (zIx b51x (by decide) (by decide)) dX10_readPaper_263 ?_
          refine w_memx hI50 hF50 (by rw [zrg38 (r := 3) (by have hq : v51.toNatClampNeg = v51.toInt.toNat := rfl; have hq2 := b51x; omega)]; exact (zB.wk (a' := 0) (b' := 40) b220_5 (by decide) (by decide))) rfl (fun g52 qm52 hI52 hF52 hq52 hx52 => ?_)
          have ek52_25_0_17 : (g52 25 0 17).toInt = (g50 25 0 17).toInt := by rw [hq52 25 0 17 (fun h => absurd h.1 (by decide))]
          have c52_25_0_17x : zB (g52 25 0 17) 0 120 := by rw [hq52 25 0 17 (fun h => absurd h.1 (by decide))]; exact c50_25_0_17x
          have ek52_25_0_20 : (g52 25 0 20).toInt = (g50 25 0 20).toInt := by rw [hq52 25 0 20 (fun h => absurd h.1 (by decide))]
          have c52_25_0_20x : zB (g52 25 0 20) 0 11 := by rw [hq52 25 0 20 (fun h => absurd h.1 (by decide))]; exact c50_25_0_20x
          have h1852 : g52 25 0 16 = nI n := by rw [qm52]; exact (zup_ne _ _ (fun h => absurd h.1 (by decide))).trans h1850
          have hTp52 : ∀ i, i < n → g52 36 0 i = T i := fun i hi => by rw [qm52]; exact (zup_ne _ _ (fun h => absurd h.1 (by decide))).trans (hTp50 i hi)
          have hq52 : g52 25 0 17 = nI ((g220_ 25 0 17).toInt.toNat) := by rw [qm52]; exact (zup_ne _ _ (fun h => absurd h.1 (by decide))).trans hq50
          refine z_aload_n (pc := 264) C dX10_readPaper_264 rfl ?_
          refine z_getR (pc := 265) C zf_X10_46 rfl rfl (by decide) dX10_readPaper_265 ?_
          refine z_iload_n (pc := 268) C dX10_readPaper_268 rfl ?_
          refine z_iconst (pc := 269) (v := 4) C dX10_readPaper_269 (by decide) ?_
          refine z_iadd (pc := 270) C dX10_readPaper_270 ?_
          refine w_gp (fun v => v = a220_2 + (4 : Int32)) rfl (fun v53 q53 => ?_)
          have e53 : v53.toInt = a220_2.toInt + 4 := by rw [q53]; exact (zadd_eb b220_2 (zB.of (x := 4) 4 (by decide)) (by decide) (by decide))
          have b53x : zB v53 4 92 := by have q1 := b220_2; have q2 := (zB.of (x := 4) 4 (by decide)); constructor <;> omega
          refine z_iconst (pc := 271) (v := 0) C dX10_readPaper_271 (by decide) ?_
          have kw272_53 : v53.toNatClampNeg = v53.toInt.toNat := rfl
          refine z_iast (pc := 272) C rfl (by decide) (zIx b53x (by decide) (by decide)) dX10_readPaper_272 ?_
          refine w_memx hI52 hF52 (by rw [zrg38 (r := 4) (by have hq : v53.toNatClampNeg = v53.toInt.toNat := rfl; have hq2 := b53x; omega)]; exact (zB.wk (a' := (-2147483648)) (b' := 2147483647) (zB.of (x := 0) 0 (by decide)) (by decide) (by decide))) rfl (fun g54 qm54 hI54 hF54 hq54 hx54 => ?_)
          have ek54_25_0_17 : (g54 25 0 17).toInt = (g52 25 0 17).toInt := by rw [hq54 25 0 17 (fun h => absurd h.1 (by decide))]
          have c54_25_0_17x : zB (g54 25 0 17) 0 120 := by rw [hq54 25 0 17 (fun h => absurd h.1 (by decide))]; exact c52_25_0_17x
          have ek54_25_0_20 : (g54 25 0 20).toInt = (g52 25 0 20).toInt := by rw [hq54 25 0 20 (fun h => absurd h.1 (by decide))]
          have c54_25_0_20x : zB (g54 25 0 20) 0 11 := by rw [hq54 25 0 20 (fun h => absurd h.1 (by decide))]; exact c52_25_0_20x
          have h1854 : g54 25 0 16 = nI n := by rw [qm54]; exact (zup_ne _ _ (fun h => absurd h.1 (by decide))).trans h1852
          have hTp54 : ∀ i, i < n → g54 36 0 i = T i := fun i hi => by rw [qm54]; exact (zup_ne _ _ (fun h => absurd h.1 (by decide))).trans (hTp52 i hi)
          have hq54 : g54 25 0 17 = nI ((g220_ 25 0 17).toInt.toNat) := by rw [qm54]; exact (zup_ne _ _ (fun h => absurd h.1 (by decide))).trans hq52
          refine z_aload_n (pc := 273) C dX10_readPaper_273 rfl ?_
          refine z_getR (pc := 274) C zf_X10_46 rfl rfl (by decide) dX10_readPaper_274 ?_
          refine z_iload_n (pc := 277) C dX10_readPaper_277 rfl ?_
          refine z_iconst (pc := 278) (v := 5) C dX10_readPaper_278 (by decide) ?_
          refine z_iadd (pc := 279) C dX10_readPaper_279 ?_
          refine w_gp (fun v => v = a220_2 + (5 : Int32)) rfl (fun v55 q55 => ?_)
          have e55 : v55.toInt = a220_2.toInt + 5 := by rw [q55]; exact (zadd_eb b220_2 (zB.of (x := 5) 5 (by decide)) (by decide) (by decide))
          have b55x : zB v55 5 93 := by have q1 := b220_2; have q2 := (zB.of (x := 5) 5 (by decide)); constructor <;> omega
          refine z_iload (pc := 280) C dX10_readPaper_280 rfl ?_
          have kw282_55 : v55.toNatClampNeg = v55.toInt.toNat := rfl
          refine z_iast (pc := 282) C rfl (by decide) (zIx b55x (by decide) (by decide)) dX10_readPaper_282 ?_
          refine w_memx hI54 hF54 (by rw [zrg38 (r := 5) (by have hq : v55.toNatClampNeg = v55.toInt.toNat := rfl; have hq2 := b55x; omega)]; exact b220_6) rfl (fun g56 qm56 hI56 hF56 hq56 hx56 => ?_)
          have ek56_25_0_17 : (g56 25 0 17).toInt = (g54 25 0 17).toInt := by rw [hq56 25 0 17 (fun h => absurd h.1 (by decide))]
          have c56_25_0_17x : zB (g56 25 0 17) 0 120 := by rw [hq56 25 0 17 (fun h => absurd h.1 (by decide))]; exact c54_25_0_17x
          have ek56_25_0_20 : (g56 25 0 20).toInt = (g54 25 0 20).toInt := by rw [hq56 25 0 20 (fun h => absurd h.1 (by decide))]
          have c56_25_0_20x : zB (g56 25 0 20) 0 11 := by rw [hq56 25 0 20 (fun h => absurd h.1 (by decide))]; exact c54_25_0_20x
          have h1856 : g56 25 0 16 = nI n := by rw [qm56]; exact (zup_ne _ _ (fun h => absurd h.1 (by decide))).trans h1854
          have hTp56 : ∀ i, i < n → g56 36 0 i = T i := fun i hi => by rw [qm56]; exact (zup_ne _ _ (fun h => absurd h.1 (by decide))).trans (hTp54 i hi)
          have hq56 : g56 25 0 17 = nI ((g220_ 25 0 17).toInt.toNat) := by rw [qm56]; exact (zup_ne _ _ (fun h => absurd h.1 (by decide))).trans hq54
          refine z_aload_n (pc := 283) C dX10_readPaper_283 rfl ?_
          refine z_getR (pc := 284) C zf_X10_46 rfl rfl (by decide) dX10_readPaper_284 ?_
          refine z_iload_n (pc := 287) C dX10_readPaper_287 rfl ?_
          refine z_bipush (pc := 288) (v := 6) C dX10_readPaper_288 (by decide) ?_
          refine z_iadd (pc := 290) C dX10_readPaper_290 ?_
          refine w_gp (fun v => v = a220_2 + (6 : Int32)) rfl (fun v57 q57 => ?_)
          have e57 : v57.toInt = a220_2.toInt + 6 := by rw [q57]; exact (zadd_eb b220_2 (zB.of (x := 6) 6 (by decide)) (by decide) (by decide))
          have b57x : zB v57 6 94 := by have q1 := b220_2; have q2 := (zB.of (x := 6) 6 (by decide)); constructor <;> omega
          refine z_iload (pc := 291) C dX10_readPaper_291 rfl ?_
          have kw293_57 : v57.toNatClampNeg = v57.toInt.toNat := rfl
          refine z_iast (pc := 293) C rfl (by decide) (zIx b57x (by decide) (by decide)) dX10_readPaper_293 ?_
          refine w_memx hI56 hF56 (by rw [zrg38 (r := 6) (by have hq : v57.toNatClampNeg = v57.toInt.toNat := rfl; have hq2 := b57x; omega)]; exact b220_7) rfl (fun g58 qm58 hI58 hF58 hq58 hx58 => ?_)
          have ek58_25_0_17 : (g58 25 0 17).toInt = (g56 25 0 17).toInt := by rw [hq58 25 0 17 (fun h => absurd h.1 (by decide))]
          have c58_25_0_17x : zB (g58 25 0 17) 0 120 := by rw [hq58 25 0 17 (fun h => absurd h.1 (by decide))]; exact c56_25_0_17x
          have ek58_25_0_20 : (g58 25 0 20).toInt = (g56 25 0 20).toInt := by rw [hq58 25 0 20 (fun h => absurd h.1 (by decide))]
          have c58_25_0_20x : zB (g58 25 0 20) 0 11 := by rw [hq58 25 0 20 (fun h => absurd h.1 (by decide))]; exact c56_25_0_20x
          have h1858 : g58 25 0 16 = nI n := by rw [qm58]; exact (zup_ne _ _ (fun h => absurd h.1 (by decide))).trans h1856
          have hTp58 : ∀ i, i < n → g58 36 0 i = T i := fun i hi => by rw [qm58]; exact (zup_ne _ _ (fun h => absurd h.1 (by decide))).trans (hTp56 i hi)
          have hq58 : g58 25 0 17 = nI ((g220_ 25 0 17).toInt.toNat) := by rw [qm58]; exact (zup_ne _ _ (fun h => absurd h.1 (by decide))).trans hq56
          refine z_aload_n (pc := 294) C dX10_readPaper_294 rfl ?_
          refine z_getR (pc := 295) C zf_X10_46 rfl rfl (by decide) dX10_readPaper_295 ?_
          refine z_iload_n (pc := 298) C dX10_readPaper_298 rfl ?_
          refine z_bipush (pc := 299) (v := 7) C dX10_readPaper_299 (by decide) ?_
          refine z_iadd (pc := 301) C dX10_readPaper_301 ?_
          refine w_gp (fun v => v = a220_2 + (7 : Int32)) rfl (fun v59 q59 => ?_)
          have e59 : v59.toInt = a220_2.toInt + 7 := by rw [q59]; exact (zadd_eb b220_2 (zB.of (x := 7) 7 (by decide)) (by decide) (by decide))
          have b59x : zB v59 7 95 := by have q1 := b220_2; have q2 := (zB.of (x := 7) 7 (by decide)); constructor <;> omega
          refine z_iload (pc := 302) C dX10_readPaper_302 rfl ?_
          have kw304_59 : v59.toNatClampNeg = v59.toInt.toNat := rfl
          refine z_iast (pc := 304) C rfl (by decide) (zIx b59x (by decide) (by decide)) dX10_readPaper_304 ?_
          refine w_memx hI58 hF58 (by rw [zrg38 (r := 7) (by have hq : v59.toNatClampNeg = v59.toInt.toNat := rfl; have hq2 := b59x; omega)]; exact b220_8) rfl (fun g60 qm60 hI60 hF60 hq60 hx60 => ?_)
          have ek60_25_0_17 : (g60 25 0 17).toInt = (g58 25 0 17).toInt := by rw [hq60 25 0 17 (fun h => absurd h.1 (by decide))]
          have c60_25_0_17x : zB (g60 25 0 17) 0 120 := by rw [hq60 25 0 17 (fun h => absurd h.1 (by decide))]; exact c58_25_0_17x
          have ek60_25_0_20 : (g60 25 0 20).toInt = (g58 25 0 20).toInt := by rw [hq60 25 0 20 (fun h => absurd h.1 (by decide))]
          have c60_25_0_20x : zB (g60 25 0 20) 0 11 := by rw [hq60 25 0 20 (fun h => absurd h.1 (by decide))]; exact c58_25_0_20x
          have h1860 : g60 25 0 16 = nI n := by rw [qm60]; exact (zup_ne _ _ (fun h => absurd h.1 (by decide))).trans h1858
          have hTp60 : ∀ i, i < n → g60 36 0 i = T i := fun i hi => by rw [qm60]; exact (zup_ne _ _ (fun h => absurd h.1 (by decide))).trans (hTp58 i hi)
          have hq60 : g60 25 0 17 = nI ((g220_ 25 0 17).toInt.toNat) := by rw [qm60]; exact (zup_ne _ _ (fun h => absurd h.1 (by decide))).trans hq58
          refine z_aload_n (pc := 305) C dX10_readPaper_305 rfl ?_
          refine z_dupr (pc := 306) C dX10_readPaper_306 ?_
          refine z_getI (pc := 307) C zf_X10_233 rfl rfl (by decide) dX10_readPaper_307 ?_
          refine w_gp (fun v => v = g60 25 0 20) rfl (fun v61 q61 => ?_)
          have e61 : v61.toInt = (g60 25 0 20).toInt := by rw [q61]
          have b61x : zB v61 0 11 := by first | exact zB.eqv e61 c60_25_0_20x | (have q9 := c60_25_0_20x; constructor <;> omega)
          refine z_iconst (pc := 310) (v := 1) C dX10_readPaper_310 (by decide) ?_
          refine z_iadd (pc := 311) C dX10_readPaper_311 ?_
          refine w_gp (fun v => v = v61 + (1 : Int32)) rfl (fun v62 q62 => ?_)
          have e62 : v62.toInt = v61.toInt + 1 := by rw [q62]; exact (zadd_eb b61x (zB.of (x := 1) 1 (by decide)) (by decide) (by decide))
          have b62x : zB v62 1 12 := by have q1 := b61x; have q2 := (zB.of (x := 1) 1 (by decide)); constructor <;> omega
          refine z_putI (pc := 312) C zf_X10_233 zp_10_20 rfl rfl (by decide) dX10_readPaper_312 ?_
          refine w_memx hI60 hF60 (zB.wk (a' := 0) (b' := 12) b62x (by decide) (by decide)) rfl (fun g63 qm63 hI63 hF63 hq63 hx63 => ?_)
          have ek63_25_0_17 : (g63 25 0 17).toInt = (g60 25 0 17).toInt := by rw [hq63 25 0 17 (fun h => absurd h.2 (by decide))]
          have c63_25_0_17x : zB (g63 25 0 17) 0 120 := by rw [hq63 25 0 17 (fun h => absurd h.2 (by decide))]; exact c60_25_0_17x
          have ec63 : (g63 25 0 20).toInt = v62.toInt := by rw [hx63]
          have c63x : zB (g63 25 0 20) 1 12 := by first | exact zB.eqv ec63 b62x | (have q9 := b62x; constructor <;> omega)
          have h1863 : g63 25 0 16 = nI n := by rw [qm63]; exact (zup_ne _ _ (fun h => absurd h.2.2 (by decide))).trans h1860
          have hTp63 : ∀ i, i < n → g63 36 0 i = T i := fun i hi => by rw [qm63]; exact (zup_ne _ _ (fun h => absurd h.1 (by decide))).trans (hTp60 i hi)
          have hq63 : g63 25 0 17 = nI ((g220_ 25 0 17).toInt.toNat) := by rw [qm63]; exact (zup_ne _ _ (fun h => absurd h.2.2 (by decide))).trans hq60
          refine z_iconst (pc := 315) (v := 1) C dX10_readPaper_315 (by decide) ?_
          exact z_zret (pc := 316) C hr (z01 (zB.wk (a' := 0) (b' := 1) (zB.of (x := 1) 1 (by decide)) (by decide) (by decide))) dX10_readPaper_316 ⟨⟨_, rfl, (zB.wk (a' := 0) (b' := 1) (zB.of (x := 1) 1 (by decide)) (by decide) (by decide))⟩, hI63, hF63, (by
                                                                                          intro v hv; cases hv
                                                                                          have hr := zrow8 (k := 38) (K := 8 * (f 25 0 20).toInt.toNat) qm46 qm48 qm50 qm52 qm54 qm56 qm58 qm60 (show (a220_2).toNatClampNeg = 8 * (f 25 0 20).toInt.toNat + 0 by omega) (show (v47).toNatClampNeg = 8 * (f 25 0 20).toInt.toNat + 1 by omega) (show (v49).toNatClampNeg = 8 * (f 25 0 20).toInt.toNat + 2 by omega) (show (v51).toNatClampNeg = 8 * (f 25 0 20).toInt.toNat + 3 by omega) (show (v53).toNatClampNeg = 8 * (f 25 0 20).toInt.toNat + 4 by omega) (show (v55).toNatClampNeg = 8 * (f 25 0 20).toInt.toNat + 5 by omega) (show (v57).toNatClampNeg = 8 * (f 25 0 20).toInt.toNat + 6 by omega) (show (v59).toNatClampNeg = 8 * (f 25 0 20).toInt.toNat + 7 by omega)
                                                                                          refine Or.inr ⟨_, zc8 (zkd a220_4) a1 a220_3 a220_5 0 a220_6 a220_7 a220_8, ?_, hq63, hR220_2, rfl, ?_, ?_, ?_⟩
                                                                                          · exact hR220_6
                                                                                          · rw [z32eq]
                                                                                            have e1 : (f 25 0 20 + 1 : Int32).toInt = (f 25 0 20).toInt + 1 := zadd_eb pf25_0_20 (zB.of (x := 1) 1 (by decide)) (by decide) (by decide)
                                                                                            omega
                                                                                          · intro j hj
                                                                                            rw [qm63, zup_ne _ _ (fun h => absurd h.1 (by decide))]
                                                                                            first
                                                                                              | (rw [show zkd a220_4 = 0 from by unfold zkd; rw [if_pos (by assumption)]]; exact hr.1 j hj)
                                                                                              | (rw [show zkd a220_4 = 2 from by unfold zkd; rw [if_neg (by assumption)]]; exact hr.1 j hj)
                                                                                          · intro x hx
                                                                                            rw [qm63, zup_ne _ _ (fun h => absurd h.1 (by decide)), hr.2 x hx]
                                                                                            exact hR220_5 0 x)⟩
        · skip
          have b64x : zB a220_4 1 1 := by have q1 := b220_4; have q2 := (zB.of (x := 0) 0 (by decide)); simp only [z32lt, z32le, z32eq, Int32.reduceToInt, Int32.toInt_zero] at h227_43; constructor <;> omega
          refine z_iconst (pc := 230) (v := 2) C dX10_readPaper_230 (by decide) ?_
          refine z_goto (pc := 231) 235 C dX10_readPaper_231 (by decide) ?_
          have kw235_64 : a220_2.toNatClampNeg = a220_2.toInt.toNat := rfl
          refine z_iast (pc := 235) C rfl (by decide) (zIx b220_2 (by decide) (by decide)) dX10_readPaper_235 ?_
          refine w_memx hI220_ hF220_ (by rw [zrg38 (r := 0) (by have hq : a220_2.toNatClampNeg = a220_2.toInt.toNat := rfl; have hq2 := b220_2; omega)]; exact (zB.wk (a' := 0) (b' := 2) (zB.of (x := 2) 2 (by decide)) (by decide) (by decide))) rfl (fun g65 qm65 hI65 hF65 hq65 hx65 => ?_)
          have ek65_25_0_17 : (g65 25 0 17).toInt = (g220_ 25 0 17).toInt := by rw [hq65 25 0 17 (fun h => absurd h.1 (by decide))]
          have c65_25_0_17x : zB (g65 25 0 17) 0 120 := by rw [hq65 25 0 17 (fun h => absurd h.1 (by decide))]; exact f220_25_0_17
          have ek65_25_0_20 : (g65 25 0 20).toInt = (g220_ 25 0 20).toInt := by rw [hq65 25 0 20 (fun h => absurd h.1 (by decide))]
          have c65_25_0_20x : zB (g65 25 0 20) 0 11 := by rw [hq65 25 0 20 (fun h => absurd h.1 (by decide))]; exact f220_25_0_20
          have h1865 : g65 25 0 16 = nI n := by rw [qm65]; exact (zup_ne _ _ (fun h => absurd h.1 (by decide))).trans hR220_0
          have hTp65 : ∀ i, i < n → g65 36 0 i = T i := fun i hi => by rw [qm65]; exact (zup_ne _ _ (fun h => absurd h.1 (by decide))).trans (hR220_1 i hi)
          have hq65 : g65 25 0 17 = nI ((g220_ 25 0 17).toInt.toNat) := by rw [qm65]; exact (zup_ne _ _ (fun h => absurd h.1 (by decide))).trans hpl220
          refine z_aload_n (pc := 236) C dX10_readPaper_236 rfl ?_
          refine z_getR (pc := 237) C zf_X10_46 rfl rfl (by decide) dX10_readPaper_237 ?_
          refine z_iload_n (pc := 240) C dX10_readPaper_240 rfl ?_
          refine z_iconst (pc := 241) (v := 1) C dX10_readPaper_241 (by decide) ?_
          refine z_iadd (pc := 242) C dX10_readPaper_242 ?_
          refine w_gp (fun v => v = a220_2 + (1 : Int32)) rfl (fun v66 q66 => ?_)
          have e66 : v66.toInt = a220_2.toInt + 1 := by rw [q66]; exact (zadd_eb b220_2 (zB.of (x := 1) 1 (by decide)) (by decide) (by decide))
          have b66x : zB v66 1 89 := by have q1 := b220_2; have q2 := (zB.of (x := 1) 1 (by decide)); constructor <;> omega
          refine z_iload_n (pc := 243) C dX10_readPaper_243 rfl ?_
          have kw244_66 : v66.toNatClampNeg = v66.toInt.toNat := rfl
          refine z_iast (pc := 244) C rfl (by decide) (zIx b66x (by decide) (by decide)) dX10_readPaper_244 ?_
          refine w_memx hI65 hF65 (by rw [zrg38 (r := 1) (by have hq : v66.toNatClampNeg = v66.toInt.toNat := rfl; have hq2 := b66x; omega)]; exact b1) rfl (fun g67 qm67 hI67 hF67 hq67 hx67 => ?_)
          have ek67_25_0_17 : (g67 25 0 17).toInt = (g65 25 0 17).toInt := by rw [hq67 25 0 17 (fun h => absurd h.1 (by decide))]
          have c67_25_0_17x : zB (g67 25 0 17) 0 120 := by rw [hq67 25 0 17 (fun h => absurd h.1 (by decide))]; exact c65_25_0_17x
          have ek67_25_0_20 : (g67 25 0 20).toInt = (g65 25 0 20).toInt := by rw [hq67 25 0 20 (fun h => absurd h.1 (by decide))]
          have c67_25_0_20x : zB (g67 25 0 20) 0 11 := by rw [hq67 25 0 20 (fun h => absurd h.1 (by decide))]; exact c65_25_0_20x
          have h1867 : g67 25 0 16 = nI n := by rw [qm67]; exact (zup_ne _ _ (fun h => absurd h.1 (by decide))).trans h1865
          have hTp67 : ∀ i, i < n → g67 36 0 i = T i := fun i hi => by rw [qm67]; exact (zup_ne _ _ (fun h => absurd h.1 (by decide))).trans (hTp65 i hi)
          have hq67 : g67 25 0 17 = nI ((g220_ 25 0 17).toInt.toNat) := by rw [qm67]; exact (zup_ne _ _ (fun h => absurd h.1 (by decide))).trans hq65
          refine z_aload_n (pc := 245) C dX10_readPaper_245 rfl ?_
          refine z_getR (pc := 246) C zf_X10_46 rfl rfl (by decide) dX10_readPaper_246 ?_
          refine z_iload_n (pc := 249) C dX10_readPaper_249 rfl ?_
          refine z_iconst (pc := 250) (v := 2) C dX10_readPaper_250 (by decide) ?_
          refine z_iadd (pc := 251) C dX10_readPaper_251 ?_
          refine w_gp (fun v => v = a220_2 + (2 : Int32)) rfl (fun v68 q68 => ?_)
          have e68 : v68.toInt = a220_2.toInt + 2 := by rw [q68]; exact (zadd_eb b220_2 (zB.of (x := 2) 2 (by decide)) (by decide) (by decide))
          have b68x : zB v68 2 90 := by have q1 := b220_2; have q2 := (zB.of (x := 2) 2 (by decide)); constructor <;> omega
          refine z_iload_n (pc := 252) C dX10_readPaper_252 rfl ?_
          have kw253_68 : v68.toNatClampNeg = v68.toInt.toNat := rfl
          refine z_iast (pc := 253) C rfl (by decide) (zIx b68x (by decide) (by decide)) dX10_readPaper_253 ?_
          refine w_memx hI67 hF67 (by rw [zrg38 (r := 2) (by have hq : v68.toNatClampNeg = v68.toInt.toNat := rfl; have hq2 := b68x; omega)]; exact b220_3) rfl (fun g69 qm69 hI69 hF69 hq69 hx69 => ?_)
          have ek69_25_0_17 : (g69 25 0 17).toInt = (g67 25 0 17).toInt := by rw [hq69 25 0 17 (fun h => absurd h.1 (by decide))]
          have c69_25_0_17x : zB (g69 25 0 17) 0 120 := by rw [hq69 25 0 17 (fun h => absurd h.1 (by decide))]; exact c67_25_0_17x
          have ek69_25_0_20 : (g69 25 0 20).toInt = (g67 25 0 20).toInt := by rw [hq69 25 0 20 (fun h => absurd h.1 (by decide))]
          have c69_25_0_20x : zB (g69 25 0 20) 0 11 := by rw [hq69 25 0 20 (fun h => absurd h.1 (by decide))]; exact c67_25_0_20x
          have h1869 : g69 25 0 16 = nI n := by rw [qm69]; exact (zup_ne _ _ (fun h => absurd h.1 (by decide))).trans h1867
          have hTp69 : ∀ i, i < n → g69 36 0 i = T i := fun i hi => by rw [qm69]; exact (zup_ne _ _ (fun h => absurd h.1 (by decide))).trans (hTp67 i hi)
          have hq69 : g69 25 0 17 = nI ((g220_ 25 0 17).toInt.toNat) := by rw [qm69]; exact (zup_ne _ _ (fun h => absurd h.1 (by decide))).trans hq67
          refine z_aload_n (pc := 254) C dX10_readPaper_254 rfl ?_
          refine z_getR (pc := 255) C zf_X10_46 rfl rfl (by decide) dX10_readPaper_255 ?_
          refine z_iload_n (pc := 258) C dX10_readPaper_258 rfl ?_
          refine z_iconst (pc := 259) (v := 3) C dX10_readPaper_259 (by decide) ?_
          refine z_iadd (pc := 260) C dX10_readPaper_260 ?_
          refine w_gp (fun v => v = a220_2 + (3 : Int32)) rfl (fun v70 q70 => ?_)
          have e70 : v70.toInt = a220_2.toInt + 3 := by rw [q70]; exact (zadd_eb b220_2 (zB.of (x := 3) 3 (by decide)) (by decide) (by decide))
          have b70x : zB v70 3 91 := by have q1 := b220_2; have q2 := (zB.of (x := 3) 3 (by decide)); constructor <;> omega
          refine z_iload (pc := 261) C dX10_readPaper_261 rfl ?_
          have kw263_70 : v70.toNatClampNeg = v70.toInt.toNat := rfl
          refine z_iast (pc := 263) C rfl (by decide) (zIx b70x (by decide) (by decide)) dX10_readPaper_263 ?_
          refine w_memx hI69 hF69 (by rw [zrg38 (r := 3) (by have hq : v70.toNatClampNeg = v70.toInt.toNat := rfl; have hq2 := b70x; omega)]; exact (zB.wk (a' := 0) (b' := 40) b220_5 (by decide) (by decide))) rfl (fun g71 qm71 hI71 hF71 hq71 hx71 => ?_)
          have ek71_25_0_17 : (g71 25 0 17).toInt = (g69 25 0 17).toInt := by rw [hq71 25 0 17 (fun h => absurd h.1 (by decide))]
          have c71_25_0_17x : zB (g71 25 0 17) 0 120 := by rw [hq71 25 0 17 (fun h => absurd h.1 (by decide))]; exact c69_25_0_17x
          have ek71_25_0_20 : (g71 25 0 20).toInt = (g69 25 0 20).toInt := by rw [hq71 25 0 20 (fun h => absurd h.1 (by decide))]
          have c71_25_0_20x : zB (g71 25 0 20) 0 11 := by rw [hq71 25 0 20 (fun h => absurd h.1 (by decide))]; exact c69_25_0_20x
          have h1871 : g71 25 0 16 = nI n := by rw [qm71]; exact (zup_ne _ _ (fun h => absurd h.1 (by decide))).trans h1869
          have hTp71 : ∀ i, i < n → g71 36 0 i = T i := fun i hi => by rw [qm71]; exact (zup_ne _ _ (fun h => absurd h.1 (by decide))).trans (hTp69 i hi)
          have hq71 : g71 25 0 17 = nI ((g220_ 25 0 17).toInt.toNat) := by rw [qm71]; exact (zup_ne _ _ (fun h => absurd h.1 (by decide))).trans hq69
          refine z_aload_n (pc := 264) C dX10_readPaper_264 rfl ?_
          refine z_getR (pc := 265) C zf_X10_46 rfl rfl (by decide) dX10_readPaper_265 ?_
          refine z_iload_n (pc := 268) C dX10_readPaper_268 rfl ?_
          refine z_iconst (pc := 269) (v := 4) C dX10_readPaper_269 (by decide) ?_
          refine z_iadd (pc := 270) C dX10_readPaper_270 ?_
          refine w_gp (fun v => v = a220_2 + (4 : Int32)) rfl (fun v72 q72 => ?_)
          have e72 : v72.toInt = a220_2.toInt + 4 := by rw [q72]; exact (zadd_eb b220_2 (zB.of (x := 4) 4 (by decide)) (by decide) (by decide))
          have b72x : zB v72 4 92 := by have q1 := b220_2; have q2 := (zB.of (x := 4) 4 (by decide)); constructor <;> omega
          refine z_iconst (pc := 271) (v := 0) C dX10_readPaper_271 (by decide) ?_
          have kw272_72 : v72.toNatClampNeg = v72.toInt.toNat := rfl
          refine z_iast (pc := 272) C rfl (by decide) (zIx b72x (by decide) (by decide)) dX10_readPaper_272 ?_
          refine w_memx hI71 hF71 (by rw [zrg38 (r := 4) (by have hq : v72.toNatClampNeg = v72.toInt.toNat := rfl; have hq2 := b72x; omega)]; exact (zB.wk (a' := (-2147483648)) (b' := 2147483647) (zB.of (x := 0) 0 (by decide)) (by decide) (by decide))) rfl (fun g73 qm73 hI73 hF73 hq73 hx73 => ?_)
          have ek73_25_0_17 : (g73 25 0 17).toInt = (g71 25 0 17).toInt := by rw [hq73 25 0 17 (fun h => absurd h.1 (by decide))]
          have c73_25_0_17x : zB (g73 25 0 17) 0 120 := by rw [hq73 25 0 17 (fun h => absurd h.1 (by decide))]; exact c71_25_0_17x
          have ek73_25_0_20 : (g73 25 0 20).toInt = (g71 25 0 20).toInt := by rw [hq73 25 0 20 (fun h => absurd h.1 (by decide))]
          have c73_25_0_20x : zB (g73 25 0 20) 0 11 := by rw [hq73 25 0 20 (fun h => absurd h.1 (by decide))]; exact c71_25_0_20x
          have h1873 : g73 25 0 16 = nI n := by rw [qm73]; exact (zup_ne _ _ (fun h => absurd h.1 (by decide))).trans h1871
          have hTp73 : ∀ i, i < n → g73 36 0 i = T i := fun i hi => by rw [qm73]; exact (zup_ne _ _ (fun h => absurd h.1 (by decide))).trans (hTp71 i hi)
          have hq73 : g73 25 0 17 = nI ((g220_ 25 0 17).toInt.toNat) := by rw [qm73]; exact (zup_ne _ _ (fun h => absurd h.1 (by decide))).trans hq71
          refine z_aload_n (pc := 273) C dX10_readPaper_273 rfl ?_
          refine z_getR (pc := 274) C zf_X10_46 rfl rfl (by decide) dX10_readPaper_274 ?_
          refine z_iload_n (pc := 277) C dX10_readPaper_277 rfl ?_
          refine z_iconst (pc := 278) (v := 5) C dX10_readPaper_278 (by decide) ?_
          refine z_iadd (pc := 279) C dX10_readPaper_279 ?_
          refine w_gp (fun v => v = a220_2 + (5 : Int32)) rfl (fun v74 q74 => ?_)
          have e74 : v74.toInt = a220_2.toInt + 5 := by rw [q74]; exact (zadd_eb b220_2 (zB.of (x := 5) 5 (by decide)) (by decide) (by decide))
          have b74x : zB v74 5 93 := by have q1 := b220_2; have q2 := (zB.of (x := 5) 5 (by decide)); constructor <;> omega
          refine z_iload (pc := 280) C dX10_readPaper_280 rfl ?_
          have kw282_74 : v74.toNatClampNeg = v74.toInt.toNat := rfl
          refine z_iast (pc := 282) C rfl (by decide) (zIx b74x (by decide) (by decide)) dX10_readPaper_282 ?_
          refine w_memx hI73 hF73 (by rw [zrg38 (r := 5) (by have hq : v74.toNatClampNeg = v74.toInt.toNat := rfl; have hq2 := b74x; omega)]; exact b220_6) rfl (fun g75 qm75 hI75 hF75 hq75 hx75 => ?_)
          have ek75_25_0_17 : (g75 25 0 17).toInt = (g73 25 0 17).toInt := by rw [hq75 25 0 17 (fun h => absurd h.1 (by decide))]
          have c75_25_0_17x : zB (g75 25 0 17) 0 120 := by rw [hq75 25 0 17 (fun h => absurd h.1 (by decide))]; exact c73_25_0_17x
          have ek75_25_0_20 : (g75 25 0 20).toInt = (g73 25 0 20).toInt := by rw [hq75 25 0 20 (fun h => absurd h.1 (by decide))]
          have c75_25_0_20x : zB (g75 25 0 20) 0 11 := by rw [hq75 25 0 20 (fun h => absurd h.1 (by decide))]; exact c73_25_0_20x
          have h1875 : g75 25 0 16 = nI n := by rw [qm75]; exact (zup_ne _ _ (fun h => absurd h.1 (by decide))).trans h1873
          have hTp75 : ∀ i, i < n → g75 36 0 i = T i := fun i hi => by rw [qm75]; exact (zup_ne _ _ (fun h => absurd h.1 (by decide))).trans (hTp73 i hi)
          have hq75 : g75 25 0 17 = nI ((g220_ 25 0 17).toInt.toNat) := by rw [qm75]; exact (zup_ne _ _ (fun h => absurd h.1 (by decide))).trans hq73
          refine z_aload_n (pc := 283) C dX10_readPaper_283 rfl ?_
          refine z_getR (pc := 284) C zf_X10_46 rfl rfl (by decide) dX10_readPaper_284 ?_
          refine z_iload_n (pc := 287) C dX10_readPaper_287 rfl ?_
          refine z_bipush (pc := 288) (v := 6) C dX10_readPaper_288 (by decide) ?_
          refine z_iadd (pc := 290) C dX10_readPaper_290 ?_
          refine w_gp (fun v => v = a220_2 + (6 : Int32)) rfl (fun v76 q76 => ?_)
          have e76 : v76.toInt = a220_2.toInt + 6 := by rw [q76]; exact (zadd_eb b220_2 (zB.of (x := 6) 6 (by decide)) (by decide) (by decide))
          have b76x : zB v76 6 94 := by have q1 := b220_2; have q2 := (zB.of (x := 6) 6 (by decide)); constructor <;> omega
          refine z_iload (pc := 291) C dX10_readPaper_291 rfl ?_
          have kw293_76 : v76.toNatClampNeg = v76.toInt.toNat := rfl
          refine z_iast (pc := 293) C rfl (by decide) (zIx b76x (by decide) (by decide)) dX10_readPaper_293 ?_
          refine w_memx hI75 hF75 (by rw [zrg38 (r := 6) (by have hq : v76.toNatClampNeg = v76.toInt.toNat := rfl; have hq2 := b76x; omega)]; exact b220_7) rfl (fun g77 qm77 hI77 hF77 hq77 hx77 => ?_)
          have ek77_25_0_17 : (g77 25 0 17).toInt = (g75 25 0 17).toInt := by rw [hq77 25 0 17 (fun h => absurd h.1 (by decide))]
          have c77_25_0_17x : zB (g77 25 0 17) 0 120 := by rw [hq77 25 0 17 (fun h => absurd h.1 (by decide))]; exact c75_25_0_17x
          have ek77_25_0_20 : (g77 25 0 20).toInt = (g75 25 0 20).toInt := by rw [hq77 25 0 20 (fun h => absurd h.1 (by decide))]
          have c77_25_0_20x : zB (g77 25 0 20) 0 11 := by rw [hq77 25 0 20 (fun h => absurd h.1 (by decide))]; exact c75_25_0_20x
          have h1877 : g77 25 0 16 = nI n := by rw [qm77]; exact (zup_ne _ _ (fun h => absurd h.1 (by decide))).trans h1875
          have hTp77 : ∀ i, i < n → g77 36 0 i = T i := fun i hi => by rw [qm77]; exact (zup_ne _ _ (fun h => absurd h.1 (by decide))).trans (hTp75 i hi)
          have hq77 : g77 25 0 17 = nI ((g220_ 25 0 17).toInt.toNat) := by rw [qm77]; exact (zup_ne _ _ (fun h => absurd h.1 (by decide))).trans hq75
          refine z_aload_n (pc := 294) C dX10_readPaper_294 rfl ?_
          refine z_getR (pc := 295) C zf_X10_46 rfl rfl (by decide) dX10_readPaper_295 ?_
          refine z_iload_n (pc := 298) C dX10_readPaper_298 rfl ?_
          refine z_bipush (pc := 299) (v := 7) C dX10_readPaper_299 (by decide) ?_
          refine z_iadd (pc := 301) C dX10_readPaper_301 ?_
          refine w_gp (fun v => v = a220_2 + (7 : Int32)) rfl (fun v78 q78 => ?_)
          have e78 : v78.toInt = a220_2.toInt + 7 := by rw [q78]; exact (zadd_eb b220_2 (zB.of (x := 7) 7 (by decide)) (by decide) (by decide))
          have b78x : zB v78 7 95 := by have q1 := b220_2; have q2 := (zB.of (x := 7) 7 (by decide)); constructor <;> omega
          refine z_iload (pc := 302) C dX10_readPaper_302 rfl ?_
          have kw304_78 : v78.toNatClampNeg = v78.toInt.toNat := rfl
          refine z_iast (pc := 304) C rfl (by decide) (zIx b78x (by decide) (by decide)) dX10_readPaper_304 ?_
          refine w_memx hI77 hF77 (by rw [zrg38 (r := 7) (by have hq : v78.toNatClampNeg = v78.toInt.toNat := rfl; have hq2 := b78x; omega)]; exact b220_8) rfl (fun g79 qm79 hI79 hF79 hq79 hx79 => ?_)
          have ek79_25_0_17 : (g79 25 0 17).toInt = (g77 25 0 17).toInt := by rw [hq79 25 0 17 (fun h => absurd h.1 (by decide))]
          have c79_25_0_17x : zB (g79 25 0 17) 0 120 := by rw [hq79 25 0 17 (fun h => absurd h.1 (by decide))]; exact c77_25_0_17x
          have ek79_25_0_20 : (g79 25 0 20).toInt = (g77 25 0 20).toInt := by rw [hq79 25 0 20 (fun h => absurd h.1 (by decide))]
          have c79_25_0_20x : zB (g79 25 0 20) 0 11 := by rw [hq79 25 0 20 (fun h => absurd h.1 (by decide))]; exact c77_25_0_20x
          have h1879 : g79 25 0 16 = nI n := by rw [qm79]; exact (zup_ne _ _ (fun h => absurd h.1 (by decide))).trans h1877
          have hTp79 : ∀ i, i < n → g79 36 0 i = T i := fun i hi => by rw [qm79]; exact (zup_ne _ _ (fun h => absurd h.1 (by decide))).trans (hTp77 i hi)
          have hq79 : g79 25 0 17 = nI ((g220_ 25 0 17).toInt.toNat) := by rw [qm79]; exact (zup_ne _ _ (fun h => absurd h.1 (by decide))).trans hq77
          refine z_aload_n (pc := 305) C dX10_readPaper_305 rfl ?_
          refine z_dupr (pc := 306) C dX10_readPaper_306 ?_
          refine z_getI (pc := 307) C zf_X10_233 rfl rfl (by decide) dX10_readPaper_307 ?_
          refine w_gp (fun v => v = g79 25 0 20) rfl (fun v80 q80 => ?_)
          have e80 : v80.toInt = (g79 25 0 20).toInt := by rw [q80]
          have b80x : zB v80 0 11 := by first | exact zB.eqv e80 c79_25_0_20x | (have q9 := c79_25_0_20x; constructor <;> omega)
          refine z_iconst (pc := 310) (v := 1) C dX10_readPaper_310 (by decide) ?_
          refine z_iadd (pc := 311) C dX10_readPaper_311 ?_
          refine w_gp (fun v => v = v80 + (1 : Int32)) rfl (fun v81 q81 => ?_)
          have e81 : v81.toInt = v80.toInt + 1 := by rw [q81]; exact (zadd_eb b80x (zB.of (x := 1) 1 (by decide)) (by decide) (by decide))
          have b81x : zB v81 1 12 := by have q1 := b80x; have q2 := (zB.of (x := 1) 1 (by decide)); constructor <;> omega
          refine z_putI (pc := 312) C zf_X10_233 zp_10_20 rfl rfl (by decide) dX10_readPaper_312 ?_
          refine w_memx hI79 hF79 (zB.wk (a' := 0) (b' := 12) b81x (by decide) (by decide)) rfl (fun g82 qm82 hI82 hF82 hq82 hx82 => ?_)
          have ek82_25_0_17 : (g82 25 0 17).toInt = (g79 25 0 17).toInt := by rw [hq82 25 0 17 (fun h => absurd h.2 (by decide))]
          have c82_25_0_17x : zB (g82 25 0 17) 0 120 := by rw [hq82 25 0 17 (fun h => absurd h.2 (by decide))]; exact c79_25_0_17x
          have ec82 : (g82 25 0 20).toInt = v81.toInt := by rw [hx82]
          have c82x : zB (g82 25 0 20) 1 12 := by first | exact zB.eqv ec82 b81x | (have q9 := b81x; constructor <;> omega)
          have h1882 : g82 25 0 16 = nI n := by rw [qm82]; exact (zup_ne _ _ (fun h => absurd h.2.2 (by decide))).trans h1879
          have hTp82 : ∀ i, i < n → g82 36 0 i = T i := fun i hi => by rw [qm82]; exact (zup_ne _ _ (fun h => absurd h.1 (by decide))).trans (hTp79 i hi)
          have hq82 : g82 25 0 17 = nI ((g220_ 25 0 17).toInt.toNat) := by rw [qm82]; exact (zup_ne _ _ (fun h => absurd h.2.2 (by decide))).trans hq79
          refine z_iconst (pc := 315) (v := 1) C dX10_readPaper_315 (by decide) ?_
          exact z_zret (pc := 316) C hr (z01 (zB.wk (a' := 0) (b' := 1) (zB.of (x := 1) 1 (by decide)) (by decide) (by decide))) dX10_readPaper_316 ⟨⟨_, rfl, (zB.wk (a' := 0) (b' := 1) (zB.of (x := 1) 1 (by decide)) (by decide) (by decide))⟩, hI82, hF82, (by
                                                                                          intro v hv; cases hv
                                                                                          have hr := zrow8 (k := 38) (K := 8 * (f 25 0 20).toInt.toNat) qm65 qm67 qm69 qm71 qm73 qm75 qm77 qm79 (show (a220_2).toNatClampNeg = 8 * (f 25 0 20).toInt.toNat + 0 by omega) (show (v66).toNatClampNeg = 8 * (f 25 0 20).toInt.toNat + 1 by omega) (show (v68).toNatClampNeg = 8 * (f 25 0 20).toInt.toNat + 2 by omega) (show (v70).toNatClampNeg = 8 * (f 25 0 20).toInt.toNat + 3 by omega) (show (v72).toNatClampNeg = 8 * (f 25 0 20).toInt.toNat + 4 by omega) (show (v74).toNatClampNeg = 8 * (f 25 0 20).toInt.toNat + 5 by omega) (show (v76).toNatClampNeg = 8 * (f 25 0 20).toInt.toNat + 6 by omega) (show (v78).toNatClampNeg = 8 * (f 25 0 20).toInt.toNat + 7 by omega)
                                                                                          refine Or.inr ⟨_, zc8 (zkd a220_4) a1 a220_3 a220_5 0 a220_6 a220_7 a220_8, ?_, hq82, hR220_2, rfl, ?_, ?_, ?_⟩
                                                                                          · exact hR220_6
                                                                                          · rw [z32eq]
                                                                                            have e1 : (f 25 0 20 + 1 : Int32).toInt = (f 25 0 20).toInt + 1 := zadd_eb pf25_0_20 (zB.of (x := 1) 1 (by decide)) (by decide) (by decide)
                                                                                            omega
                                                                                          · intro j hj
                                                                                            rw [qm82, zup_ne _ _ (fun h => absurd h.1 (by decide))]
                                                                                            first
                                                                                              | (rw [show zkd a220_4 = 0 from by unfold zkd; rw [if_pos (by assumption)]]; exact hr.1 j hj)
                                                                                              | (rw [show zkd a220_4 = 2 from by unfold zkd; rw [if_neg (by assumption)]]; exact hr.1 j hj)
                                                                                          · intro x hx
                                                                                            rw [qm82, zup_ne _ _ (fun h => absurd h.1 (by decide)), hr.2 x hx]
                                                                                            exact hR220_5 0 x)⟩

set_option maxRecDepth 100000 in
set_option maxHeartbeats 4000000 in
theorem e_X10_readPaper (d : Nat) (f : zM) (a1 : Int32) (b1 : zB a1 0 5) (pf25_0_20 : zB (f 25 0 20) 0 11) (T : Nat → Int32) (n p : Nat) (hN : n ≤ 120) (h18 : f 25 0 16 = nI n) (hTp : ∀ i, i < n → f 36 0 i = T i) (hp : f 25 0 17 = nI p) (hb : p ≤ n) (hI : zInv f) : ZM (d + 2) yX10_readPaper cX10_readPaper 9 (some .boolean) [zr 25 0, zi a1] f (fun r g => (∃ v, r = some (zi v) ∧ zB v 0 1) ∧ zInv g ∧ zFr [(25, some 17), (25, some 20), (38, none)] f g ∧ (∀ v : Int32, r = some (zi v) → (∃ e, zpaR T n a1 p = .inl e ∧ e ≤ n ∧ g 25 0 17 = nI e ∧ v = 0) ∨ (∃ q c, zpaR T n a1 p = .inr (c, q) ∧ g 25 0 17 = nI q ∧ q ≤ n ∧ v = 1 ∧ g 25 0 20 = f 25 0 20 + 1 ∧ (∀ j, j < 8 → g 38 0 (8 * (f 25 0 20).toInt.toNat + j) = c j) ∧ (∀ x, (x < 8 * (f 25 0 20).toInt.toNat ∨ 8 * (f 25 0 20).toInt.toNat + 8 ≤ x) → g 38 0 x = f 38 0 x)))) := by
  refine ZM.intro (by decide +kernel) (Nat.le_of_ble_eq_true rfl) ?_
  intro X C hr hn
  have hF : zFr [(25, some 17), (25, some 20), (38, none)] f f := zFr.rf _ _
  have ct25_0_17 : zB (f 25 0 17) 0 120 := hI 25 0 17
  have J : ∀ t : Nat, (∀ a86_2 : Int32, zB a86_2 0 88 → a86_2.toInt % 8 = 0 → ∀ a86_3 : Int32, zB a86_3 0 5 → ∀ a86_4 : Int32, zB a86_4 0 1 → ∀ a86_5 : Int32, zB a86_5 1 40 → ∀ a86_6 : Int32, zB a86_6 0 31 → ∀ g : zM, zInv g → zFr [(25, some 17), (25, some 20), (38, none)] f g → zB (g 25 0 17) 0 120 → zB (g 25 0 20) 0 11 → (g 25 0 16 = nI n) → (∀ i, i < n → g 36 0 i = T i) → ((g 25 0 17).toInt.toNat ≤ n) → ((g 25 0 20).toInt = (f 25 0 20).toInt) → (a86_2.toInt = 8 * (f 25 0 20).toInt) → (∀ x j, g 38 x j = f 38 x j) → (∃ K : Nat, K + zpc a86_6 = 6 ∧ zpaR T n a1 p = zbd (zrb T n K ((g 25 0 17).toInt.toNat) a86_6) (fun bars p3 => zPb (zprR T n) T n (zkd a86_4) a1 a86_3 a86_5 bars p3)) → (607 + 610 * (120 - (g 25 0 17).toInt) : Int) < t → Z X 86 [some (zr 25 0), some (zi a1), some (zi a86_2), some (zi a86_3), some (zi a86_4), some (zi a86_5), some (zi a86_6), none, none] [] g) ∧ (∀ a176_2 : Int32, zB a176_2 0 88 → a176_2.toInt % 8 = 0 → ∀ a176_3 : Int32, zB a176_3 0 5 → ∀ a176_4 : Int32, zB a176_4 0 1 → ∀ a176_5 : Int32, zB a176_5 1 40 → ∀ a176_6 : Int32, zB a176_6 0 31 → ∀ a176_7 : Int32, zB a176_7 0 99 → ∀ a176_8 : Int32, zB a176_8 0 7 → ∀ g : zM, zInv g → zFr [(25, some 17), (25, some 20), (38, none)] f g → zB (g 25 0 17) 0 120 → zB (g 25 0 20) 0 11 → (g 25 0 16 = nI n) → (∀ i, i < n → g 36 0 i = T i) → ((g 25 0 17).toInt.toNat ≤ n) → ((g 25 0 20).toInt = (f 25 0 20).toInt) → (a176_2.toInt = 8 * (f 25 0 20).toInt) → (∀ x j, g 38 x j = f 38 x j) → (∃ K : Nat, K + zpc a176_8 = 4 ∧ zpaR T n a1 p = zbd (zrp T n K ((g 25 0 17).toInt.toNat) a176_8) (fun prm p5 => .inr (zc8 (zkd a176_4) a1 a176_3 a176_5 0 a176_6 a176_7 prm, p5))) → (1 + 5 * (120 - (g 25 0 17).toInt) : Int) < t → Z X 176 [some (zr 25 0), some (zi a1), some (zi a176_2), some (zi a176_3), some (zi a176_4), some (zi a176_5), some (zi a176_6), some (zi a176_7), some (zi a176_8)] [] g) ∧ (∀ a220_2 : Int32, zB a220_2 0 88 → a220_2.toInt % 8 = 0 → ∀ a220_3 : Int32, zB a220_3 0 5 → ∀ a220_4 : Int32, zB a220_4 0 1 → ∀ a220_5 : Int32, zB a220_5 1 40 → ∀ a220_6 : Int32, zB a220_6 0 31 → ∀ a220_7 : Int32, zB a220_7 0 99 → ∀ a220_8 : Int32, zB a220_8 0 7 → ∀ g : zM, zInv g → zFr [(25, some 17), (25, some 20), (38, none)] f g → zB (g 25 0 17) 0 120 → zB (g 25 0 20) 0 11 → (g 25 0 16 = nI n) → (∀ i, i < n → g 36 0 i = T i) → ((g 25 0 17).toInt.toNat ≤ n) → ((g 25 0 20).toInt = (f 25 0 20).toInt) → (a220_2.toInt = 8 * (f 25 0 20).toInt) → (∀ x j, g 38 x j = f 38 x j) → (zpaR T n a1 p = .inr (zc8 (zkd a220_4) a1 a220_3 a220_5 0 a220_6 a220_7 a220_8, (g 25 0 17).toInt.toNat)) → (0 : Int) < t → Z X 220 [some (zr 25 0), some (zi a1), some (zi a220_2), some (zi a220_3), some (zi a220_4), some (zi a220_5), some (zi a220_6), some (zi a220_7), some (zi a220_8)] [] g) := by
    intro t
    induction t with
    | zero =>
      refine ⟨?_, ?_, ?_⟩ <;> (intros; exfalso; omega)
    | succ t ih =>
      obtain ⟨ih0, ih1, ih2⟩ := ih
      refine ⟨?_, ?_, ?_⟩
      · exact e_X10_readPaper_n0 d f a1 b1 pf25_0_20 T n p hN h18 hTp hp hb hI X C hr hn t ih0 ih1 ih2
      · exact e_X10_readPaper_n1 d f a1 b1 pf25_0_20 T n p hN h18 hTp hp hb hI X C hr hn t ih0 ih1 ih2
      · exact e_X10_readPaper_n2 d f a1 b1 pf25_0_20 T n p hN h18 hTp hp hb hI X C hr hn t ih0 ih1 ih2
  obtain ⟨J0, J1, J2⟩ := J 74429
  show Z X 0 [some (zr 25 0), some (zi a1), none, none, none, none, none, none, none] [] f
  refine z_bipush (pc := 0) (v := 8) C dX10_readPaper_0 (by decide) ?_
  refine z_aload_n (pc := 2) C dX10_readPaper_2 rfl ?_
  refine z_getI (pc := 3) C zf_X10_233 rfl rfl (by decide) dX10_readPaper_3 ?_
  refine w_gp (fun v => v = f 25 0 20) rfl (fun v83 q83 => ?_)
  have e83 : v83.toInt = (f 25 0 20).toInt := by rw [q83]
  have b83x : zB v83 0 11 := by first | exact zB.eqv e83 pf25_0_20 | (have q9 := pf25_0_20; constructor <;> omega)
  refine z_imul (pc := 6) C dX10_readPaper_6 ?_
  refine w_gp (fun v => v = (8 : Int32) * v83) rfl (fun v84 q84 => ?_)
  have e84 : v84.toInt = 8 * v83.toInt := by rw [q84]; exact (zmul_kb 8 (by decide) (by decide) b83x (by decide) (by decide))
  have b84x : zB v84 0 88 := zmul_bb e84 (by decide) b83x
  refine z_istore_n (pc := 7) C dX10_readPaper_7 (by rw [hn]; decide) rfl ?_
  refine z_aload_n (pc := 8) C dX10_readPaper_8 rfl ?_
  refine z_callV (pc := 9) C zk_X10_214 (e_X10_next _ _ T n (p) hN h18 hTp hp hb hI) rfl rfl (by decide) rfl rfl (Nat.le_of_ble_eq_true rfl) dX10_readPaper_9 (fun r85 g85 q85 => ?_)
  obtain ⟨⟨v85, rfl, b85x⟩, hI85, hF85q, hp85⟩ := q85
  have hp85 := hp85 _ rfl
  have hF85 := zFr.tr hF hF85q (by decide)
  simp only [Option.toList, List.cons_append, List.nil_append]
  have cr85_25_0_17 : zB (g85 25 0 17) 0 120 := hI85 25 0 17
  have ek85_25_0_20 : (g85 25 0 20).toInt = (f 25 0 20).toInt := by rw [hF85q 25 0 20 rfl]
  have c85_25_0_20x : zB (g85 25 0 20) 0 11 := by rw [hF85q 25 0 20 rfl]; exact pf25_0_20
  obtain ⟨hv85, hq85, hj85⟩ := hp85
  have h1885 : g85 25 0 16 = nI n := (hF85q 25 0 16 rfl).trans h18
  have hTp85 : ∀ i, i < n → g85 36 0 i = T i := fun i hi => (hF85q 36 0 i rfl).trans (hTp i hi)
  have kk38_85 : ∀ x j, g85 38 x j = f 38 x j := fun x j => (hF85q 38 x j rfl).trans ((fun _ _ => rfl) x j)
  have hb85 : zsp T n (p) ≤ n := zsp_len hb
  have ez85 : (g85 25 0 17).toInt = ((zsp T n (p) : Nat) : Int) := by rw [hq85]; exact nI_toInt (by have := hb85; omega)
  have zg85 := zsp_ge T n (p)
  refine z_bipush (pc := 12) (v := 65) C dX10_readPaper_12 (by decide) ?_
  refine z_isub (pc := 14) C dX10_readPaper_14 ?_
  refine w_gp (fun v => v = v85 - (65 : Int32)) rfl (fun v86 q86 => ?_)
  have e86 : v86.toInt = v85.toInt - 65 := by rw [q86]; exact (zsub_eb b85x (zB.of (x := 65) 65 (by decide)) (by decide) (by decide))
  have b86x : zB v86 (-66) 190 := by have q1 := b85x; have q2 := (zB.of (x := 65) 65 (by decide)); constructor <;> omega
  refine z_istore_n (pc := 15) C dX10_readPaper_15 (by rw [hn]; decide) rfl ?_
  refine z_iload_n (pc := 16) C dX10_readPaper_16 rfl ?_
  refine z_callSb (pc := 17) C zk_X10_83 (m_X10_isLand _ _ _) rfl rfl (Nat.le_of_ble_eq_true rfl) dX10_readPaper_17 (fun h17_86 => ?_) (fun h17_86 => ?_)
  · skip
    have b88x : zB v86 0 5 := h17_86
    have b89x : zB v85 65 70 := by first | assumption | (constructor <;> omega)
    have c90x : zB (g85 25 0 17) 0 119 := by first | assumption | (constructor <;> omega)
    refine z_if_eq (pc := 20) 28 C dX10_readPaper_20 (by decide) (fun h => absurd h (by decide)) (fun _ => ?_)
    refine z_iload_n (pc := 23) C dX10_readPaper_23 rfl ?_
    refine z_iload_n (pc := 24) C dX10_readPaper_24 rfl ?_
    refine z_icmp_ne (pc := 25) 30 C dX10_readPaper_25 (by decide) (fun h25_90 => ?_) (fun h25_90 => ?_)
    · skip
      refine z_aload_n (pc := 30) C dX10_readPaper_30 rfl ?_
      refine z_dupr (pc := 31) C dX10_readPaper_31 ?_
      refine z_getI (pc := 32) C zf_X10_211 rfl rfl (by decide) dX10_readPaper_32 ?_
      refine w_gp (fun v => v = g85 25 0 17) rfl (fun v92 q92 => ?_)
      have e92 : v92.toInt = (g85 25 0 17).toInt := by rw [q92]
      have b92x : zB v92 0 119 := by first | exact zB.eqv e92 c90x | (have q9 := c90x; constructor <;> omega)
      refine z_iconst (pc := 35) (v := 1) C dX10_readPaper_35 (by decide) ?_
      refine z_iadd (pc := 36) C dX10_readPaper_36 ?_
      refine w_gp (fun v => v = v92 + (1 : Int32)) rfl (fun v93 q93 => ?_)
      have e93 : v93.toInt = v92.toInt + 1 := by rw [q93]; exact (zadd_eb b92x (zB.of (x := 1) 1 (by decide)) (by decide) (by decide))
      have b93x : zB v93 1 120 := by have q1 := b92x; have q2 := (zB.of (x := 1) 1 (by decide)); constructor <;> omega
      refine z_putI (pc := 37) C zf_X10_211 zp_10_17 rfl rfl (by decide) dX10_readPaper_37 ?_
      refine w_memx hI85 hF85 (zB.wk (a' := 0) (b' := 120) b93x (by decide) (by decide)) rfl (fun g94 qm94 hI94 hF94 hq94 hx94 => ?_)
      have ec94 : (g94 25 0 17).toInt = v93.toInt := by rw [hx94]
      have c94x : zB (g94 25 0 17) 1 120 := by first | exact zB.eqv ec94 b93x | (have q9 := b93x; constructor <;> omega)
      have ek94_25_0_20 : (g94 25 0 20).toInt = (g85 25 0 20).toInt := by rw [hq94 25 0 20 (fun h => absurd h.2 (by decide))]
      have c94_25_0_20x : zB (g94 25 0 20) 0 11 := by rw [hq94 25 0 20 (fun h => absurd h.2 (by decide))]; exact c85_25_0_20x
      have h1894 : g94 25 0 16 = nI n := by rw [qm94]; exact (zup_ne _ _ (fun h => absurd h.2.2 (by decide))).trans h1885
      have hTp94 : ∀ i, i < n → g94 36 0 i = T i := fun i hi => by rw [qm94]; exact (zup_ne _ _ (fun h => absurd h.1 (by decide))).trans (hTp85 i hi)
      have hq94 : g94 25 0 17 = nI (zsp T n (p) + 1) := by rw [qm94, zup_same, q93, q92, hq85, nI_succ]
      have hb94 : zsp T n (p) + 1 ≤ n := zch_lt (fun h => by rw [← hv85, z32eq] at h; have c1 : (-1 : Int32).toInt = -1 := (by decide); omega)
      have ez94 : (g94 25 0 17).toInt = ((zsp T n (p) + 1 : Nat) : Int) := by rw [hq94]; exact nI_toInt (by have := hb94; omega)
      have kk38_94 : ∀ x j, g94 38 x j = f 38 x j := fun x j => by rw [qm94]; exact (zup_ne _ _ (fun h => absurd h.1 (by decide))).trans (kk38_85 x j)
      have hl14 : v86 = zch T n (zsp T n (p)) - 65 := by rw [q86, hv85]
      have hzl : zld T n a1 (p) = .inr (v86, zsp T n (p) + 1) := by unfold zld; rw [← hl14, if_pos ⟨by assumption, by assumption⟩]
      refine z_aload_n (pc := 40) C dX10_readPaper_40 rfl ?_
      refine z_bipush (pc := 41) (v := 42) C dX10_readPaper_41 (by decide) ?_
      refine z_callV (pc := 43) C zk_X10_227 (e_X10_takes _ _ 42 (zB.wk (a' := 1) (b' := 126) (zB.of (x := 42) 42 (by decide)) (by decide) (by decide)) T n (zsp T n (p) + 1) hN h1894 hTp94 hq94 hb94 hI94) rfl rfl (by decide) rfl rfl (Nat.le_of_ble_eq_true rfl) dX10_readPaper_43 (fun r95 g95 q95 => ?_)
      obtain ⟨⟨v95, rfl, b95x⟩, hI95, hF95q, hp95⟩ := q95
      have hp95 := hp95 _ rfl
      have hF95 := zFr.tr hF94 hF95q (by decide)
      simp only [Option.toList, List.cons_append, List.nil_append]
      have cr95_25_0_17 : zB (g95 25 0 17) 0 120 := hI95 25 0 17
      have ek95_25_0_20 : (g95 25 0 20).toInt = (g94 25 0 20).toInt := by rw [hF95q 25 0 20 rfl]
      have c95_25_0_20x : zB (g95 25 0 20) 0 11 := by rw [hF95q 25 0 20 rfl]; exact c94_25_0_20x
      have h1895 : g95 25 0 16 = nI n := (hF95q 25 0 16 rfl).trans h1894
      have hTp95 : ∀ i, i < n → g95 36 0 i = T i := fun i hi => (hF95q 36 0 i rfl).trans (hTp94 i hi)
      have kk38_95 : ∀ x j, g95 38 x j = f 38 x j := fun x j => (hF95q 38 x j rfl).trans (kk38_94 x j)
      rcases hp95 with ⟨hc95, rfl, hq95, hb95⟩ | ⟨hc95, rfl, hq95⟩
      · skip
        refine z_istore (pc := 46) C dX10_readPaper_46 (by rw [hn]; decide) rfl ?_
        refine z_iconst (pc := 48) (v := 1) C dX10_readPaper_48 (by decide) ?_
        refine z_istore (pc := 49) C dX10_readPaper_49 (by rw [hn]; decide) rfl ?_
        refine z_iload (pc := 51) C dX10_readPaper_51 rfl ?_
        refine z_if_ne (pc := 53) 83 C dX10_readPaper_53 (by decide) (fun h53_95 => ?_) (fun h53_95 => absurd h53_95 (by decide))
        refine z_iconst (pc := 83) (v := 0) C dX10_readPaper_83 (by decide) ?_
        refine z_istore (pc := 84) C dX10_readPaper_84 (by rw [hn]; decide) rfl ?_
        exact J0 v84 b84x (by have qc0 : (0 : Int32).toInt = 0 := (by decide); have qc1 : (1 : Int32).toInt = 1 := (by decide); omega) v86 b88x 1 (zB.wk (a' := 0) (b' := 1) (zB.of (x := 1) 1 (by decide)) (by decide) (by decide)) 1 (zB.wk (a' := 1) (b' := 40) (zB.of (x := 1) 1 (by decide)) (by decide) (by decide)) 0 (zB.wk (a' := 0) (b' := 31) (zB.of (x := 0) 0 (by decide)) (by decide) (by decide)) g95 hI95 hF95 cr95_25_0_17 c95_25_0_20x (by exact h1895) (by exact hTp95) (by rw [hq95, nI_tt (by have := hb95; omega)]; exact hb95) (by have qc0 : (0 : Int32).toInt = 0 := (by decide); have qc1 : (1 : Int32).toInt = 1 := (by decide); omega) (by have qc0 : (0 : Int32).toInt = 0 := (by decide); have qc1 : (1 : Int32).toInt = 1 := (by decide); omega) (by exact kk38_95) (by
                                                                                          refine ⟨6, by decide, ?_⟩
                                                                                          rw [hq95, nI_tt (by have := hb95; omega)]
                                                                                          unfold zpaR zPaR zbrR
                                                                                          simp only [zbd, hzl, if_pos hc95]
                                                                                          rfl) (by have qc0 : (0 : Int32).toInt = 0 := (by decide); have qc1 : (1 : Int32).toInt = 1 := (by decide); omega)
      · skip
        have hb95 : zsp T n (zsp T n (p) + 1) ≤ n := zsp_len hb94
        refine z_istore (pc := 46) C dX10_readPaper_46 (by rw [hn]; decide) rfl ?_
        refine z_iconst (pc := 48) (v := 1) C dX10_readPaper_48 (by decide) ?_
        refine z_istore (pc := 49) C dX10_readPaper_49 (by rw [hn]; decide) rfl ?_
        refine z_iload (pc := 51) C dX10_readPaper_51 rfl ?_
        refine z_if_ne (pc := 53) 83 C dX10_readPaper_53 (by decide) (fun h53_96 => absurd h53_96 (by decide)) (fun h53_96 => ?_)
        refine z_aload_n (pc := 56) C dX10_readPaper_56 rfl ?_
        refine z_bipush (pc := 57) (v := 121) C dX10_readPaper_57 (by decide) ?_
        refine z_callV (pc := 59) C zk_X10_227 (e_X10_takes _ _ 121 (zB.wk (a' := 1) (b' := 126) (zB.of (x := 121) 121 (by decide)) (by decide) (by decide)) T n (zsp T n (zsp T n (p) + 1)) hN h1895 hTp95 hq95 hb95 hI95) rfl rfl (by decide) rfl rfl (Nat.le_of_ble_eq_true rfl) dX10_readPaper_59 (fun r98 g98 q98 => ?_)
        obtain ⟨⟨v98, rfl, b98x⟩, hI98, hF98q, hp98⟩ := q98
        have hp98 := hp98 _ rfl
        have hF98 := zFr.tr hF95 hF98q (by decide)
        simp only [Option.toList, List.cons_append, List.nil_append]
        have cr98_25_0_17 : zB (g98 25 0 17) 0 120 := hI98 25 0 17
        have ek98_25_0_20 : (g98 25 0 20).toInt = (g95 25 0 20).toInt := by rw [hF98q 25 0 20 rfl]
        have c98_25_0_20x : zB (g98 25 0 20) 0 11 := by rw [hF98q 25 0 20 rfl]; exact c95_25_0_20x
        have h1898 : g98 25 0 16 = nI n := (hF98q 25 0 16 rfl).trans h1895
        have hTp98 : ∀ i, i < n → g98 36 0 i = T i := fun i hi => (hF98q 36 0 i rfl).trans (hTp95 i hi)
        have kk38_98 : ∀ x j, g98 38 x j = f 38 x j := fun x j => (hF98q 38 x j rfl).trans (kk38_95 x j)
        rcases hp98 with ⟨hc98, rfl, hq98, hb98⟩ | ⟨hc98, rfl, hq98⟩
        · skip
          refine z_if_ne (pc := 62) 67 C dX10_readPaper_62 (by decide) (fun _ => ?_) (fun h => absurd h (by decide))
          refine z_aload_n (pc := 67) C dX10_readPaper_67 rfl ?_
          refine z_iconst (pc := 68) (v := 1) C dX10_readPaper_68 (by decide) ?_
          refine z_bipush (pc := 69) (v := 40) C dX10_readPaper_69 (by decide) ?_
          refine z_callV (pc := 71) C zk_X10_230 (e_X10_readNumber _ _ 1 (zB.wk (a' := 0) (b' := 40) (zB.of (x := 1) 1 (by decide)) (by decide) (by decide)) 40 (zB.wk (a' := 0) (b' := 99) (zB.of (x := 40) 40 (by decide)) (by decide) (by decide)) T n (zsp T n (zsp T n (zsp T n (p) + 1)) + 1) hN h1898 hTp98 hq98 hb98 hI98) rfl rfl (by decide) rfl rfl (Nat.le_of_ble_eq_true rfl) dX10_readPaper_71 (fun r99 g99 q99 => ?_)
          obtain ⟨⟨v99, rfl, b99x⟩, hI99, hF99q, hp99⟩ := q99
          have hp99 := hp99 _ rfl
          have hF99 := zFr.tr hF98 hF99q (by decide)
          simp only [Option.toList, List.cons_append, List.nil_append]
          have cr99_25_0_17 : zB (g99 25 0 17) 0 120 := hI99 25 0 17
          have ek99_25_0_20 : (g99 25 0 20).toInt = (g98 25 0 20).toInt := by rw [hF99q 25 0 20 rfl]
          have c99_25_0_20x : zB (g99 25 0 20) 0 11 := by rw [hF99q 25 0 20 rfl]; exact c98_25_0_20x
          rcases hp99 with ⟨u99, hc99, hb99, hq99, rfl⟩ | ⟨u99, hc99, hq99, hb99, hlo99, hhi99⟩
          · skip
            have hd99 : znu T n 1 40 (zsp T n (zsp T n (zsp T n (p) + 1)) + 1) = _ := hc99
            have h1899 : g99 25 0 16 = nI n := (hF99q 25 0 16 rfl).trans h1898
            have hTp99 : ∀ i, i < n → g99 36 0 i = T i := fun i hi => (hF99q 36 0 i rfl).trans (hTp98 i hi)
            have kk38_99 : ∀ x j, g99 38 x j = f 38 x j := fun x j => (hF99q 38 x j rfl).trans (kk38_98 x j)
            refine z_istore (pc := 74) C dX10_readPaper_74 (by rw [hn]; decide) rfl ?_
            refine z_iload (pc := 76) C dX10_readPaper_76 rfl ?_
            refine z_if_ge (pc := 78) 83 C dX10_readPaper_78 (by decide) (fun h78_99 => absurd h78_99 (by decide)) (fun h78_99 => ?_)
            refine z_iconst (pc := 81) (v := 0) C dX10_readPaper_81 (by decide) ?_
            exact z_zret (pc := 82) C hr (z01 (zB.wk (a' := 0) (b' := 1) (zB.of (x := 0) 0 (by decide)) (by decide) (by decide))) dX10_readPaper_82 ⟨⟨_, rfl, (zB.wk (a' := 0) (b' := 1) (zB.of (x := 0) 0 (by decide)) (by decide) (by decide))⟩, hI99, hF99, (by
                                                                                          intro v hv; cases hv
                                                                                          refine Or.inl ⟨_, ?_, hb99, hq99, rfl⟩
                                                                                          unfold zpaR zPaR
                                                                                          simp only [zbd, hzl, if_neg hc95, if_pos hc98, hd99])⟩
          · skip
            have hd99 : znu T n 1 40 (zsp T n (zsp T n (zsp T n (p) + 1)) + 1) = _ := hc99
            have h1899 : g99 25 0 16 = nI n := (hF99q 25 0 16 rfl).trans h1898
            have hTp99 : ∀ i, i < n → g99 36 0 i = T i := fun i hi => (hF99q 36 0 i rfl).trans (hTp98 i hi)
            have kk38_99 : ∀ x j, g99 38 x j = f 38 x j := fun x j => (hF99q 38 x j rfl).trans (kk38_98 x j)
            have bo99x : zB v99 1 40 := by have qk99_0 : (1 : Int32).toInt = 1 := (by decide); have qk99_1 : (40 : Int32).toInt = 40 := (by decide); constructor <;> omega
            refine z_istore (pc := 74) C dX10_readPaper_74 (by rw [hn]; decide) rfl ?_
            refine z_iload (pc := 76) C dX10_readPaper_76 rfl ?_
            refine z_if_ge (pc := 78) 83 C dX10_readPaper_78 (by decide) (fun h78_100 => ?_) (fun h78_100 => absurd h78_100 (by have q1 := bo99x; have q2 := (zB.of (x := 0) 0 (by decide)); first | (simp only [z32lt, z32le, z32eq]; omega) | (simp only [z32lt, z32le, z32eq] at *; omega)))
            refine z_iconst (pc := 83) (v := 0) C dX10_readPaper_83 (by decide) ?_
            refine z_istore (pc := 84) C dX10_readPaper_84 (by rw [hn]; decide) rfl ?_
            exact J0 v84 b84x (by have qc0 : (0 : Int32).toInt = 0 := (by decide); omega) v86 b88x 0 (zB.wk (a' := 0) (b' := 1) (zB.of (x := 0) 0 (by decide)) (by decide) (by decide)) v99 bo99x 0 (zB.wk (a' := 0) (b' := 31) (zB.of (x := 0) 0 (by decide)) (by decide) (by decide)) g99 hI99 hF99 cr99_25_0_17 c99_25_0_20x (by exact h1899) (by exact hTp99) (by rw [hq99, nI_tt (by have := hb99; omega)]; exact hb99) (by have qc0 : (0 : Int32).toInt = 0 := (by decide); omega) (by have qc0 : (0 : Int32).toInt = 0 := (by decide); omega) (by exact kk38_99) (by
                                                                                          refine ⟨6, by decide, ?_⟩
                                                                                          rw [hq99, nI_tt (by have := hb99; omega)]
                                                                                          unfold zpaR zPaR zbrR
                                                                                          simp only [zbd, hzl, if_neg hc95, if_pos hc98, hd99]
                                                                                          rfl) (by have qc0 : (0 : Int32).toInt = 0 := (by decide); omega)
        · skip
          have hb98 : zsp T n (zsp T n (zsp T n (p) + 1)) ≤ n := zsp_len hb95
          refine z_if_ne (pc := 62) 67 C dX10_readPaper_62 (by decide) (fun h => absurd (by decide) h) (fun _ => ?_)
          refine z_iconst (pc := 65) (v := 0) C dX10_readPaper_65 (by decide) ?_
          exact z_zret (pc := 66) C hr (z01 (zB.wk (a' := 0) (b' := 1) (zB.of (x := 0) 0 (by decide)) (by decide) (by decide))) dX10_readPaper_66 ⟨⟨_, rfl, (zB.wk (a' := 0) (b' := 1) (zB.of (x := 0) 0 (by decide)) (by decide) (by decide))⟩, hI98, hF98, (by
                                                                                          intro v hv; cases hv
                                                                                          refine Or.inl ⟨_, ?_, hb98, hq98, rfl⟩
                                                                                          unfold zpaR zPaR
                                                                                          simp only [zbd, hzl, if_neg hc95, if_neg hc98])⟩
    · skip
      have rr102 : v86.toInt = a1.toInt := by simp only [z32lt, z32le, z32eq] at h25_90; omega
      refine z_iconst (pc := 28) (v := 0) C dX10_readPaper_28 (by decide) ?_
      exact z_zret (pc := 29) C hr (z01 (zB.wk (a' := 0) (b' := 1) (zB.of (x := 0) 0 (by decide)) (by decide) (by decide))) dX10_readPaper_29 ⟨⟨_, rfl, (zB.wk (a' := 0) (b' := 1) (zB.of (x := 0) 0 (by decide)) (by decide) (by decide))⟩, hI85, hF85, (by
                                                                                          intro v hv; cases hv
                                                                                          have hl14 : v86 = zch T n (zsp T n (p)) - 65 := by rw [q86, hv85]
                                                                                          have hzl : zld T n a1 (p) = .inl (zsp T n (p)) := by
                                                                                            unfold zld
                                                                                            rw [← hl14]
                                                                                            first
                                                                                              | (rw [if_neg (fun hh => absurd hh.1 (by assumption))]; done)
                                                                                              | (rw [if_neg (fun hh => hh.2 (by assumption))]; done)
                                                                                          refine Or.inl ⟨_, ?_, hb85, hq85, rfl⟩
                                                                                          unfold zpaR zPaR
                                                                                          simp only [zbd, hzl])⟩
  · skip
    refine z_if_eq (pc := 20) 28 C dX10_readPaper_20 (by decide) (fun _ => ?_) (fun h => absurd (by decide) h)
    refine z_iconst (pc := 28) (v := 0) C dX10_readPaper_28 (by decide) ?_
    exact z_zret (pc := 29) C hr (z01 (zB.wk (a' := 0) (b' := 1) (zB.of (x := 0) 0 (by decide)) (by decide) (by decide))) dX10_readPaper_29 ⟨⟨_, rfl, (zB.wk (a' := 0) (b' := 1) (zB.of (x := 0) 0 (by decide)) (by decide) (by decide))⟩, hI85, hF85, (by
                                                                                          intro v hv; cases hv
                                                                                          have hl14 : v86 = zch T n (zsp T n (p)) - 65 := by rw [q86, hv85]
                                                                                          have hzl : zld T n a1 (p) = .inl (zsp T n (p)) := by
                                                                                            unfold zld
                                                                                            rw [← hl14]
                                                                                            first
                                                                                              | (rw [if_neg (fun hh => absurd hh.1 (by assumption))]; done)
                                                                                              | (rw [if_neg (fun hh => hh.2 (by assumption))]; done)
                                                                                          refine Or.inl ⟨_, ?_, hb85, hq85, rfl⟩
                                                                                          unfold zpaR zPaR
                                                                                          simp only [zbd, hzl])⟩
