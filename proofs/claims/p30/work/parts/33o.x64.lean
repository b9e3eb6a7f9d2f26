/-- what the reference has read so far -/
def zSm (m : zM) (cs ps : List (Nat → Int32)) : Prop := m 25 0 18 = nI cs.length ∧ m 25 0 20 = nI ps.length ∧ (∀ i j, i < cs.length → j < 6 → m 37 0 (6 * i + j) = (cs.getD i (fun _ => 0)) j) ∧ (∀ i j, i < ps.length → j < 8 → m 38 0 (8 * i + j) = (ps.getD i (fun _ => 0)) j)
theorem zSm_c {f m : zM} {cs ps : List (Nat → Int32)} {c : Nat → Int32} (h : zSm f cs ps) (hl : cs.length < 12) (h1 : m 25 0 18 = f 25 0 18 + 1) (h2 : ∀ j, j < 6 → m 37 0 (6 * (f 25 0 18).toInt.toNat + j) = c j) (h3 : ∀ x, (x < 6 * (f 25 0 18).toInt.toNat ∨ 6 * (f 25 0 18).toInt.toNat + 6 ≤ x) → m 37 0 x = f 37 0 x) (h4 : m 25 0 20 = f 25 0 20) (h5 : ∀ x, m 38 0 x = f 38 0 x) : zSm m (cs ++ [c]) ps := by
  obtain ⟨a1, a2, a3, a4⟩ := h
  rw [a1, nI_tt (by omega)] at h2 h3
  refine ⟨?_, ?_, fun i j hi hj => ?_, fun i j hi hj => ?_⟩
  · rw [h1, a1, List.length_append, List.length_singleton, nI_succ]
  · rw [h4, a2]
  · rcases getD_app hi with ⟨q1, q2⟩ | ⟨q1, q2⟩
    · rw [q2, h3 _ (by omega)]; exact a3 i j q1 hj
    · rw [q2, q1]; exact h2 j hj
  · rw [h5]; exact a4 i j hi hj
theorem zSm_p {f m : zM} {cs ps : List (Nat → Int32)} {c : Nat → Int32} (h : zSm f cs ps) (hl : ps.length < 12) (h1 : m 25 0 20 = f 25 0 20 + 1) (h2 : ∀ j, j < 8 → m 38 0 (8 * (f 25 0 20).toInt.toNat + j) = c j) (h3 : ∀ x, (x < 8 * (f 25 0 20).toInt.toNat ∨ 8 * (f 25 0 20).toInt.toNat + 8 ≤ x) → m 38 0 x = f 38 0 x) (h4 : m 25 0 18 = f 25 0 18) (h5 : ∀ x, m 37 0 x = f 37 0 x) : zSm m cs (ps ++ [c]) := by
  obtain ⟨a1, a2, a3, a4⟩ := h
  rw [a2, nI_tt (by omega)] at h2 h3
  refine ⟨?_, ?_, fun i j hi hj => ?_, fun i j hi hj => ?_⟩
  · rw [h4, a1]
  · rw [h1, a2, List.length_append, List.length_singleton, nI_succ]
  · rw [h5]; exact a3 i j hi hj
  · rcases getD_app hi with ⟨q1, q2⟩ | ⟨q1, q2⟩
    · rw [q2, h3 _ (by omega)]; exact a4 i j q1 hj
    · rw [q2, q1]; exact h2 j hj
theorem zSm_k {f m : zM} {cs ps : List (Nat → Int32)} (h : zSm f cs ps) (h1 : m 25 0 18 = f 25 0 18) (h2 : m 25 0 20 = f 25 0 20) (h3 : ∀ x, m 37 0 x = f 37 0 x) (h4 : ∀ x, m 38 0 x = f 38 0 x) : zSm m cs ps := by
  obtain ⟨a1, a2, a3, a4⟩ := h
  exact ⟨h1.trans a1, h2.trans a2, fun i j hi hj => (h3 _).trans (a3 i j hi hj), fun i j hi hj => (h4 _).trans (a4 i j hi hj)⟩

set_option maxRecDepth 100000 in
set_option maxHeartbeats 4000000 in
theorem e_X10_readWorld (d : Nat) (f : zM) (T : Nat → Int32) (n : Nat) (hN : n ≤ 120) (h18 : f 25 0 16 = nI n) (hTp : ∀ i, i < n → f 36 0 i = T i) (hI : zInv f) : ZM (d + 3) yX10_readWorld cX10_readWorld 4 (some .boolean) [zr 25 0] f (fun r g => (∃ v, r = some (zi v) ∧ zB v 0 1) ∧ zInv g ∧ zFr [(25, some 17), (25, some 18), (25, some 20), (37, none), (38, none)] f g ∧ (∀ v : Int32, r = some (zi v) → (∃ e, zwd (zclR T n) T n 12 0 = .inl e ∧ e ≤ n ∧ g 25 0 17 = nI e ∧ v = 0) ∨ (∃ cs ps, zwd (zclR T n) T n 12 0 = .inr (cs, ps) ∧ v = 1 ∧ cs.length + ps.length ≤ 12 ∧ zSm g cs ps))) := by
  refine ZM.intro (by decide +kernel) (Nat.le_of_ble_eq_true rfl) ?_
  intro X C hr hn
  have hF : zFr [(25, some 17), (25, some 18), (25, some 20), (37, none), (38, none)] f f := zFr.rf _ _
  have ct25_0_17 : zB (f 25 0 17) 0 120 := hI 25 0 17
  have ct25_0_18 : zB (f 25 0 18) 0 12 := hI 25 0 18
  have ct25_0_20 : zB (f 25 0 20) 0 12 := hI 25 0 20
  have J : ∀ t : Nat, (∀ a17_1 : Int32, zB a17_1 0 11 → ∀ g : zM, zInv g → zFr [(25, some 17), (25, some 18), (25, some 20), (37, none), (38, none)] f g → zB (g 25 0 17) 0 120 → zB (g 25 0 18) 0 12 → zB (g 25 0 20) 0 12 → (g 25 0 16 = nI n) → (∀ i, i < n → g 36 0 i = T i) → ((g 25 0 17).toInt.toNat ≤ n) → (∃ cs ps, zSm g cs ps ∧ cs.length + ps.length = a17_1.toInt.toNat ∧ zwd (zclR T n) T n 12 0 = zwj cs ps (zwd (zclR T n) T n (12 - a17_1.toInt.toNat) ((g 25 0 17).toInt.toNat))) → (0 + 3 * (11 - a17_1.toInt) : Int) < t → Z X 17 [some (zr 25 0), some (zi a17_1), none, none] [] g) := by
    intro t
    induction t with
    | zero =>
      intros; exfalso; omega
    | succ t ih =>
      have ih0 := ih
      intro a17_1 b17_1 g17_ hI17_ hF17_ f17_25_0_17 f17_25_0_18 f17_25_0_20 hR17_0 hR17_1 hR17_2 hR17_3 hM17_
      have hpl17 : g17_ 25 0 17 = nI ((g17_ 25 0 17).toInt.toNat) := (nI_ofI (hI17_ 25 0 17).1).1
      obtain ⟨cs, ps, hS, hlen, hW⟩ := hR17_3
      have t4 : (g17_ 25 0 18).toInt = (cs.length : Int) := by rw [hS.1]; exact nI_toInt (by omega)
      have t5 : (g17_ 25 0 20).toInt = (ps.length : Int) := by rw [hS.2.1]; exact nI_toInt (by omega)
      have c1x : zB (g17_ 25 0 18) 0 11 := by first | assumption | (constructor <;> omega)
      have c2x : zB (g17_ 25 0 20) 0 11 := by first | assumption | (constructor <;> omega)
      have hk12 : 12 - a17_1.toInt.toNat = (11 - a17_1.toInt.toNat) + 1 := by omega
      rw [hk12] at hW
      refine z_iload_n (pc := 17) C dX10_readWorld_17 rfl ?_
      refine z_bipush (pc := 18) (v := 12) C dX10_readWorld_18 (by decide) ?_
      refine z_icmp_ge (pc := 20) 129 C dX10_readWorld_20 (by decide) (fun h20_2 => absurd h20_2 (by have q1 := b17_1; have q2 := (zB.of (x := 12) 12 (by decide)); first | (simp only [z32lt, z32le, z32eq]; omega) | (simp only [z32lt, z32le, z32eq] at *; omega))) (fun h20_2 => ?_)
      refine z_aload_n (pc := 23) C dX10_readWorld_23 rfl ?_
      refine z_callV (pc := 24) C zk_X10_214 (e_X10_next _ _ T n ((g17_ 25 0 17).toInt.toNat) hN hR17_0 hR17_1 hpl17 hR17_2 hI17_) rfl rfl (by decide) rfl rfl (Nat.le_of_ble_eq_true rfl) dX10_readWorld_24 (fun r4 g4 q4 => ?_)
      obtain ⟨⟨v4, rfl, b4x⟩, hI4, hF4q, hp4⟩ := q4
      have hp4 := hp4 _ rfl
      have hF4 := zFr.tr hF17_ hF4q (by decide)
      simp only [Option.toList, List.cons_append, List.nil_append]
      have cr4_25_0_17 : zB (g4 25 0 17) 0 120 := hI4 25 0 17
      have ek4_25_0_18 : (g4 25 0 18).toInt = (g17_ 25 0 18).toInt := by rw [hF4q 25 0 18 rfl]
      have c4_25_0_18x : zB (g4 25 0 18) 0 11 := by rw [hF4q 25 0 18 rfl]; exact c1x
      have ek4_25_0_20 : (g4 25 0 20).toInt = (g17_ 25 0 20).toInt := by rw [hF4q 25 0 20 rfl]
      have c4_25_0_20x : zB (g4 25 0 20) 0 11 := by rw [hF4q 25 0 20 rfl]; exact c2x
      obtain ⟨hv4, hq4, hj4⟩ := hp4
      have h184 : g4 25 0 16 = nI n := (hF4q 25 0 16 rfl).trans hR17_0
      have hTp4 : ∀ i, i < n → g4 36 0 i = T i := fun i hi => (hF4q 36 0 i rfl).trans (hR17_1 i hi)
      have kk37_4 : ∀ x j, g4 37 x j = g17_ 37 x j := fun x j => (hF4q 37 x j rfl).trans ((fun _ _ => rfl) x j)
      have kk38_4 : ∀ x j, g4 38 x j = g17_ 38 x j := fun x j => (hF4q 38 x j rfl).trans ((fun _ _ => rfl) x j)
      have hb4 : zsp T n ((g17_ 25 0 17).toInt.toNat) ≤ n := zsp_len hR17_2
      refine z_bipush (pc := 27) (v := 65) C dX10_readWorld_27 (by decide) ?_
      refine z_isub (pc := 29) C dX10_readWorld_29 ?_
      refine w_gp (fun v => v = v4 - (65 : Int32)) rfl (fun v5 q5 => ?_)
      have e5 : v5.toInt = v4.toInt - 65 := by rw [q5]; exact (zsub_eb b4x (zB.of (x := 65) 65 (by decide)) (by decide) (by decide))
      have b5x : zB v5 (-66) 190 := by have q1 := b4x; have q2 := (zB.of (x := 65) 65 (by decide)); constructor <;> omega
      refine z_istore_n (pc := 30) C dX10_readWorld_30 (by rw [hn]; decide) rfl ?_
      refine z_iload_n (pc := 31) C dX10_readWorld_31 rfl ?_
      refine z_callSb (pc := 32) C zk_X10_83 (m_X10_isLand _ _ _) rfl rfl (Nat.le_of_ble_eq_true rfl) dX10_readWorld_32 (fun h32_5 => ?_) (fun h32_5 => ?_)
      · skip
        have b7x : zB v5 0 5 := h32_5
        have b8x : zB v4 65 70 := by first | assumption | (constructor <;> omega)
        have c9x : zB (g4 25 0 17) 0 119 := by first | assumption | (constructor <;> omega)
        refine z_if_ne (pc := 35) 40 C dX10_readWorld_35 (by decide) (fun _ => ?_) (fun h => absurd h (by decide))
        refine z_aload_n (pc := 40) C dX10_readWorld_40 rfl ?_
        refine z_dupr (pc := 41) C dX10_readWorld_41 ?_
        refine z_getI (pc := 42) C zf_X10_211 rfl rfl (by decide) dX10_readWorld_42 ?_
        refine w_gp (fun v => v = g4 25 0 17) rfl (fun v10 q10 => ?_)
        have e10 : v10.toInt = (g4 25 0 17).toInt := by rw [q10]
        have b10x : zB v10 0 119 := by first | exact zB.eqv e10 c9x | (have q9 := c9x; constructor <;> omega)
        refine z_iconst (pc := 45) (v := 1) C dX10_readWorld_45 (by decide) ?_
        refine z_iadd (pc := 46) C dX10_readWorld_46 ?_
        refine w_gp (fun v => v = v10 + (1 : Int32)) rfl (fun v11 q11 => ?_)
        have e11 : v11.toInt = v10.toInt + 1 := by rw [q11]; exact (zadd_eb b10x (zB.of (x := 1) 1 (by decide)) (by decide) (by decide))
        have b11x : zB v11 1 120 := by have q1 := b10x; have q2 := (zB.of (x := 1) 1 (by decide)); constructor <;> omega
        refine z_putI (pc := 47) C zf_X10_211 zp_10_17 rfl rfl (by decide) dX10_readWorld_47 ?_
        refine w_memx hI4 hF4 (zB.wk (a' := 0) (b' := 120) b11x (by decide) (by decide)) rfl (fun g12 qm12 hI12 hF12 hq12 hx12 => ?_)
        have ec12 : (g12 25 0 17).toInt = v11.toInt := by rw [hx12]
        have c12x : zB (g12 25 0 17) 1 120 := by first | exact zB.eqv ec12 b11x | (have q9 := b11x; constructor <;> omega)
        have ek12_25_0_18 : (g12 25 0 18).toInt = (g4 25 0 18).toInt := by rw [hq12 25 0 18 (fun h => absurd h.2 (by decide))]
        have c12_25_0_18x : zB (g12 25 0 18) 0 11 := by rw [hq12 25 0 18 (fun h => absurd h.2 (by decide))]; exact c4_25_0_18x
        have ek12_25_0_20 : (g12 25 0 20).toInt = (g4 25 0 20).toInt := by rw [hq12 25 0 20 (fun h => absurd h.2 (by decide))]
        have c12_25_0_20x : zB (g12 25 0 20) 0 11 := by rw [hq12 25 0 20 (fun h => absurd h.2 (by decide))]; exact c4_25_0_20x
        have h1812 : g12 25 0 16 = nI n := by rw [qm12]; exact (zup_ne _ _ (fun h => absurd h.2.2 (by decide))).trans h184
        have hTp12 : ∀ i, i < n → g12 36 0 i = T i := fun i hi => by rw [qm12]; exact (zup_ne _ _ (fun h => absurd h.1 (by decide))).trans (hTp4 i hi)
        have hq12 : g12 25 0 17 = nI (zsp T n ((g17_ 25 0 17).toInt.toNat) + 1) := by rw [qm12, zup_same, q11, q10, hq4, nI_succ]
        have hb12 : zsp T n ((g17_ 25 0 17).toInt.toNat) + 1 ≤ n := zch_lt (fun h => by rw [← hv4, z32eq] at h; have c1 : (-1 : Int32).toInt = -1 := (by decide); omega)
        have kk37_12 : ∀ x j, g12 37 x j = g17_ 37 x j := fun x j => by rw [qm12]; exact (zup_ne _ _ (fun h => absurd h.1 (by decide))).trans (kk37_4 x j)
        have kk38_12 : ∀ x j, g12 38 x j = g17_ 38 x j := fun x j => by rw [qm12]; exact (zup_ne _ _ (fun h => absurd h.1 (by decide))).trans (kk38_4 x j)
        have hl29 : v5 = zch T n (zsp T n ((g17_ 25 0 17).toInt.toNat)) - 65 := by rw [q5, hv4]
        have hzl : zld T n (-4) ((g17_ 25 0 17).toInt.toNat) = .inr (v5, zsp T n ((g17_ 25 0 17).toInt.toNat) + 1) := by unfold zld; rw [← hl29, if_pos ⟨by assumption, fun h => by rw [z32eq] at h; have c4 : (-4 : Int32).toInt = -4 := (by decide); omega⟩]
        refine z_aload_n (pc := 50) C dX10_readWorld_50 rfl ?_
        refine z_bipush (pc := 51) (v := 58) C dX10_readWorld_51 (by decide) ?_
        refine z_callV (pc := 53) C zk_X10_227 (e_X10_takes _ _ 58 (zB.wk (a' := 1) (b' := 126) (zB.of (x := 58) 58 (by decide)) (by decide) (by decide)) T n (zsp T n ((g17_ 25 0 17).toInt.toNat) + 1) hN h1812 hTp12 hq12 hb12 hI12) rfl rfl (by decide) rfl rfl (Nat.le_of_ble_eq_true rfl) dX10_readWorld_53 (fun r13 g13 q13 => ?_)
        obtain ⟨⟨v13, rfl, b13x⟩, hI13, hF13q, hp13⟩ := q13
        have hp13 := hp13 _ rfl
        have hF13 := zFr.tr hF12 hF13q (by decide)
        simp only [Option.toList, List.cons_append, List.nil_append]
        have cr13_25_0_17 : zB (g13 25 0 17) 0 120 := hI13 25 0 17
        have ek13_25_0_18 : (g13 25 0 18).toInt = (g12 25 0 18).toInt := by rw [hF13q 25 0 18 rfl]
        have c13_25_0_18x : zB (g13 25 0 18) 0 11 := by rw [hF13q 25 0 18 rfl]; exact c12_25_0_18x
        have ek13_25_0_20 : (g13 25 0 20).toInt = (g12 25 0 20).toInt := by rw [hF13q 25 0 20 rfl]
        have c13_25_0_20x : zB (g13 25 0 20) 0 11 := by rw [hF13q 25 0 20 rfl]; exact c12_25_0_20x
        have h1813 : g13 25 0 16 = nI n := (hF13q 25 0 16 rfl).trans h1812
        have hTp13 : ∀ i, i < n → g13 36 0 i = T i := fun i hi => (hF13q 36 0 i rfl).trans (hTp12 i hi)
        have kk37_13 : ∀ x j, g13 37 x j = g17_ 37 x j := fun x j => (hF13q 37 x j rfl).trans (kk37_12 x j)
        have kk38_13 : ∀ x j, g13 38 x j = g17_ 38 x j := fun x j => (hF13q 38 x j rfl).trans (kk38_12 x j)
        rcases hp13 with ⟨hc13, rfl, hq13, hb13⟩ | ⟨hc13, rfl, hq13⟩
        · skip
          refine z_if_eq (pc := 56) 69 C dX10_readWorld_56 (by decide) (fun h => absurd h (by decide)) (fun _ => ?_)
          refine z_aload_n (pc := 59) C dX10_readWorld_59 rfl ?_
          refine z_iload_n (pc := 60) C dX10_readWorld_60 rfl ?_
          have hSb : zSm g13 cs ps := zSm_k hS (by rw [z32eq]; omega) (by rw [z32eq]; omega) (fun x => kk37_13 0 x) (fun x => kk38_13 0 x)
          refine z_callV (pc := 61) C zk_X10_242 (e_X10_readCrime _ _ v5 b7x c13_25_0_18x T n (zsp T n (zsp T n ((g17_ 25 0 17).toInt.toNat) + 1) + 1) hN h1813 hTp13 hq13 hb13 hI13) rfl rfl (by decide) rfl rfl (Nat.le_of_ble_eq_true rfl) dX10_readWorld_61 (fun r14 g14 q14 => ?_)
          obtain ⟨⟨v14, rfl, b14x⟩, hI14, hF14q, hp14⟩ := q14
          have hp14 := hp14 _ rfl
          have hF14 := zFr.tr hF13 hF14q (by decide)
          simp only [Option.toList, List.cons_append, List.nil_append]
          have cr14_25_0_17 : zB (g14 25 0 17) 0 120 := hI14 25 0 17
          have cr14_25_0_18 : zB (g14 25 0 18) 0 12 := hI14 25 0 18
          have ek14_25_0_20 : (g14 25 0 20).toInt = (g13 25 0 20).toInt := by rw [hF14q 25 0 20 rfl]
          have c14_25_0_20x : zB (g14 25 0 20) 0 11 := by rw [hF14q 25 0 20 rfl]; exact c13_25_0_20x
          rcases hp14 with ⟨u14, hc14, hb14, hq14, rfl⟩ | ⟨u14, c14w, hc14, hq14, hb14, rfl, n114, n214, n314⟩
          · skip
            have h1814 : g14 25 0 16 = nI n := (hF14q 25 0 16 rfl).trans h1813
            have hTp14 : ∀ i, i < n → g14 36 0 i = T i := fun i hi => (hF14q 36 0 i rfl).trans (hTp13 i hi)
            refine z_if_ne (pc := 64) 88 C dX10_readWorld_64 (by decide) (fun h64_14 => absurd h64_14 (by decide)) (fun h64_14 => ?_)
            refine z_iconst (pc := 67) (v := 0) C dX10_readWorld_67 (by decide) ?_
            exact z_zret (pc := 68) C hr (z01 (zB.wk (a' := 0) (b' := 1) (zB.of (x := 0) 0 (by decide)) (by decide) (by decide))) dX10_readWorld_68 ⟨⟨_, rfl, (zB.wk (a' := 0) (b' := 1) (zB.of (x := 0) 0 (by decide)) (by decide) (by decide))⟩, hI14, hF14, (by
                                                                                          intro v hv; cases hv
                                                                                          have hcl : zclR T n ((g17_ 25 0 17).toInt.toNat) = .inl (u14) := by unfold zclR zCl; simp only [zbd, hzl, if_pos hc13, hc14]
                                                                                          refine Or.inl ⟨_, ?_, hb14, hq14, rfl⟩
                                                                                          rw [hW, zwd_bad hcl]; rfl)⟩
          · skip
            have h1814 : g14 25 0 16 = nI n := (hF14q 25 0 16 rfl).trans h1813
            have hTp14 : ∀ i, i < n → g14 36 0 i = T i := fun i hi => (hF14q 36 0 i rfl).trans (hTp13 i hi)
            have hS2 := zSm_c hSb (by omega) n114 n214 n314 (hF14q 25 0 20 rfl) (fun x => hF14q 38 0 x rfl)
            have hcl : zclR T n ((g17_ 25 0 17).toInt.toNat) = .inr ((false, c14w), u14) := by unfold zclR zCl; simp only [zbd, hzl, if_pos hc13, hc14]
            refine z_if_ne (pc := 64) 88 C dX10_readWorld_64 (by decide) (fun h64_15 => ?_) (fun h64_15 => absurd h64_15 (by decide))
            refine z_aload_n (pc := 88) C dX10_readWorld_88 rfl ?_
            refine z_callV (pc := 89) C zk_X10_214 (e_X10_next _ _ T n (u14) hN h1814 hTp14 hq14 hb14 hI14) rfl rfl (by decide) rfl rfl (Nat.le_of_ble_eq_true rfl) dX10_readWorld_89 (fun r17 g17 q17 => ?_)
            obtain ⟨⟨v17, rfl, b17x⟩, hI17, hF17q, hp17⟩ := q17
            have hp17 := hp17 _ rfl
            have hF17 := zFr.tr hF14 hF17q (by decide)
            simp only [Option.toList, List.cons_append, List.nil_append]
            have cr17_25_0_17 : zB (g17 25 0 17) 0 120 := hI17 25 0 17
            have ek17_25_0_18 : (g17 25 0 18).toInt = (g14 25 0 18).toInt := by rw [hF17q 25 0 18 rfl]
            have c17_25_0_18x : zB (g17 25 0 18) 0 12 := by rw [hF17q 25 0 18 rfl]; exact cr14_25_0_18
            have ek17_25_0_20 : (g17 25 0 20).toInt = (g14 25 0 20).toInt := by rw [hF17q 25 0 20 rfl]
            have c17_25_0_20x : zB (g17 25 0 20) 0 11 := by rw [hF17q 25 0 20 rfl]; exact c14_25_0_20x
            obtain ⟨hv17, hq17, hj17⟩ := hp17
            have h1817 : g17 25 0 16 = nI n := (hF17q 25 0 16 rfl).trans h1814
            have hTp17 : ∀ i, i < n → g17 36 0 i = T i := fun i hi => (hF17q 36 0 i rfl).trans (hTp14 i hi)
            have kk37_17 : ∀ x j, g17 37 x j = g14 37 x j := fun x j => (hF17q 37 x j rfl).trans ((fun _ _ => rfl) x j)
            have kk38_17 : ∀ x j, g17 38 x j = g14 38 x j := fun x j => (hF17q 38 x j rfl).trans ((fun _ _ => rfl) x j)
            have hb17 : zsp T n (u14) ≤ n := zsp_len hb14
            refine z_istore_n (pc := 92) C dX10_readWorld_92 (by rw [hn]; decide) rfl ?_
            refine z_iload_n (pc := 93) C dX10_readWorld_93 rfl ?_
            refine z_if_ge (pc := 94) 99 C dX10_readWorld_94 (by decide) (fun h94_17 => ?_) (fun h94_17 => ?_)
            · skip
              have b19x : zB v17 0 255 := by have q1 := b17x; have q2 := (zB.of (x := 0) 0 (by decide)); simp only [z32lt, z32le, z32eq, Int32.reduceToInt, Int32.toInt_zero] at h94_17; constructor <;> omega
              have c20x : zB (g17 25 0 17) 0 119 := by first | assumption | (constructor <;> omega)
              refine z_iload_n (pc := 99) C dX10_readWorld_99 rfl ?_
              refine z_bipush (pc := 100) (v := 59) C dX10_readWorld_100 (by decide) ?_
              refine z_icmp_ne (pc := 102) 111 C dX10_readWorld_102 (by decide) (fun h102_20 => ?_) (fun h102_20 => ?_)
              · skip
                refine z_iconst (pc := 111) (v := 0) C dX10_readWorld_111 (by decide) ?_
                exact z_zret (pc := 112) C hr (z01 (zB.wk (a' := 0) (b' := 1) (zB.of (x := 0) 0 (by decide)) (by decide) (by decide))) dX10_readWorld_112 ⟨⟨_, rfl, (zB.wk (a' := 0) (b' := 1) (zB.of (x := 0) 0 (by decide)) (by decide) (by decide))⟩, hI17, hF17, (by
                                                                                          intro v hv; cases hv
                                                                                          have hm1 : ¬ zch T n (zsp T n (u14)) = -1 := by
                                                                                            rw [← hv17, z32eq]
                                                                                            have c1 : (-1 : Int32).toInt = -1 := by decide
                                                                                            omega
                                                                                          refine Or.inl ⟨_, ?_, hb17, hq17, rfl⟩
                                                                                          rw [hW, zwd_stop hcl hm1 (fun h59 => by
                                                                                            rw [← hv17] at h59
                                                                                            first
                                                                                              | exact absurd h59 (by assumption)
                                                                                              | (have h11 : a17_1.toInt = 11 := by simp only [z32eq] at *; have c11 : (11 : Int32).toInt = 11 := by decide
                                                                                                                                   omega
                                                                                                 omega))]
                                                                                          rfl)⟩
              · skip
                have b22x : zB v17 59 59 := by have q1 := b19x; have q2 := (zB.of (x := 59) 59 (by decide)); simp only [z32lt, z32le, z32eq, Int32.reduceToInt, Int32.toInt_zero] at h102_20; constructor <;> omega
                have c23x : zB (g17 25 0 17) 0 119 := by first | assumption | (constructor <;> omega)
                refine z_iload_n (pc := 105) C dX10_readWorld_105 rfl ?_
                refine z_bipush (pc := 106) (v := 11) C dX10_readWorld_106 (by decide) ?_
                refine z_icmp_ne (pc := 108) 113 C dX10_readWorld_108 (by decide) (fun h108_23 => ?_) (fun h108_23 => ?_)
                · skip
                  have b25x : zB a17_1 0 10 := by have q1 := b17_1; have q2 := (zB.of (x := 11) 11 (by decide)); simp only [z32lt, z32le, z32eq, Int32.reduceToInt, Int32.toInt_zero] at h108_23; constructor <;> omega
                  refine z_aload_n (pc := 113) C dX10_readWorld_113 rfl ?_
                  refine z_dupr (pc := 114) C dX10_readWorld_114 ?_
                  refine z_getI (pc := 115) C zf_X10_211 rfl rfl (by decide) dX10_readWorld_115 ?_
                  refine w_gp (fun v => v = g17 25 0 17) rfl (fun v26 q26 => ?_)
                  have e26 : v26.toInt = (g17 25 0 17).toInt := by rw [q26]
                  have b26x : zB v26 0 119 := by first | exact zB.eqv e26 c23x | (have q9 := c23x; constructor <;> omega)
                  refine z_iconst (pc := 118) (v := 1) C dX10_readWorld_118 (by decide) ?_
                  refine z_iadd (pc := 119) C dX10_readWorld_119 ?_
                  refine w_gp (fun v => v = v26 + (1 : Int32)) rfl (fun v27 q27 => ?_)
                  have e27 : v27.toInt = v26.toInt + 1 := by rw [q27]; exact (zadd_eb b26x (zB.of (x := 1) 1 (by decide)) (by decide) (by decide))
                  have b27x : zB v27 1 120 := by have q1 := b26x; have q2 := (zB.of (x := 1) 1 (by decide)); constructor <;> omega
                  refine z_putI (pc := 120) C zf_X10_211 zp_10_17 rfl rfl (by decide) dX10_readWorld_120 ?_
                  refine w_memx hI17 hF17 (zB.wk (a' := 0) (b' := 120) b27x (by decide) (by decide)) rfl (fun g28 qm28 hI28 hF28 hq28 hx28 => ?_)
                  have ec28 : (g28 25 0 17).toInt = v27.toInt := by rw [hx28]
                  have c28x : zB (g28 25 0 17) 1 120 := by first | exact zB.eqv ec28 b27x | (have q9 := b27x; constructor <;> omega)
                  have ek28_25_0_18 : (g28 25 0 18).toInt = (g17 25 0 18).toInt := by rw [hq28 25 0 18 (fun h => absurd h.2 (by decide))]
                  have c28_25_0_18x : zB (g28 25 0 18) 0 12 := by rw [hq28 25 0 18 (fun h => absurd h.2 (by decide))]; exact c17_25_0_18x
                  have ek28_25_0_20 : (g28 25 0 20).toInt = (g17 25 0 20).toInt := by rw [hq28 25 0 20 (fun h => absurd h.2 (by decide))]
                  have c28_25_0_20x : zB (g28 25 0 20) 0 11 := by rw [hq28 25 0 20 (fun h => absurd h.2 (by decide))]; exact c17_25_0_20x
                  have h1828 : g28 25 0 16 = nI n := by rw [qm28]; exact (zup_ne _ _ (fun h => absurd h.2.2 (by decide))).trans h1817
                  have hTp28 : ∀ i, i < n → g28 36 0 i = T i := fun i hi => by rw [qm28]; exact (zup_ne _ _ (fun h => absurd h.1 (by decide))).trans (hTp17 i hi)
                  have hq28 : g28 25 0 17 = nI (zsp T n (u14) + 1) := by rw [qm28, zup_same, q27, q26, hq17, nI_succ]
                  have hb28 : zsp T n (u14) + 1 ≤ n := zch_lt (fun h => by rw [← hv17, z32eq] at h; have c1 : (-1 : Int32).toInt = -1 := (by decide); omega)
                  have kk37_28 : ∀ x j, g28 37 x j = g14 37 x j := fun x j => by rw [qm28]; exact (zup_ne _ _ (fun h => absurd h.1 (by decide))).trans (kk37_17 x j)
                  have kk38_28 : ∀ x j, g28 38 x j = g14 38 x j := fun x j => by rw [qm28]; exact (zup_ne _ _ (fun h => absurd h.1 (by decide))).trans (kk38_17 x j)
                  refine z_iinc (pc := 123) (v := 1) C dX10_readWorld_123 rfl (by decide) (by rw [hn]; decide) rfl ?_
                  obtain ⟨v29, hv29, e29⟩ : ∃ v : Int32, v = a17_1 + 1 ∧ v.toInt = a17_1.toInt + 1 := ⟨_, rfl, zadd_eb b25x (zB.of (x := 1) 1 (by decide)) (by decide) (by decide)⟩
                  rw [← hv29]
                  have b29x : zB v29 1 11 := by have q9 := b25x; constructor <;> omega
                  refine z_goto (pc := 126) 17 C dX10_readWorld_126 (by decide) ?_
                  refine w_mask [2, 3] ?_
                  exact ih0 v29 (zB.wk (a' := 0) (b' := 11) b29x (by decide) (by decide)) g28 hI28 hF28 (zB.wk c28x (by decide) (by decide)) c28_25_0_18x (zB.wk c28_25_0_20x (by decide) (by decide)) (by exact h1828) (by exact hTp28) (by rw [hq28, nI_tt (by have := hb28; omega)]; exact hb28) (by
                                                                                          have h59 : zch T n (zsp T n (u14)) = 59 := by rw [← hv17]; assumption
                                                                                          refine ⟨(cs ++ [c14w]), ps, zSm_k hS2 (by rw [z32eq]; omega) (by rw [z32eq]; omega) (fun x => kk37_28 0 x) (fun x => kk38_28 0 x), ?_, ?_⟩
                                                                                          · rw [List.length_append, List.length_singleton]; omega
                                                                                          · rw [hW, zwd_more hcl h59 (by omega), hq28, nI_tt (by have := hb28; omega), show 12 - (v29).toInt.toNat = 11 - a17_1.toInt.toNat by omega]
                                                                                            rfl) (by omega)
                · skip
                  have b30x : zB a17_1 11 11 := by have q1 := b17_1; have q2 := (zB.of (x := 11) 11 (by decide)); simp only [z32lt, z32le, z32eq, Int32.reduceToInt, Int32.toInt_zero] at h108_23; constructor <;> omega
                  refine z_iconst (pc := 111) (v := 0) C dX10_readWorld_111 (by decide) ?_
                  exact z_zret (pc := 112) C hr (z01 (zB.wk (a' := 0) (b' := 1) (zB.of (x := 0) 0 (by decide)) (by decide) (by decide))) dX10_readWorld_112 ⟨⟨_, rfl, (zB.wk (a' := 0) (b' := 1) (zB.of (x := 0) 0 (by decide)) (by decide) (by decide))⟩, hI17, hF17, (by
                                                                                          intro v hv; cases hv
                                                                                          have hm1 : ¬ zch T n (zsp T n (u14)) = -1 := by
                                                                                            rw [← hv17, z32eq]
                                                                                            have c1 : (-1 : Int32).toInt = -1 := by decide
                                                                                            omega
                                                                                          refine Or.inl ⟨_, ?_, hb17, hq17, rfl⟩
                                                                                          rw [hW, zwd_stop hcl hm1 (fun h59 => by
                                                                                            rw [← hv17] at h59
                                                                                            first
                                                                                              | exact absurd h59 (by assumption)
                                                                                              | (have h11 : a17_1.toInt = 11 := by simp only [z32eq] at *; have c11 : (11 : Int32).toInt = 11 := by decide
                                                                                                                                   omega
                                                                                                 omega))]
                                                                                          rfl)⟩
            · skip
              have b31x : zB v17 (-1) (-1) := by have q1 := b17x; have q2 := (zB.of (x := 0) 0 (by decide)); simp only [z32lt, z32le, z32eq, Int32.reduceToInt, Int32.toInt_zero] at h94_17; constructor <;> omega
              refine z_iconst (pc := 97) (v := 1) C dX10_readWorld_97 (by decide) ?_
              exact z_zret (pc := 98) C hr (z01 (zB.wk (a' := 0) (b' := 1) (zB.of (x := 1) 1 (by decide)) (by decide) (by decide))) dX10_readWorld_98 ⟨⟨_, rfl, (zB.wk (a' := 0) (b' := 1) (zB.of (x := 1) 1 (by decide)) (by decide) (by decide))⟩, hI17, hF17, (by
                                                                                          intro v hv; cases hv
                                                                                          have hm1 : zch T n (zsp T n (u14)) = -1 := by
                                                                                            rw [← hv17, z32eq]
                                                                                            have c1 : (-1 : Int32).toInt = -1 := by decide
                                                                                            omega
                                                                                          refine Or.inr ⟨(cs ++ [c14w]), ps, ?_, rfl, ?_, zSm_k hS2 (by rw [z32eq]; omega) (by rw [z32eq]; omega) (fun x => kk37_17 0 x) (fun x => kk38_17 0 x)⟩
                                                                                          · rw [hW, zwd_end hcl hm1]; simp [zwj]
                                                                                          · rw [List.length_append, List.length_singleton]; omega)⟩
        · skip
          have hb13 : zsp T n (zsp T n ((g17_ 25 0 17).toInt.toNat) + 1) ≤ n := zsp_len hb12
          refine z_if_eq (pc := 56) 69 C dX10_readWorld_56 (by decide) (fun _ => ?_) (fun h => absurd (by decide) h)
          refine z_aload_n (pc := 69) C dX10_readWorld_69 rfl ?_
          refine z_bipush (pc := 70) (v := 62) C dX10_readWorld_70 (by decide) ?_
          refine z_callV (pc := 72) C zk_X10_227 (e_X10_takes _ _ 62 (zB.wk (a' := 1) (b' := 126) (zB.of (x := 62) 62 (by decide)) (by decide) (by decide)) T n (zsp T n (zsp T n ((g17_ 25 0 17).toInt.toNat) + 1)) hN h1813 hTp13 hq13 hb13 hI13) rfl rfl (by decide) rfl rfl (Nat.le_of_ble_eq_true rfl) dX10_readWorld_72 (fun r32 g32 q32 => ?_)
          obtain ⟨⟨v32, rfl, b32x⟩, hI32, hF32q, hp32⟩ := q32
          have hp32 := hp32 _ rfl
          have hF32 := zFr.tr hF13 hF32q (by decide)
          simp only [Option.toList, List.cons_append, List.nil_append]
          have cr32_25_0_17 : zB (g32 25 0 17) 0 120 := hI32 25 0 17
          have ek32_25_0_18 : (g32 25 0 18).toInt = (g13 25 0 18).toInt := by rw [hF32q 25 0 18 rfl]
          have c32_25_0_18x : zB (g32 25 0 18) 0 11 := by rw [hF32q 25 0 18 rfl]; exact c13_25_0_18x
          have ek32_25_0_20 : (g32 25 0 20).toInt = (g13 25 0 20).toInt := by rw [hF32q 25 0 20 rfl]
          have c32_25_0_20x : zB (g32 25 0 20) 0 11 := by rw [hF32q 25 0 20 rfl]; exact c13_25_0_20x
          have h1832 : g32 25 0 16 = nI n := (hF32q 25 0 16 rfl).trans h1813
          have hTp32 : ∀ i, i < n → g32 36 0 i = T i := fun i hi => (hF32q 36 0 i rfl).trans (hTp13 i hi)
          have kk37_32 : ∀ x j, g32 37 x j = g17_ 37 x j := fun x j => (hF32q 37 x j rfl).trans (kk37_13 x j)
          have kk38_32 : ∀ x j, g32 38 x j = g17_ 38 x j := fun x j => (hF32q 38 x j rfl).trans (kk38_13 x j)
          rcases hp32 with ⟨hc32, rfl, hq32, hb32⟩ | ⟨hc32, rfl, hq32⟩
          · skip
            refine z_if_eq (pc := 75) 86 C dX10_readWorld_75 (by decide) (fun h => absurd h (by decide)) (fun _ => ?_)
            refine z_aload_n (pc := 78) C dX10_readWorld_78 rfl ?_
            refine z_iload_n (pc := 79) C dX10_readWorld_79 rfl ?_
            have hSb : zSm g32 cs ps := zSm_k hS (by rw [z32eq]; omega) (by rw [z32eq]; omega) (fun x => kk37_32 0 x) (fun x => kk38_32 0 x)
            refine z_callV (pc := 80) C zk_X10_245 (e_X10_readPaper _ _ v5 b7x c32_25_0_20x T n (zsp T n (zsp T n (zsp T n ((g17_ 25 0 17).toInt.toNat) + 1)) + 1) hN h1832 hTp32 hq32 hb32 hI32) rfl rfl (by decide) rfl rfl (Nat.le_of_ble_eq_true rfl) dX10_readWorld_80 (fun r33 g33 q33 => ?_)
            obtain ⟨⟨v33, rfl, b33x⟩, hI33, hF33q, hp33⟩ := q33
            have hp33 := hp33 _ rfl
            have hF33 := zFr.tr hF32 hF33q (by decide)
            simp only [Option.toList, List.cons_append, List.nil_append]
            have cr33_25_0_17 : zB (g33 25 0 17) 0 120 := hI33 25 0 17
            have ek33_25_0_18 : (g33 25 0 18).toInt = (g32 25 0 18).toInt := by rw [hF33q 25 0 18 rfl]
            have c33_25_0_18x : zB (g33 25 0 18) 0 11 := by rw [hF33q 25 0 18 rfl]; exact c32_25_0_18x
            have cr33_25_0_20 : zB (g33 25 0 20) 0 12 := hI33 25 0 20
            rcases hp33 with ⟨u33, hc33, hb33, hq33, rfl⟩ | ⟨u33, c33w, hc33, hq33, hb33, rfl, n133, n233, n333⟩
            · skip
              have h1833 : g33 25 0 16 = nI n := (hF33q 25 0 16 rfl).trans h1832
              have hTp33 : ∀ i, i < n → g33 36 0 i = T i := fun i hi => (hF33q 36 0 i rfl).trans (hTp32 i hi)
              refine z_if_ne (pc := 83) 88 C dX10_readWorld_83 (by decide) (fun h83_33 => absurd h83_33 (by decide)) (fun h83_33 => ?_)
              refine z_iconst (pc := 86) (v := 0) C dX10_readWorld_86 (by decide) ?_
              exact z_zret (pc := 87) C hr (z01 (zB.wk (a' := 0) (b' := 1) (zB.of (x := 0) 0 (by decide)) (by decide) (by decide))) dX10_readWorld_87 ⟨⟨_, rfl, (zB.wk (a' := 0) (b' := 1) (zB.of (x := 0) 0 (by decide)) (by decide) (by decide))⟩, hI33, hF33, (by
                                                                                          intro v hv; cases hv
                                                                                          have hcl : zclR T n ((g17_ 25 0 17).toInt.toNat) = .inl (u33) := by unfold zclR zCl; simp only [zbd, hzl, if_neg hc13, if_pos hc32, hc33]
                                                                                          refine Or.inl ⟨_, ?_, hb33, hq33, rfl⟩
                                                                                          rw [hW, zwd_bad hcl]; rfl)⟩
            · skip
              have h1833 : g33 25 0 16 = nI n := (hF33q 25 0 16 rfl).trans h1832
              have hTp33 : ∀ i, i < n → g33 36 0 i = T i := fun i hi => (hF33q 36 0 i rfl).trans (hTp32 i hi)
              have hS2 := zSm_p hSb (by omega) n133 n233 n333 (hF33q 25 0 18 rfl) (fun x => hF33q 37 0 x rfl)
              have hcl : zclR T n ((g17_ 25 0 17).toInt.toNat) = .inr ((true, c33w), u33) := by unfold zclR zCl; simp only [zbd, hzl, if_neg hc13, if_pos hc32, hc33]
              refine z_if_ne (pc := 83) 88 C dX10_readWorld_83 (by decide) (fun h83_34 => ?_) (fun h83_34 => absurd h83_34 (by decide))
              refine z_aload_n (pc := 88) C dX10_readWorld_88 rfl ?_
              refine z_callV (pc := 89) C zk_X10_214 (e_X10_next _ _ T n (u33) hN h1833 hTp33 hq33 hb33 hI33) rfl rfl (by decide) rfl rfl (Nat.le_of_ble_eq_true rfl) dX10_readWorld_89 (fun r36 g36 q36 => ?_)
              obtain ⟨⟨v36, rfl, b36x⟩, hI36, hF36q, hp36⟩ := q36
              have hp36 := hp36 _ rfl
              have hF36 := zFr.tr hF33 hF36q (by decide)
              simp only [Option.toList, List.cons_append, List.nil_append]
              have cr36_25_0_17 : zB (g36 25 0 17) 0 120 := hI36 25 0 17
              have ek36_25_0_18 : (g36 25 0 18).toInt = (g33 25 0 18).toInt := by rw [hF36q 25 0 18 rfl]
              have c36_25_0_18x : zB (g36 25 0 18) 0 11 := by rw [hF36q 25 0 18 rfl]; exact c33_25_0_18x
              have ek36_25_0_20 : (g36 25 0 20).toInt = (g33 25 0 20).toInt := by rw [hF36q 25 0 20 rfl]
              have c36_25_0_20x : zB (g36 25 0 20) 0 12 := by rw [hF36q 25 0 20 rfl]; exact cr33_25_0_20
              obtain ⟨hv36, hq36, hj36⟩ := hp36
              have h1836 : g36 25 0 16 = nI n := (hF36q 25 0 16 rfl).trans h1833
              have hTp36 : ∀ i, i < n → g36 36 0 i = T i := fun i hi => (hF36q 36 0 i rfl).trans (hTp33 i hi)
              have kk37_36 : ∀ x j, g36 37 x j = g33 37 x j := fun x j => (hF36q 37 x j rfl).trans ((fun _ _ => rfl) x j)
              have kk38_36 : ∀ x j, g36 38 x j = g33 38 x j := fun x j => (hF36q 38 x j rfl).trans ((fun _ _ => rfl) x j)
              have hb36 : zsp T n (u33) ≤ n := zsp_len hb33
              refine z_istore_n (pc := 92) C dX10_readWorld_92 (by rw [hn]; decide) rfl ?_
              refine z_iload_n (pc := 93) C dX10_readWorld_93 rfl ?_
              refine z_if_ge (pc := 94) 99 C dX10_readWorld_94 (by decide) (fun h94_36 => ?_) (fun h94_36 => ?_)
              · skip
                have b38x : zB v36 0 255 := by have q1 := b36x; have q2 := (zB.of (x := 0) 0 (by decide)); simp only [z32lt, z32le, z32eq, Int32.reduceToInt, Int32.toInt_zero] at h94_36; constructor <;> omega
                have c39x : zB (g36 25 0 17) 0 119 := by first | assumption | (constructor <;> omega)
                refine z_iload_n (pc := 99) C dX10_readWorld_99 rfl ?_
                refine z_bipush (pc := 100) (v := 59) C dX10_readWorld_100 (by decide) ?_
                refine z_icmp_ne (pc := 102) 111 C dX10_readWorld_102 (by decide) (fun h102_39 => ?_) (fun h102_39 => ?_)
                · skip
                  refine z_iconst (pc := 111) (v := 0) C dX10_readWorld_111 (by decide) ?_
                  exact z_zret (pc := 112) C hr (z01 (zB.wk (a' := 0) (b' := 1) (zB.of (x := 0) 0 (by decide)) (by decide) (by decide))) dX10_readWorld_112 ⟨⟨_, rfl, (zB.wk (a' := 0) (b' := 1) (zB.of (x := 0) 0 (by decide)) (by decide) (by decide))⟩, hI36, hF36, (by
                                                                                          intro v hv; cases hv
                                                                                          have hm1 : ¬ zch T n (zsp T n (u33)) = -1 := by
                                                                                            rw [← hv36, z32eq]
                                                                                            have c1 : (-1 : Int32).toInt = -1 := by decide
                                                                                            omega
                                                                                          refine Or.inl ⟨_, ?_, hb36, hq36, rfl⟩
                                                                                          rw [hW, zwd_stop hcl hm1 (fun h59 => by
                                                                                            rw [← hv36] at h59
                                                                                            first
                                                                                              | exact absurd h59 (by assumption)
                                                                                              | (have h11 : a17_1.toInt = 11 := by simp only [z32eq] at *; have c11 : (11 : Int32).toInt = 11 := by decide
                                                                                                                                   omega
                                                                                                 omega))]
                                                                                          rfl)⟩
                · skip
                  have b41x : zB v36 59 59 := by have q1 := b38x; have q2 := (zB.of (x := 59) 59 (by decide)); simp only [z32lt, z32le, z32eq, Int32.reduceToInt, Int32.toInt_zero] at h102_39; constructor <;> omega
                  have c42x : zB (g36 25 0 17) 0 119 := by first | assumption | (constructor <;> omega)
                  refine z_iload_n (pc := 105) C dX10_readWorld_105 rfl ?_
                  refine z_bipush (pc := 106) (v := 11) C dX10_readWorld_106 (by decide) ?_
                  refine z_icmp_ne (pc := 108) 113 C dX10_readWorld_108 (by decide) (fun h108_42 => ?_) (fun h108_42 => ?_)
                  · skip
                    have b44x : zB a17_1 0 10 := by have q1 := b17_1; have q2 := (zB.of (x := 11) 11 (by decide)); simp only [z32lt, z32le, z32eq, Int32.reduceToInt, Int32.toInt_zero] at h108_42; constructor <;> omega
                    refine z_aload_n (pc := 113) C dX10_readWorld_113 rfl ?_
                    refine z_dupr (pc := 114) C dX10_readWorld_114 ?_
                    refine z_getI (pc := 115) C zf_X10_211 rfl rfl (by decide) dX10_readWorld_115 ?_
                    refine w_gp (fun v => v = g36 25 0 17) rfl (fun v45 q45 => ?_)
                    have e45 : v45.toInt = (g36 25 0 17).toInt := by rw [q45]
                    have b45x : zB v45 0 119 := by first | exact zB.eqv e45 c42x | (have q9 := c42x; constructor <;> omega)
                    refine z_iconst (pc := 118) (v := 1) C dX10_readWorld_118 (by decide) ?_
                    refine z_iadd (pc := 119) C dX10_readWorld_119 ?_
                    refine w_gp (fun v => v = v45 + (1 : Int32)) rfl (fun v46 q46 => ?_)
                    have e46 : v46.toInt = v45.toInt + 1 := by rw [q46]; exact (zadd_eb b45x (zB.of (x := 1) 1 (by decide)) (by decide) (by decide))
                    have b46x : zB v46 1 120 := by have q1 := b45x; have q2 := (zB.of (x := 1) 1 (by decide)); constructor <;> omega
                    refine z_putI (pc := 120) C zf_X10_211 zp_10_17 rfl rfl (by decide) dX10_readWorld_120 ?_
                    refine w_memx hI36 hF36 (zB.wk (a' := 0) (b' := 120) b46x (by decide) (by decide)) rfl (fun g47 qm47 hI47 hF47 hq47 hx47 => ?_)
                    have ec47 : (g47 25 0 17).toInt = v46.toInt := by rw [hx47]
                    have c47x : zB (g47 25 0 17) 1 120 := by first | exact zB.eqv ec47 b46x | (have q9 := b46x; constructor <;> omega)
                    have ek47_25_0_18 : (g47 25 0 18).toInt = (g36 25 0 18).toInt := by rw [hq47 25 0 18 (fun h => absurd h.2 (by decide))]
                    have c47_25_0_18x : zB (g47 25 0 18) 0 11 := by rw [hq47 25 0 18 (fun h => absurd h.2 (by decide))]; exact c36_25_0_18x
                    have ek47_25_0_20 : (g47 25 0 20).toInt = (g36 25 0 20).toInt := by rw [hq47 25 0 20 (fun h => absurd h.2 (by decide))]
                    have c47_25_0_20x : zB (g47 25 0 20) 0 12 := by rw [hq47 25 0 20 (fun h => absurd h.2 (by decide))]; exact c36_25_0_20x
                    have h1847 : g47 25 0 16 = nI n := by rw [qm47]; exact (zup_ne _ _ (fun h => absurd h.2.2 (by decide))).trans h1836
                    have hTp47 : ∀ i, i < n → g47 36 0 i = T i := fun i hi => by rw [qm47]; exact (zup_ne _ _ (fun h => absurd h.1 (by decide))).trans (hTp36 i hi)
                    have hq47 : g47 25 0 17 = nI (zsp T n (u33) + 1) := by rw [qm47, zup_same, q46, q45, hq36, nI_succ]
                    have hb47 : zsp T n (u33) + 1 ≤ n := zch_lt (fun h => by rw [← hv36, z32eq] at h; have c1 : (-1 : Int32).toInt = -1 := (by decide); omega)
                    have kk37_47 : ∀ x j, g47 37 x j = g33 37 x j := fun x j => by rw [qm47]; exact (zup_ne _ _ (fun h => absurd h.1 (by decide))).trans (kk37_36 x j)
                    have kk38_47 : ∀ x j, g47 38 x j = g33 38 x j := fun x j => by rw [qm47]; exact (zup_ne _ _ (fun h => absurd h.1 (by decide))).trans (kk38_36 x j)
                    refine z_iinc (pc := 123) (v := 1) C dX10_readWorld_123 rfl (by decide) (by rw [hn]; decide) rfl ?_
                    obtain ⟨v48, hv48, e48⟩ : ∃ v : Int32, v = a17_1 + 1 ∧ v.toInt = a17_1.toInt + 1 := ⟨_, rfl, zadd_eb b44x (zB.of (x := 1) 1 (by decide)) (by decide) (by decide)⟩
                    rw [← hv48]
                    have b48x : zB v48 1 11 := by have q9 := b44x; constructor <;> omega
                    refine z_goto (pc := 126) 17 C dX10_readWorld_126 (by decide) ?_
                    refine w_mask [2, 3] ?_
                    exact ih0 v48 (zB.wk (a' := 0) (b' := 11) b48x (by decide) (by decide)) g47 hI47 hF47 (zB.wk c47x (by decide) (by decide)) (zB.wk c47_25_0_18x (by decide) (by decide)) c47_25_0_20x (by exact h1847) (by exact hTp47) (by rw [hq47, nI_tt (by have := hb47; omega)]; exact hb47) (by
                                                                                          have h59 : zch T n (zsp T n (u33)) = 59 := by rw [← hv36]; assumption
                                                                                          refine ⟨cs, (ps ++ [c33w]), zSm_k hS2 (by rw [z32eq]; omega) (by rw [z32eq]; omega) (fun x => kk37_47 0 x) (fun x => kk38_47 0 x), ?_, ?_⟩
                                                                                          · rw [List.length_append, List.length_singleton]; omega
                                                                                          · rw [hW, zwd_more hcl h59 (by omega), hq47, nI_tt (by have := hb47; omega), show 12 - (v48).toInt.toNat = 11 - a17_1.toInt.toNat by omega]
                                                                                            rfl) (by omega)
                  · skip
                    have b49x : zB a17_1 11 11 := by have q1 := b17_1; have q2 := (zB.of (x := 11) 11 (by decide)); simp only [z32lt, z32le, z32eq, Int32.reduceToInt, Int32.toInt_zero] at h108_42; constructor <;> omega
                    refine z_iconst (pc := 111) (v := 0) C dX10_readWorld_111 (by decide) ?_
                    exact z_zret (pc := 112) C hr (z01 (zB.wk (a' := 0) (b' := 1) (zB.of (x := 0) 0 (by decide)) (by decide) (by decide))) dX10_readWorld_112 ⟨⟨_, rfl, (zB.wk (a' := 0) (b' := 1) (zB.of (x := 0) 0 (by decide)) (by decide) (by decide))⟩, hI36, hF36, (by
                                                                                          intro v hv; cases hv
                                                                                          have hm1 : ¬ zch T n (zsp T n (u33)) = -1 := by
                                                                                            rw [← hv36, z32eq]
                                                                                            have c1 : (-1 : Int32).toInt = -1 := by decide
                                                                                            omega
                                                                                          refine Or.inl ⟨_, ?_, hb36, hq36, rfl⟩
                                                                                          rw [hW, zwd_stop hcl hm1 (fun h59 => by
                                                                                            rw [← hv36] at h59
                                                                                            first
                                                                                              | exact absurd h59 (by assumption)
                                                                                              | (have h11 : a17_1.toInt = 11 := by simp only [z32eq] at *; have c11 : (11 : Int32).toInt = 11 := by decide
                                                                                                                                   omega
                                                                                                 omega))]
                                                                                          rfl)⟩
              · skip
                have b50x : zB v36 (-1) (-1) := by have q1 := b36x; have q2 := (zB.of (x := 0) 0 (by decide)); simp only [z32lt, z32le, z32eq, Int32.reduceToInt, Int32.toInt_zero] at h94_36; constructor <;> omega
                refine z_iconst (pc := 97) (v := 1) C dX10_readWorld_97 (by decide) ?_
                exact z_zret (pc := 98) C hr (z01 (zB.wk (a' := 0) (b' := 1) (zB.of (x := 1) 1 (by decide)) (by decide) (by decide))) dX10_readWorld_98 ⟨⟨_, rfl, (zB.wk (a' := 0) (b' := 1) (zB.of (x := 1) 1 (by decide)) (by decide) (by decide))⟩, hI36, hF36, (by
                                                                                          intro v hv; cases hv
                                                                                          have hm1 : zch T n (zsp T n (u33)) = -1 := by
                                                                                            rw [← hv36, z32eq]
                                                                                            have c1 : (-1 : Int32).toInt = -1 := by decide
                                                                                            omega
                                                                                          refine Or.inr ⟨cs, (ps ++ [c33w]), ?_, rfl, ?_, zSm_k hS2 (by rw [z32eq]; omega) (by rw [z32eq]; omega) (fun x => kk37_36 0 x) (fun x => kk38_36 0 x)⟩
                                                                                          · rw [hW, zwd_end hcl hm1]; simp [zwj]
                                                                                          · rw [List.length_append, List.length_singleton]; omega)⟩
          · skip
            have hb32 : zsp T n (zsp T n (zsp T n ((g17_ 25 0 17).toInt.toNat) + 1)) ≤ n := zsp_len hb13
            refine z_if_eq (pc := 75) 86 C dX10_readWorld_75 (by decide) (fun _ => ?_) (fun h => absurd (by decide) h)
            refine z_iconst (pc := 86) (v := 0) C dX10_readWorld_86 (by decide) ?_
            exact z_zret (pc := 87) C hr (z01 (zB.wk (a' := 0) (b' := 1) (zB.of (x := 0) 0 (by decide)) (by decide) (by decide))) dX10_readWorld_87 ⟨⟨_, rfl, (zB.wk (a' := 0) (b' := 1) (zB.of (x := 0) 0 (by decide)) (by decide) (by decide))⟩, hI32, hF32, (by
                                                                                          intro v hv; cases hv
                                                                                          have hcl : zclR T n ((g17_ 25 0 17).toInt.toNat) = .inl (zsp T n (zsp T n (zsp T n ((g17_ 25 0 17).toInt.toNat) + 1))) := by unfold zclR zCl; simp only [zbd, hzl, if_neg hc13, if_neg hc32]
                                                                                          refine Or.inl ⟨_, ?_, hb32, hq32, rfl⟩
                                                                                          rw [hW, zwd_bad hcl]; rfl)⟩
      · skip
        refine z_if_ne (pc := 35) 40 C dX10_readWorld_35 (by decide) (fun h => absurd (by decide) h) (fun _ => ?_)
        refine z_iconst (pc := 38) (v := 0) C dX10_readWorld_38 (by decide) ?_
        exact z_zret (pc := 39) C hr (z01 (zB.wk (a' := 0) (b' := 1) (zB.of (x := 0) 0 (by decide)) (by decide) (by decide))) dX10_readWorld_39 ⟨⟨_, rfl, (zB.wk (a' := 0) (b' := 1) (zB.of (x := 0) 0 (by decide)) (by decide) (by decide))⟩, hI4, hF4, (by
                                                                                          intro v hv; cases hv
                                                                                          have hl29 : v5 = zch T n (zsp T n ((g17_ 25 0 17).toInt.toNat)) - 65 := by rw [q5, hv4]
                                                                                          have hzl : zld T n (-4) ((g17_ 25 0 17).toInt.toNat) = .inl (zsp T n ((g17_ 25 0 17).toInt.toNat)) := by unfold zld; rw [← hl29, if_neg (fun hh => absurd hh.1 (by assumption))]
                                                                                          have hcl : zclR T n ((g17_ 25 0 17).toInt.toNat) = .inl (zsp T n ((g17_ 25 0 17).toInt.toNat)) := by unfold zclR zCl; simp only [zbd, hzl]
                                                                                          refine Or.inl ⟨_, ?_, hb4, hq4, rfl⟩
                                                                                          rw [hW, zwd_bad hcl]; rfl)⟩
  have J0 := J 48
  show Z X 0 [some (zr 25 0), none, none, none] [] f
  refine z_aload_n (pc := 0) C dX10_readWorld_0 rfl ?_
  refine z_iconst (pc := 1) (v := 0) C dX10_readWorld_1 (by decide) ?_
  refine z_putI (pc := 2) C zf_X10_211 zp_10_17 rfl rfl (by decide) dX10_readWorld_2 ?_
  refine w_memx hI hF (zB.wk (a' := 0) (b' := 120) (zB.of (x := 0) 0 (by decide)) (by decide) (by decide)) rfl (fun g51 qm51 hI51 hF51 hq51 hx51 => ?_)
  have ec51 : (g51 25 0 17).toInt = (0 : Int32).toInt := by rw [hx51]
  have c51x : zB (g51 25 0 17) 0 0 := by have q9 := (zB.of (x := 0) 0 (by decide)); constructor <;> omega
  have ek51_25_0_18 : (g51 25 0 18).toInt = (f 25 0 18).toInt := by rw [hq51 25 0 18 (fun h => absurd h.2 (by decide))]
  have c51_25_0_18x : zB (g51 25 0 18) 0 12 := by rw [hq51 25 0 18 (fun h => absurd h.2 (by decide))]; exact ct25_0_18
  have ek51_25_0_20 : (g51 25 0 20).toInt = (f 25 0 20).toInt := by rw [hq51 25 0 20 (fun h => absurd h.2 (by decide))]
  have c51_25_0_20x : zB (g51 25 0 20) 0 12 := by rw [hq51 25 0 20 (fun h => absurd h.2 (by decide))]; exact ct25_0_20
  refine z_aload_n (pc := 5) C dX10_readWorld_5 rfl ?_
  refine z_iconst (pc := 6) (v := 0) C dX10_readWorld_6 (by decide) ?_
  refine z_putI (pc := 7) C zf_X10_221 zp_10_18 rfl rfl (by decide) dX10_readWorld_7 ?_
  refine w_memx hI51 hF51 (zB.wk (a' := 0) (b' := 12) (zB.of (x := 0) 0 (by decide)) (by decide) (by decide)) rfl (fun g52 qm52 hI52 hF52 hq52 hx52 => ?_)
  have ek52_25_0_17 : (g52 25 0 17).toInt = (g51 25 0 17).toInt := by rw [hq52 25 0 17 (fun h => absurd h.2 (by decide))]
  have c52_25_0_17x : zB (g52 25 0 17) 0 0 := by rw [hq52 25 0 17 (fun h => absurd h.2 (by decide))]; exact c51x
  have ec52 : (g52 25 0 18).toInt = (0 : Int32).toInt := by rw [hx52]
  have c52x : zB (g52 25 0 18) 0 0 := by have q9 := (zB.of (x := 0) 0 (by decide)); constructor <;> omega
  have ek52_25_0_20 : (g52 25 0 20).toInt = (g51 25 0 20).toInt := by rw [hq52 25 0 20 (fun h => absurd h.2 (by decide))]
  have c52_25_0_20x : zB (g52 25 0 20) 0 12 := by rw [hq52 25 0 20 (fun h => absurd h.2 (by decide))]; exact c51_25_0_20x
  refine z_aload_n (pc := 10) C dX10_readWorld_10 rfl ?_
  refine z_iconst (pc := 11) (v := 0) C dX10_readWorld_11 (by decide) ?_
  refine z_putI (pc := 12) C zf_X10_233 zp_10_20 rfl rfl (by decide) dX10_readWorld_12 ?_
  refine w_memx hI52 hF52 (zB.wk (a' := 0) (b' := 12) (zB.of (x := 0) 0 (by decide)) (by decide) (by decide)) rfl (fun g53 qm53 hI53 hF53 hq53 hx53 => ?_)
  have ek53_25_0_17 : (g53 25 0 17).toInt = (g52 25 0 17).toInt := by rw [hq53 25 0 17 (fun h => absurd h.2 (by decide))]
  have c53_25_0_17x : zB (g53 25 0 17) 0 0 := by rw [hq53 25 0 17 (fun h => absurd h.2 (by decide))]; exact c52_25_0_17x
  have ek53_25_0_18 : (g53 25 0 18).toInt = (g52 25 0 18).toInt := by rw [hq53 25 0 18 (fun h => absurd h.2 (by decide))]
  have c53_25_0_18x : zB (g53 25 0 18) 0 0 := by rw [hq53 25 0 18 (fun h => absurd h.2 (by decide))]; exact c52x
  have ec53 : (g53 25 0 20).toInt = (0 : Int32).toInt := by rw [hx53]
  have c53x : zB (g53 25 0 20) 0 0 := by have q9 := (zB.of (x := 0) 0 (by decide)); constructor <;> omega
  refine z_iconst (pc := 15) (v := 0) C dX10_readWorld_15 (by decide) ?_
  refine z_istore_n (pc := 16) C dX10_readWorld_16 (by rw [hn]; decide) rfl ?_
  exact J0 0 (zB.wk (a' := 0) (b' := 11) (zB.of (x := 0) 0 (by decide)) (by decide) (by decide)) g53 hI53 hF53 (zB.wk c53_25_0_17x (by decide) (by decide)) (zB.wk c53_25_0_18x (by decide) (by decide)) (zB.wk c53x (by decide) (by decide)) (by subst qm53 qm52 qm51; exact h18) (by subst qm53 qm52 qm51; exact hTp) (by subst qm53 qm52 qm51; exact Nat.zero_le n) (by
                                                                                          refine ⟨[], [], ⟨by subst qm53 qm52 qm51; rfl, by subst qm53 qm52 qm51; rfl, fun i j hi => absurd hi (Nat.not_lt_zero i), fun i j hi => absurd hi (Nat.not_lt_zero i)⟩, rfl, ?_⟩
                                                                                          rw [show ((g53 25 0 17).toInt.toNat) = 0 by subst qm53 qm52 qm51; rfl]
                                                                                          show _ = zwj [] [] (zwd (zclR T n) T n 12 0)
                                                                                          generalize zwd (zclR T n) T n 12 0 = X
                                                                                          rcases X with x | ⟨x, y⟩ <;> rfl) (by have qc0 : (0 : Int32).toInt = 0 := (by decide); omega)
