def zwj (cs ps : List (Nat → Int32)) (x : Nat ⊕ (List (Nat → Int32) × List (Nat → Int32))) : Nat ⊕ (List (Nat → Int32) × List (Nat → Int32)) := match x with
  | .inl e => .inl e
  | .inr q => .inr (cs ++ q.1, ps ++ q.2)
section ZW
variable {cl : Nat → zR (Bool × (Nat → Int32))} {T : Nat → Int32} {n k p q e : Nat} {b : Bool} {c : Nat → Int32} {cs ps : List (Nat → Int32)}
theorem zwd_bad (h : cl p = .inl e) : zwd cl T n (k + 1) p = .inl e := by
  unfold zwd; rw [h]; rfl
theorem zfin_ok {α : Type} {a : α} (h : zch T n (zsp T n q) = 59 ∨ zch T n (zsp T n q) = -1) : zfin T n (.inr (a, q)) = .inr (a, zsp T n q) := by
  unfold zfin; simp only [zbd]; rw [if_pos h]
theorem zwd_end (h : cl p = .inr ((b, c), q)) (h1 : zch T n (zsp T n q) = -1) : zwd cl T n (k + 1) p = if b then .inr ([], [c]) else .inr ([c], []) := by
  unfold zwd; rw [h, zfin_ok (Or.inr h1)]; simp only; rw [if_pos h1]
theorem zwd_stop (h : cl p = .inr ((b, c), q)) (h1 : ¬ zch T n (zsp T n q) = -1) (h2 : zch T n (zsp T n q) = 59 → k = 0) : zwd cl T n (k + 1) p = .inl (zsp T n q) := by
  unfold zwd
  rw [h]
  by_cases h3 : zch T n (zsp T n q) = 59
  · rw [zfin_ok (Or.inl h3)]; simp only; rw [if_neg h1, if_pos (h2 h3)]
  · rw [zfin_bad _ h3 h1]
theorem zwd_more (h : cl p = .inr ((b, c), q)) (h1 : zch T n (zsp T n q) = 59) (hk : k ≠ 0) : zwj cs ps (zwd cl T n (k + 1) p) = (if b then zwj cs (ps ++ [c]) (zwd cl T n k (zsp T n q + 1)) else zwj (cs ++ [c]) ps (zwd cl T n k (zsp T n q + 1))) := by
  rw [zwd]
  rw [h, zfin_ok (Or.inl h1)]
  simp only
  rw [if_neg (by rw [h1]; decide), if_neg hk]
  generalize zwd cl T n k (zsp T n q + 1) = X
  rcases X with x | ⟨x, y⟩
  · cases b <;> rfl
  · cases b
    · simp [zwj]
    · simp [zwj]
end ZW
/-- what the class has read so far: CRIMES, papers -/
def zSx (m : zM) (cs ps : List (Nat → Int32)) : Prop := m 18 0 4 = nI cs.length ∧ m 18 0 5 = nI ps.length ∧ (∀ i j, i < cs.length → j < 6 → m 7 (48 + i) j = (cs.getD i (fun _ => 0)) j) ∧ (∀ i j, i < ps.length → j < 8 → m 11 (24 + i) j = (ps.getD i (fun _ => 0)) j)
theorem getD_app {l : List (Nat → Int32)} {c : Nat → Int32} {i : Nat} (h : i < (l ++ [c]).length) : (i < l.length ∧ (l ++ [c]).getD i (fun _ => 0) = l.getD i (fun _ => 0)) ∨ (i = l.length ∧ (l ++ [c]).getD i (fun _ => 0) = c) := by
  rw [List.length_append, List.length_singleton] at h
  by_cases q : i < l.length
  · refine Or.inl ⟨q, ?_⟩
    rw [List.getD_eq_getElem?_getD, List.getD_eq_getElem?_getD, List.getElem?_append_left q]
  · have e : i = l.length := by omega
    refine Or.inr ⟨e, ?_⟩
    subst e
    rw [List.getD_eq_getElem?_getD, List.getElem?_concat_length]
    rfl
theorem zSx_c {f m : zM} {cs ps : List (Nat → Int32)} {c : Nat → Int32} (h : zSx f cs ps) (hl : cs.length < 12) (h1 : m 18 0 4 = f 18 0 4 + 1) (h2 : ∀ j, j < 6 → m 7 (48 + (f 18 0 4).toInt.toNat) j = c j) (h3 : ∀ x j, j < 6 → x ≠ 48 + (f 18 0 4).toInt.toNat → m 7 x j = f 7 x j) (h4 : m 18 0 5 = f 18 0 5) (h5 : ∀ x j, j < 8 → m 11 x j = f 11 x j) : zSx m (cs ++ [c]) ps := by
  obtain ⟨a1, a2, a3, a4⟩ := h
  rw [a1, nI_tt (by omega)] at h2 h3
  refine ⟨?_, ?_, fun i j hi hj => ?_, fun i j hi hj => ?_⟩
  · rw [h1, a1, List.length_append, List.length_singleton, nI_succ]
  · rw [h4, a2]
  · rcases getD_app hi with ⟨q1, q2⟩ | ⟨q1, q2⟩
    · rw [q2, h3 _ j hj (by omega)]; exact a3 i j q1 hj
    · rw [q2, q1]; exact h2 j hj
  · rw [h5 _ j hj]; exact a4 i j hi hj
theorem zSx_p {f m : zM} {cs ps : List (Nat → Int32)} {c : Nat → Int32} (h : zSx f cs ps) (hl : ps.length < 12) (h1 : m 18 0 5 = f 18 0 5 + 1) (h2 : ∀ j, j < 8 → m 11 (24 + (f 18 0 5).toInt.toNat) j = c j) (h3 : ∀ x j, j < 8 → x ≠ 24 + (f 18 0 5).toInt.toNat → m 11 x j = f 11 x j) (h4 : m 18 0 4 = f 18 0 4) (h5 : ∀ x j, j < 6 → m 7 x j = f 7 x j) : zSx m cs (ps ++ [c]) := by
  obtain ⟨a1, a2, a3, a4⟩ := h
  rw [a2, nI_tt (by omega)] at h2 h3
  refine ⟨?_, ?_, fun i j hi hj => ?_, fun i j hi hj => ?_⟩
  · rw [h4, a1]
  · rw [h1, a2, List.length_append, List.length_singleton, nI_succ]
  · rw [h5 _ j hj]; exact a3 i j hi hj
  · rcases getD_app hi with ⟨q1, q2⟩ | ⟨q1, q2⟩
    · rw [q2, h3 _ j hj (by omega)]; exact a4 i j q1 hj
    · rw [q2, q1]; exact h2 j hj
theorem zSx_k {f m : zM} {cs ps : List (Nat → Int32)} (h : zSx f cs ps) (h1 : m 18 0 4 = f 18 0 4) (h2 : m 18 0 5 = f 18 0 5) (h3 : ∀ x j, j < 6 → m 7 x j = f 7 x j) (h4 : ∀ x j, j < 8 → m 11 x j = f 11 x j) : zSx m cs ps := by
  obtain ⟨a1, a2, a3, a4⟩ := h
  exact ⟨h1.trans a1, h2.trans a2, fun i j hi hj => (h3 _ j hj).trans (a3 i j hi hj), fun i j hi hj => (h4 _ j hj).trans (a4 i j hi hj)⟩

set_option maxRecDepth 100000 in
set_option maxHeartbeats 4000000 in
theorem e_X7_parse (d : Nat) (f : zM) (T : Nat → Int32) (n : Nat) (hN : n ≤ 120) (h18 : f 18 0 3 = nI n) (hTp : ∀ i, i < n → f 19 0 i = T i) (hI : zInv f) : ZMs (d + 8) yX7_parse cX7_parse 2 (some .int) [zr 18 0] f (fun r g => (∃ v, r = some (zi v) ∧ zB v (-140) 12) ∧ zInv g ∧ zFr [(7, some 0), (7, some 1), (7, some 2), (7, some 3), (7, some 4), (7, some 5), (11, some 0), (11, some 1), (11, some 2), (11, some 3), (11, some 4), (11, some 5), (11, some 6), (11, some 7), (18, some 4), (18, some 5), (18, some 6), (18, some 7)] f g ∧ (∀ v : Int32, r = some (zi v) → (∃ e : Nat, zwd (zclC T n) T n 12 0 = .inl e ∧ e ≤ n ∧ v.toInt = -20 - e) ∨ (∃ cs ps, zwd (zclC T n) T n 12 0 = .inr (cs, ps) ∧ v.toInt = cs.length + ps.length ∧ cs.length + ps.length ≤ 12 ∧ zSx g cs ps)) ∧ (∀ v : Int32, r = some (zi v) → ∀ x j, x < 48 → j < 6 → g 7 x j = f 7 x j) ∧ (∀ v : Int32, r = some (zi v) → ∀ x j, x < 24 → j < 8 → g 11 x j = f 11 x j)) := by
  refine ZMs.intro (by decide +kernel) (Nat.le_of_ble_eq_true rfl) ?_
  intro X C hr hn hT
  have hF : zFr [(7, some 0), (7, some 1), (7, some 2), (7, some 3), (7, some 4), (7, some 5), (11, some 0), (11, some 1), (11, some 2), (11, some 3), (11, some 4), (11, some 5), (11, some 6), (11, some 7), (18, some 4), (18, some 5), (18, some 6), (18, some 7)] f f := zFr.rf _ _
  have ct18_0_7 : zB (f 18 0 7) (-1) 120 := hI 18 0 7
  have ct18_0_4 : zB (f 18 0 4) 0 12 := hI 18 0 4
  have ct18_0_5 : zB (f 18 0 5) 0 12 := hI 18 0 5
  have ct18_0_6 : zB (f 18 0 6) 0 120 := hI 18 0 6
  have J : ∀ t : Nat, (∀ a22_1 : Int32, zB a22_1 0 11 → ∀ g : zM, zInv g → zFr [(7, some 0), (7, some 1), (7, some 2), (7, some 3), (7, some 4), (7, some 5), (11, some 0), (11, some 1), (11, some 2), (11, some 3), (11, some 4), (11, some 5), (11, some 6), (11, some 7), (18, some 4), (18, some 5), (18, some 6), (18, some 7)] f g → zB (g 18 0 4) 0 12 → zB (g 18 0 5) 0 12 → zB (g 18 0 6) 0 120 → zB (g 18 0 7) (-1) (-1) → (g 18 0 3 = nI n) → (∀ i, i < n → g 19 0 i = T i) → (g 18 0 7 = -1) → ((g 18 0 6).toInt.toNat ≤ n) → (∃ cs ps, zSx g cs ps ∧ cs.length + ps.length = a22_1.toInt.toNat ∧ zwd (zclC T n) T n 12 0 = zwj cs ps (zwd (zclC T n) T n (12 - a22_1.toInt.toNat) ((g 18 0 6).toInt.toNat))) → (∀ x j, x < 48 → j < 6 → g 7 x j = f 7 x j) → (∀ x j, x < 24 → j < 8 → g 11 x j = f 11 x j) → (0 + 3 * (11 - a22_1.toInt) : Int) < t → Z X 22 [some (zr 18 0), some (zi a22_1)] [] g) := by
    intro t
    induction t with
    | zero =>
      intros; exfalso; omega
    | succ t ih =>
      have ih0 := ih
      intro a22_1 b22_1 g22_ hI22_ hF22_ f22_18_0_4 f22_18_0_5 f22_18_0_6 f22_18_0_7 hR22_0 hR22_1 hR22_2 hR22_3 hR22_4 hR22_5 hR22_6 hM22_
      have hpl22 : g22_ 18 0 6 = nI ((g22_ 18 0 6).toInt.toNat) := (nI_ofI (hI22_ 18 0 6).1).1
      obtain ⟨cs, ps, hS, hlen, hW⟩ := hR22_4
      have t4 : (g22_ 18 0 4).toInt = (cs.length : Int) := by rw [hS.1]; exact nI_toInt (by omega)
      have t5 : (g22_ 18 0 5).toInt = (ps.length : Int) := by rw [hS.2.1]; exact nI_toInt (by omega)
      have c1x : zB (g22_ 18 0 4) 0 11 := by first | assumption | (constructor <;> omega)
      have c2x : zB (g22_ 18 0 5) 0 11 := by first | assumption | (constructor <;> omega)
      have hk12 : 12 - a22_1.toInt.toNat = (11 - a22_1.toInt.toNat) + 1 := by omega
      rw [hk12] at hW
      refine z_aload_n (pc := 22) C dX7_parse_22 rfl ?_
      refine z_callVS (pc := 23) C hT zk_X7_45 (e_X7_readClause _ _ c1x c2x T n ((g22_ 18 0 6).toInt.toNat) hN hR22_0 hR22_1 hpl22 hR22_3 hR22_2 hI22_) rfl rfl (by decide) rfl rfl (Nat.le_of_ble_eq_true rfl) dX7_parse_23 (fun r3 g3 q3 => ?_)
      obtain ⟨rfl, hI3, hF3q, hp3⟩ := q3
      have hF3 := zFr.tr hF22_ hF3q (by decide)
      simp only [Option.toList, List.cons_append, List.nil_append]
      have cr3_18_0_7 : zB (g3 18 0 7) (-1) 120 := hI3 18 0 7
      have cr3_18_0_4 : zB (g3 18 0 4) 0 12 := hI3 18 0 4
      have cr3_18_0_5 : zB (g3 18 0 5) 0 12 := hI3 18 0 5
      have cr3_18_0_6 : zB (g3 18 0 6) 0 120 := hI3 18 0 6
      rcases hp3 with ⟨u3, hc3, hb3, hz3, k73, k113⟩ | ⟨u3, c3w, hc3, hq3, hb3, ft3, n13, n23, n33, n43, n53⟩ | ⟨u3, c3w, hc3, hq3, hb3, ft3, n13, n23, n33, n43, n53⟩
      · skip
        have hzi3 : (g3 18 0 7).toInt = (u3 : Int) := by rw [hz3]; exact nI_toInt (by omega)
        have c4x : zB (g3 18 0 7) 0 120 := by first | assumption | (constructor <;> omega)
        have hL7 : ∀ x j, x < 48 → j < 6 → g3 7 x j = f 7 x j := fun x j hx hj => (k73 x j).trans (hR22_5 x j hx hj)
        have hL11 : ∀ x j, x < 24 → j < 8 → g3 11 x j = f 11 x j := fun x j hx hj => (k113 x j).trans (hR22_6 x j hx hj)
        refine z_iinc (pc := 26) (v := 1) C dX7_parse_26 rfl (by decide) (by rw [hn]; decide) rfl ?_
        obtain ⟨v5, hv5, e5⟩ : ∃ v : Int32, v = a22_1 + 1 ∧ v.toInt = a22_1.toInt + 1 := ⟨_, rfl, zadd_eb b22_1 (zB.of (x := 1) 1 (by decide)) (by decide) (by decide)⟩
        rw [← hv5]
        have b5x : zB v5 1 12 := by have q9 := b22_1; constructor <;> omega
        refine z_iload_n (pc := 29) C dX7_parse_29 rfl ?_
        refine z_bipush (pc := 30) (v := 12) C dX7_parse_30 (by decide) ?_
        refine z_icmp_ge (pc := 32) 52 C dX7_parse_32 (by decide) (fun h32_5 => ?_) (fun h32_5 => ?_)
        · skip
          have b7x : zB v5 12 12 := by have q1 := b5x; have q2 := (zB.of (x := 12) 12 (by decide)); simp only [z32lt, z32le, z32eq, Int32.reduceToInt, Int32.toInt_zero] at h32_5; constructor <;> omega
          refine z_aload_n (pc := 52) C dX7_parse_52 rfl ?_
          refine z_callV (pc := 53) C zk_X7_52 (w_X7_next _ _  hI3) rfl rfl (by decide) rfl rfl (Nat.le_of_ble_eq_true rfl) dX7_parse_53 (fun r8 g8 q8 => ?_)
          obtain ⟨⟨v8, rfl, b8x⟩, hI8, hF8q, hp8_0, hp8_1, hp8_2, hp8_3⟩ := q8
          have hp8_0 := hp8_0 _ rfl
          have hp8_1 := hp8_1 _ rfl
          have hp8_2 := hp8_2 _ rfl
          have hp8_3 := hp8_3 _ rfl
          have hF8 := zFr.tr hF3 hF8q (by decide)
          simp only [Option.toList, List.cons_append, List.nil_append]
          have ek8_18_0_7 : (g8 18 0 7).toInt = (g3 18 0 7).toInt := by rw [hF8q 18 0 7 rfl]
          have c8_18_0_7x : zB (g8 18 0 7) 0 120 := by rw [hF8q 18 0 7 rfl]; exact c4x
          have ek8_18_0_4 : (g8 18 0 4).toInt = (g3 18 0 4).toInt := by rw [hF8q 18 0 4 rfl]
          have c8_18_0_4x : zB (g8 18 0 4) 0 12 := by rw [hF8q 18 0 4 rfl]; exact cr3_18_0_4
          have ek8_18_0_5 : (g8 18 0 5).toInt = (g3 18 0 5).toInt := by rw [hF8q 18 0 5 rfl]
          have c8_18_0_5x : zB (g8 18 0 5) 0 12 := by rw [hF8q 18 0 5 rfl]; exact cr3_18_0_5
          have cr8_18_0_6 : zB (g8 18 0 6) 0 120 := hI8 18 0 6
          have c9x : zB (g8 18 0 7) 0 120 := by first | assumption | (constructor <;> omega)
          refine z_iconst (pc := 56) (v := -1) C dX7_parse_56 (by decide) ?_
          refine z_icmp_eq (pc := 57) 68 C dX7_parse_57 (by decide) (fun h57_9 => ?_) (fun h57_9 => ?_)
          · skip
            have b11x : zB v8 (-1) (-1) := by have q1 := b8x; have q2 := (zB.of (x := (-1)) (-1) (by decide)); simp only [z32lt, z32le, z32eq, Int32.reduceToInt, Int32.toInt_zero] at h57_9; constructor <;> omega
            refine z_aload_n (pc := 68) C dX7_parse_68 rfl ?_
            refine z_getI (pc := 69) C zf_X7_36 rfl rfl (by decide) dX7_parse_69 ?_
            refine w_gp (fun v => v = g8 18 0 7) rfl (fun v12 q12 => ?_)
            have e12 : v12.toInt = (g8 18 0 7).toInt := by rw [q12]
            have b12x : zB v12 0 120 := by first | exact zB.eqv e12 c9x | (have q9 := c9x; constructor <;> omega)
            refine z_iconst (pc := 72) (v := -1) C dX7_parse_72 (by decide) ?_
            refine z_icmp_ne (pc := 73) 80 C dX7_parse_73 (by decide) (fun h73_12 => ?_) (fun h73_12 => absurd h73_12 (by have q1 := b12x; have q2 := (zB.of (x := (-1)) (-1) (by decide)); first | (simp only [z32lt, z32le, z32eq]; omega) | (simp only [z32lt, z32le, z32eq] at *; omega)))
            refine z_bipush (pc := 80) (v := -20) C dX7_parse_80 (by decide) ?_
            refine z_aload_n (pc := 82) C dX7_parse_82 rfl ?_
            refine z_getI (pc := 83) C zf_X7_36 rfl rfl (by decide) dX7_parse_83 ?_
            refine w_gp (fun v => v = g8 18 0 7) rfl (fun v14 q14 => ?_)
            have e14 : v14.toInt = (g8 18 0 7).toInt := by rw [q14]
            have b14x : zB v14 0 120 := by first | exact zB.eqv e14 c9x | (have q9 := c9x; constructor <;> omega)
            refine z_isub (pc := 86) C dX7_parse_86 ?_
            refine w_gp (fun v => v = ((-20) : Int32) - v14) rfl (fun v15 q15 => ?_)
            have e15 : v15.toInt = (-20) - v14.toInt := by rw [q15]; exact (zsub_eb (zB.of (x := (-20)) (-20) (by decide)) b14x (by decide) (by decide))
            have b15x : zB v15 (-140) (-20) := by have q1 := (zB.of (x := (-20)) (-20) (by decide)); have q2 := b14x; constructor <;> omega
            exact z_iret (pc := 87) C hr dX7_parse_87 ⟨⟨_, rfl, (zB.wk (a' := (-140)) (b' := 12) b15x (by decide) (by decide))⟩, hI8, hF8, (by
                                                                                          intro v hv; cases hv
                                                                                          refine Or.inl ⟨u3, ?_, hb3, by omega⟩
                                                                                          rw [hW, zwd_bad hc3]; rfl), (by intro v hv; cases hv; intro x j hx hj; exact (hF8q 7 x j rfl).trans (hL7 x j hx hj)), (by intro v hv; cases hv; intro x j hx hj; exact (hF8q 11 x j rfl).trans (hL11 x j hx hj))⟩
          · skip
            have b16x : zB v8 0 255 := by have q1 := b8x; have q2 := (zB.of (x := (-1)) (-1) (by decide)); simp only [z32lt, z32le, z32eq, Int32.reduceToInt, Int32.toInt_zero] at h57_9; constructor <;> omega
            have c17x : zB (g8 18 0 6) 0 119 := by first | assumption | (constructor <;> omega)
            refine z_aload_n (pc := 60) C dX7_parse_60 rfl ?_
            refine z_aload_n (pc := 61) C dX7_parse_61 rfl ?_
            refine z_getI (pc := 62) C zf_X7_33 rfl rfl (by decide) dX7_parse_62 ?_
            refine w_gp (fun v => v = g8 18 0 6) rfl (fun v18 q18 => ?_)
            have e18 : v18.toInt = (g8 18 0 6).toInt := by rw [q18]
            have b18x : zB v18 0 119 := by first | exact zB.eqv e18 c17x | (have q9 := c17x; constructor <;> omega)
            refine z_callV (pc := 65) C zk_X7_56 (x_X7_fail _ _ v18 (zB.wk (a' := 0) (b' := 120) b18x (by decide) (by decide)) hI8) rfl rfl (by decide) rfl rfl (Nat.le_of_ble_eq_true rfl) dX7_parse_65 (fun r19 g19 q19 => ?_)
            obtain ⟨rfl, hI19, hF19q, hp19_0, hp19_1, hp19_2⟩ := q19
            have hF19 := zFr.tr hF8 hF19q (by decide)
            simp only [Option.toList, List.cons_append, List.nil_append]
            have cr19_18_0_7 : zB (g19 18 0 7) (-1) 120 := hI19 18 0 7
            have ek19_18_0_4 : (g19 18 0 4).toInt = (g8 18 0 4).toInt := by rw [hF19q 18 0 4 rfl]
            have c19_18_0_4x : zB (g19 18 0 4) 0 12 := by rw [hF19q 18 0 4 rfl]; exact c8_18_0_4x
            have ek19_18_0_5 : (g19 18 0 5).toInt = (g8 18 0 5).toInt := by rw [hF19q 18 0 5 rfl]
            have c19_18_0_5x : zB (g19 18 0 5) 0 12 := by rw [hF19q 18 0 5 rfl]; exact c8_18_0_5x
            have ek19_18_0_6 : (g19 18 0 6).toInt = (g8 18 0 6).toInt := by rw [hF19q 18 0 6 rfl]
            have c19_18_0_6x : zB (g19 18 0 6) 0 119 := by rw [hF19q 18 0 6 rfl]; exact c17x
            refine z_aload_n (pc := 68) C dX7_parse_68 rfl ?_
            refine z_getI (pc := 69) C zf_X7_36 rfl rfl (by decide) dX7_parse_69 ?_
            refine w_gp (fun v => v = g19 18 0 7) rfl (fun v20 q20 => ?_)
            have e20 : v20.toInt = (g19 18 0 7).toInt := by rw [q20]
            have b20x : zB v20 (-1) 120 := by first | exact zB.eqv e20 cr19_18_0_7 | (have q9 := cr19_18_0_7; constructor <;> omega)
            refine z_iconst (pc := 72) (v := -1) C dX7_parse_72 (by decide) ?_
            refine z_icmp_ne (pc := 73) 80 C dX7_parse_73 (by decide) (fun h73_20 => ?_) (fun h73_20 => ?_)
            · skip
              have b22x : zB v20 0 120 := by have q1 := b20x; have q2 := (zB.of (x := (-1)) (-1) (by decide)); simp only [z32lt, z32le, z32eq, Int32.reduceToInt, Int32.toInt_zero] at h73_20; constructor <;> omega
              have c23x : zB (g19 18 0 7) 0 120 := by first | assumption | (constructor <;> omega)
              refine z_bipush (pc := 80) (v := -20) C dX7_parse_80 (by decide) ?_
              refine z_aload_n (pc := 82) C dX7_parse_82 rfl ?_
              refine z_getI (pc := 83) C zf_X7_36 rfl rfl (by decide) dX7_parse_83 ?_
              refine w_gp (fun v => v = g19 18 0 7) rfl (fun v24 q24 => ?_)
              have e24 : v24.toInt = (g19 18 0 7).toInt := by rw [q24]
              have b24x : zB v24 0 120 := by first | exact zB.eqv e24 c23x | (have q9 := c23x; constructor <;> omega)
              refine z_isub (pc := 86) C dX7_parse_86 ?_
              refine w_gp (fun v => v = ((-20) : Int32) - v24) rfl (fun v25 q25 => ?_)
              have e25 : v25.toInt = (-20) - v24.toInt := by rw [q25]; exact (zsub_eb (zB.of (x := (-20)) (-20) (by decide)) b24x (by decide) (by decide))
              have b25x : zB v25 (-140) (-20) := by have q1 := (zB.of (x := (-20)) (-20) (by decide)); have q2 := b24x; constructor <;> omega
              exact z_iret (pc := 87) C hr dX7_parse_87 ⟨⟨_, rfl, (zB.wk (a' := (-140)) (b' := 12) b25x (by decide) (by decide))⟩, hI19, hF19, (by
                                                                                          intro v hv; cases hv
                                                                                          refine Or.inl ⟨u3, ?_, hb3, by omega⟩
                                                                                          rw [hW, zwd_bad hc3]; rfl), (by intro v hv; cases hv; intro x j hx hj; exact (hF19q 7 x j rfl).trans ((hF8q 7 x j rfl).trans (hL7 x j hx hj))), (by intro v hv; cases hv; intro x j hx hj; exact (hF19q 11 x j rfl).trans ((hF8q 11 x j rfl).trans (hL11 x j hx hj)))⟩
            · skip
              have b26x : zB v20 (-1) (-1) := by have q1 := b20x; have q2 := (zB.of (x := (-1)) (-1) (by decide)); simp only [z32lt, z32le, z32eq, Int32.reduceToInt, Int32.toInt_zero] at h73_20; constructor <;> omega
              have c27x : zB (g19 18 0 7) (-1) (-1) := by first | assumption | (constructor <;> omega)
              refine z_iload_n (pc := 76) C dX7_parse_76 rfl ?_
              refine z_goto (pc := 77) 87 C dX7_parse_77 (by decide) ?_
              exact z_iret (pc := 87) C hr dX7_parse_87 ⟨⟨_, rfl, (zB.wk (a' := (-140)) (b' := 12) b7x (by decide) (by decide))⟩, hI19, hF19, (by
                                                                                          intro v hv; cases hv
                                                                                          refine Or.inl ⟨u3, ?_, hb3, by omega⟩
                                                                                          rw [hW, zwd_bad hc3]; rfl), (by intro v hv; cases hv; intro x j hx hj; exact (hF19q 7 x j rfl).trans ((hF8q 7 x j rfl).trans (hL7 x j hx hj))), (by intro v hv; cases hv; intro x j hx hj; exact (hF19q 11 x j rfl).trans ((hF8q 11 x j rfl).trans (hL11 x j hx hj)))⟩
        · skip
          have b28x : zB v5 1 11 := by have q1 := b5x; have q2 := (zB.of (x := 12) 12 (by decide)); simp only [z32lt, z32le, z32eq, Int32.reduceToInt, Int32.toInt_zero] at h32_5; constructor <;> omega
          refine z_aload_n (pc := 35) C dX7_parse_35 rfl ?_
          refine z_getI (pc := 36) C zf_X7_36 rfl rfl (by decide) dX7_parse_36 ?_
          refine w_gp (fun v => v = g3 18 0 7) rfl (fun v29 q29 => ?_)
          have e29 : v29.toInt = (g3 18 0 7).toInt := by rw [q29]
          have b29x : zB v29 0 120 := by first | exact zB.eqv e29 c4x | (have q9 := c4x; constructor <;> omega)
          refine z_iconst (pc := 39) (v := -1) C dX7_parse_39 (by decide) ?_
          refine z_icmp_ne (pc := 40) 52 C dX7_parse_40 (by decide) (fun h40_29 => ?_) (fun h40_29 => absurd h40_29 (by have q1 := b29x; have q2 := (zB.of (x := (-1)) (-1) (by decide)); first | (simp only [z32lt, z32le, z32eq]; omega) | (simp only [z32lt, z32le, z32eq] at *; omega)))
          refine z_aload_n (pc := 52) C dX7_parse_52 rfl ?_
          refine z_callV (pc := 53) C zk_X7_52 (w_X7_next _ _  hI3) rfl rfl (by decide) rfl rfl (Nat.le_of_ble_eq_true rfl) dX7_parse_53 (fun r31 g31 q31 => ?_)
          obtain ⟨⟨v31, rfl, b31x⟩, hI31, hF31q, hp31_0, hp31_1, hp31_2, hp31_3⟩ := q31
          have hp31_0 := hp31_0 _ rfl
          have hp31_1 := hp31_1 _ rfl
          have hp31_2 := hp31_2 _ rfl
          have hp31_3 := hp31_3 _ rfl
          have hF31 := zFr.tr hF3 hF31q (by decide)
          simp only [Option.toList, List.cons_append, List.nil_append]
          have ek31_18_0_7 : (g31 18 0 7).toInt = (g3 18 0 7).toInt := by rw [hF31q 18 0 7 rfl]
          have c31_18_0_7x : zB (g31 18 0 7) 0 120 := by rw [hF31q 18 0 7 rfl]; exact c4x
          have ek31_18_0_4 : (g31 18 0 4).toInt = (g3 18 0 4).toInt := by rw [hF31q 18 0 4 rfl]
          have c31_18_0_4x : zB (g31 18 0 4) 0 12 := by rw [hF31q 18 0 4 rfl]; exact cr3_18_0_4
          have ek31_18_0_5 : (g31 18 0 5).toInt = (g3 18 0 5).toInt := by rw [hF31q 18 0 5 rfl]
          have c31_18_0_5x : zB (g31 18 0 5) 0 12 := by rw [hF31q 18 0 5 rfl]; exact cr3_18_0_5
          have cr31_18_0_6 : zB (g31 18 0 6) 0 120 := hI31 18 0 6
          have c32x : zB (g31 18 0 7) 0 120 := by first | assumption | (constructor <;> omega)
          refine z_iconst (pc := 56) (v := -1) C dX7_parse_56 (by decide) ?_
          refine z_icmp_eq (pc := 57) 68 C dX7_parse_57 (by decide) (fun h57_32 => ?_) (fun h57_32 => ?_)
          · skip
            have b34x : zB v31 (-1) (-1) := by have q1 := b31x; have q2 := (zB.of (x := (-1)) (-1) (by decide)); simp only [z32lt, z32le, z32eq, Int32.reduceToInt, Int32.toInt_zero] at h57_32; constructor <;> omega
            refine z_aload_n (pc := 68) C dX7_parse_68 rfl ?_
            refine z_getI (pc := 69) C zf_X7_36 rfl rfl (by decide) dX7_parse_69 ?_
            refine w_gp (fun v => v = g31 18 0 7) rfl (fun v35 q35 => ?_)
            have e35 : v35.toInt = (g31 18 0 7).toInt := by rw [q35]
            have b35x : zB v35 0 120 := by first | exact zB.eqv e35 c32x | (have q9 := c32x; constructor <;> omega)
            refine z_iconst (pc := 72) (v := -1) C dX7_parse_72 (by decide) ?_
            refine z_icmp_ne (pc := 73) 80 C dX7_parse_73 (by decide) (fun h73_35 => ?_) (fun h73_35 => absurd h73_35 (by have q1 := b35x; have q2 := (zB.of (x := (-1)) (-1) (by decide)); first | (simp only [z32lt, z32le, z32eq]; omega) | (simp only [z32lt, z32le, z32eq] at *; omega)))
            refine z_bipush (pc := 80) (v := -20) C dX7_parse_80 (by decide) ?_
            refine z_aload_n (pc := 82) C dX7_parse_82 rfl ?_
            refine z_getI (pc := 83) C zf_X7_36 rfl rfl (by decide) dX7_parse_83 ?_
            refine w_gp (fun v => v = g31 18 0 7) rfl (fun v37 q37 => ?_)
            have e37 : v37.toInt = (g31 18 0 7).toInt := by rw [q37]
            have b37x : zB v37 0 120 := by first | exact zB.eqv e37 c32x | (have q9 := c32x; constructor <;> omega)
            refine z_isub (pc := 86) C dX7_parse_86 ?_
            refine w_gp (fun v => v = ((-20) : Int32) - v37) rfl (fun v38 q38 => ?_)
            have e38 : v38.toInt = (-20) - v37.toInt := by rw [q38]; exact (zsub_eb (zB.of (x := (-20)) (-20) (by decide)) b37x (by decide) (by decide))
            have b38x : zB v38 (-140) (-20) := by have q1 := (zB.of (x := (-20)) (-20) (by decide)); have q2 := b37x; constructor <;> omega
            exact z_iret (pc := 87) C hr dX7_parse_87 ⟨⟨_, rfl, (zB.wk (a' := (-140)) (b' := 12) b38x (by decide) (by decide))⟩, hI31, hF31, (by
                                                                                          intro v hv; cases hv
                                                                                          refine Or.inl ⟨u3, ?_, hb3, by omega⟩
                                                                                          rw [hW, zwd_bad hc3]; rfl), (by intro v hv; cases hv; intro x j hx hj; exact (hF31q 7 x j rfl).trans (hL7 x j hx hj)), (by intro v hv; cases hv; intro x j hx hj; exact (hF31q 11 x j rfl).trans (hL11 x j hx hj))⟩
          · skip
            have b39x : zB v31 0 255 := by have q1 := b31x; have q2 := (zB.of (x := (-1)) (-1) (by decide)); simp only [z32lt, z32le, z32eq, Int32.reduceToInt, Int32.toInt_zero] at h57_32; constructor <;> omega
            have c40x : zB (g31 18 0 6) 0 119 := by first | assumption | (constructor <;> omega)
            refine z_aload_n (pc := 60) C dX7_parse_60 rfl ?_
            refine z_aload_n (pc := 61) C dX7_parse_61 rfl ?_
            refine z_getI (pc := 62) C zf_X7_33 rfl rfl (by decide) dX7_parse_62 ?_
            refine w_gp (fun v => v = g31 18 0 6) rfl (fun v41 q41 => ?_)
            have e41 : v41.toInt = (g31 18 0 6).toInt := by rw [q41]
            have b41x : zB v41 0 119 := by first | exact zB.eqv e41 c40x | (have q9 := c40x; constructor <;> omega)
            refine z_callV (pc := 65) C zk_X7_56 (x_X7_fail _ _ v41 (zB.wk (a' := 0) (b' := 120) b41x (by decide) (by decide)) hI31) rfl rfl (by decide) rfl rfl (Nat.le_of_ble_eq_true rfl) dX7_parse_65 (fun r42 g42 q42 => ?_)
            obtain ⟨rfl, hI42, hF42q, hp42_0, hp42_1, hp42_2⟩ := q42
            have hF42 := zFr.tr hF31 hF42q (by decide)
            simp only [Option.toList, List.cons_append, List.nil_append]
            have cr42_18_0_7 : zB (g42 18 0 7) (-1) 120 := hI42 18 0 7
            have ek42_18_0_4 : (g42 18 0 4).toInt = (g31 18 0 4).toInt := by rw [hF42q 18 0 4 rfl]
            have c42_18_0_4x : zB (g42 18 0 4) 0 12 := by rw [hF42q 18 0 4 rfl]; exact c31_18_0_4x
            have ek42_18_0_5 : (g42 18 0 5).toInt = (g31 18 0 5).toInt := by rw [hF42q 18 0 5 rfl]
            have c42_18_0_5x : zB (g42 18 0 5) 0 12 := by rw [hF42q 18 0 5 rfl]; exact c31_18_0_5x
            have ek42_18_0_6 : (g42 18 0 6).toInt = (g31 18 0 6).toInt := by rw [hF42q 18 0 6 rfl]
            have c42_18_0_6x : zB (g42 18 0 6) 0 119 := by rw [hF42q 18 0 6 rfl]; exact c40x
            refine z_aload_n (pc := 68) C dX7_parse_68 rfl ?_
            refine z_getI (pc := 69) C zf_X7_36 rfl rfl (by decide) dX7_parse_69 ?_
            refine w_gp (fun v => v = g42 18 0 7) rfl (fun v43 q43 => ?_)
            have e43 : v43.toInt = (g42 18 0 7).toInt := by rw [q43]
            have b43x : zB v43 (-1) 120 := by first | exact zB.eqv e43 cr42_18_0_7 | (have q9 := cr42_18_0_7; constructor <;> omega)
            refine z_iconst (pc := 72) (v := -1) C dX7_parse_72 (by decide) ?_
            refine z_icmp_ne (pc := 73) 80 C dX7_parse_73 (by decide) (fun h73_43 => ?_) (fun h73_43 => ?_)
            · skip
              have b45x : zB v43 0 120 := by have q1 := b43x; have q2 := (zB.of (x := (-1)) (-1) (by decide)); simp only [z32lt, z32le, z32eq, Int32.reduceToInt, Int32.toInt_zero] at h73_43; constructor <;> omega
              have c46x : zB (g42 18 0 7) 0 120 := by first | assumption | (constructor <;> omega)
              refine z_bipush (pc := 80) (v := -20) C dX7_parse_80 (by decide) ?_
              refine z_aload_n (pc := 82) C dX7_parse_82 rfl ?_
              refine z_getI (pc := 83) C zf_X7_36 rfl rfl (by decide) dX7_parse_83 ?_
              refine w_gp (fun v => v = g42 18 0 7) rfl (fun v47 q47 => ?_)
              have e47 : v47.toInt = (g42 18 0 7).toInt := by rw [q47]
              have b47x : zB v47 0 120 := by first | exact zB.eqv e47 c46x | (have q9 := c46x; constructor <;> omega)
              refine z_isub (pc := 86) C dX7_parse_86 ?_
              refine w_gp (fun v => v = ((-20) : Int32) - v47) rfl (fun v48 q48 => ?_)
              have e48 : v48.toInt = (-20) - v47.toInt := by rw [q48]; exact (zsub_eb (zB.of (x := (-20)) (-20) (by decide)) b47x (by decide) (by decide))
              have b48x : zB v48 (-140) (-20) := by have q1 := (zB.of (x := (-20)) (-20) (by decide)); have q2 := b47x; constructor <;> omega
              exact z_iret (pc := 87) C hr dX7_parse_87 ⟨⟨_, rfl, (zB.wk (a' := (-140)) (b' := 12) b48x (by decide) (by decide))⟩, hI42, hF42, (by
                                                                                          intro v hv; cases hv
                                                                                          refine Or.inl ⟨u3, ?_, hb3, by omega⟩
                                                                                          rw [hW, zwd_bad hc3]; rfl), (by intro v hv; cases hv; intro x j hx hj; exact (hF42q 7 x j rfl).trans ((hF31q 7 x j rfl).trans (hL7 x j hx hj))), (by intro v hv; cases hv; intro x j hx hj; exact (hF42q 11 x j rfl).trans ((hF31q 11 x j rfl).trans (hL11 x j hx hj)))⟩
            · skip
              have b49x : zB v43 (-1) (-1) := by have q1 := b43x; have q2 := (zB.of (x := (-1)) (-1) (by decide)); simp only [z32lt, z32le, z32eq, Int32.reduceToInt, Int32.toInt_zero] at h73_43; constructor <;> omega
              have c50x : zB (g42 18 0 7) (-1) (-1) := by first | assumption | (constructor <;> omega)
              refine z_iload_n (pc := 76) C dX7_parse_76 rfl ?_
              refine z_goto (pc := 77) 87 C dX7_parse_77 (by decide) ?_
              exact z_iret (pc := 87) C hr dX7_parse_87 ⟨⟨_, rfl, (zB.wk (a' := (-140)) (b' := 12) b28x (by decide) (by decide))⟩, hI42, hF42, (by
                                                                                          intro v hv; cases hv
                                                                                          refine Or.inl ⟨u3, ?_, hb3, by omega⟩
                                                                                          rw [hW, zwd_bad hc3]; rfl), (by intro v hv; cases hv; intro x j hx hj; exact (hF42q 7 x j rfl).trans ((hF31q 7 x j rfl).trans (hL7 x j hx hj))), (by intro v hv; cases hv; intro x j hx hj; exact (hF42q 11 x j rfl).trans ((hF31q 11 x j rfl).trans (hL11 x j hx hj)))⟩
      · skip
        have h183 : g3 18 0 3 = nI n := (hF3q 18 0 3 rfl).trans hR22_0
        have hTp3 : ∀ i, i < n → g3 19 0 i = T i := fun i hi => (hF3q 19 0 i rfl).trans (hR22_1 i hi)
        have hL7 : ∀ x j, x < 48 → j < 6 → g3 7 x j = f 7 x j := fun x j hx hj => (n33 x j hj (by omega)).trans (hR22_5 x j hx hj)
        have hL11 : ∀ x j, x < 24 → j < 8 → g3 11 x j = f 11 x j := fun x j hx hj => (n53 x j hj).trans (hR22_6 x j hx hj)
        have fti3 : (g3 18 0 7).toInt = -1 := by rw [ft3]; decide
        have c51x : zB (g3 18 0 7) (-1) (-1) := by first | assumption | (constructor <;> omega)
        have hS2 := zSx_c hS (by omega) n13 n23 n33 n43 n53
        refine z_iinc (pc := 26) (v := 1) C dX7_parse_26 rfl (by decide) (by rw [hn]; decide) rfl ?_
        obtain ⟨v52, hv52, e52⟩ : ∃ v : Int32, v = a22_1 + 1 ∧ v.toInt = a22_1.toInt + 1 := ⟨_, rfl, zadd_eb b22_1 (zB.of (x := 1) 1 (by decide)) (by decide) (by decide)⟩
        rw [← hv52]
        have b52x : zB v52 1 12 := by have q9 := b22_1; constructor <;> omega
        refine z_iload_n (pc := 29) C dX7_parse_29 rfl ?_
        refine z_bipush (pc := 30) (v := 12) C dX7_parse_30 (by decide) ?_
        refine z_icmp_ge (pc := 32) 52 C dX7_parse_32 (by decide) (fun h32_52 => ?_) (fun h32_52 => ?_)
        · skip
          have b54x : zB v52 12 12 := by have q1 := b52x; have q2 := (zB.of (x := 12) 12 (by decide)); simp only [z32lt, z32le, z32eq, Int32.reduceToInt, Int32.toInt_zero] at h32_52; constructor <;> omega
          refine z_aload_n (pc := 52) C dX7_parse_52 rfl ?_
          refine z_callV (pc := 53) C zk_X7_52 (e_X7_next _ _ T n (u3) hN h183 hTp3 hq3 hb3 hI3) rfl rfl (by decide) rfl rfl (Nat.le_of_ble_eq_true rfl) dX7_parse_53 (fun r55 g55 q55 => ?_)
          obtain ⟨⟨v55, rfl, b55x⟩, hI55, hF55q, hp55⟩ := q55
          have hp55 := hp55 _ rfl
          have hF55 := zFr.tr hF3 hF55q (by decide)
          simp only [Option.toList, List.cons_append, List.nil_append]
          have ek55_18_0_7 : (g55 18 0 7).toInt = (g3 18 0 7).toInt := by rw [hF55q 18 0 7 rfl]
          have c55_18_0_7x : zB (g55 18 0 7) (-1) (-1) := by rw [hF55q 18 0 7 rfl]; exact c51x
          have ek55_18_0_4 : (g55 18 0 4).toInt = (g3 18 0 4).toInt := by rw [hF55q 18 0 4 rfl]
          have c55_18_0_4x : zB (g55 18 0 4) 0 12 := by rw [hF55q 18 0 4 rfl]; exact cr3_18_0_4
          have ek55_18_0_5 : (g55 18 0 5).toInt = (g3 18 0 5).toInt := by rw [hF55q 18 0 5 rfl]
          have c55_18_0_5x : zB (g55 18 0 5) 0 12 := by rw [hF55q 18 0 5 rfl]; exact cr3_18_0_5
          have cr55_18_0_6 : zB (g55 18 0 6) 0 120 := hI55 18 0 6
          obtain ⟨hv55, hq55, hj55⟩ := hp55
          have h1855 : g55 18 0 3 = nI n := (hF55q 18 0 3 rfl).trans h183
          have hTp55 : ∀ i, i < n → g55 19 0 i = T i := fun i hi => (hF55q 19 0 i rfl).trans (hTp3 i hi)
          have ft55 : g55 18 0 7 = -1 := (hF55q 18 0 7 rfl).trans ft3
          have hb55 : zsp T n (u3) ≤ n := zsp_len hb3
          refine z_iconst (pc := 56) (v := -1) C dX7_parse_56 (by decide) ?_
          refine z_icmp_eq (pc := 57) 68 C dX7_parse_57 (by decide) (fun h57_55 => ?_) (fun h57_55 => ?_)
          · skip
            have b57x : zB v55 (-1) (-1) := by have q1 := b55x; have q2 := (zB.of (x := (-1)) (-1) (by decide)); simp only [z32lt, z32le, z32eq, Int32.reduceToInt, Int32.toInt_zero] at h57_55; constructor <;> omega
            refine z_aload_n (pc := 68) C dX7_parse_68 rfl ?_
            refine z_getI (pc := 69) C zf_X7_36 rfl rfl (by decide) dX7_parse_69 ?_
            refine w_gp (fun v => v = g55 18 0 7) rfl (fun v58 q58 => ?_)
            have e58 : v58.toInt = (g55 18 0 7).toInt := by rw [q58]
            have b58x : zB v58 (-1) (-1) := by first | exact zB.eqv e58 c55_18_0_7x | (have q9 := c55_18_0_7x; constructor <;> omega)
            refine z_iconst (pc := 72) (v := -1) C dX7_parse_72 (by decide) ?_
            refine z_icmp_ne (pc := 73) 80 C dX7_parse_73 (by decide) (fun h73_58 => absurd h73_58 (by have q1 := b58x; have q2 := (zB.of (x := (-1)) (-1) (by decide)); first | (simp only [z32lt, z32le, z32eq]; omega) | (simp only [z32lt, z32le, z32eq] at *; omega))) (fun h73_58 => ?_)
            refine z_iload_n (pc := 76) C dX7_parse_76 rfl ?_
            refine z_goto (pc := 77) 87 C dX7_parse_77 (by decide) ?_
            exact z_iret (pc := 87) C hr dX7_parse_87 ⟨⟨_, rfl, (zB.wk (a' := (-140)) (b' := 12) b54x (by decide) (by decide))⟩, hI55, hF55, (by
                                                                                          intro v hv; cases hv
                                                                                          have hne := (show v55 = -1 by assumption)
                                                                                          rw [hv55] at hne
                                                                                          refine Or.inr ⟨(cs ++ [c3w]), ps, ?_, ?_, ?_, ?_⟩
                                                                                          · rw [hW, zwd_end hc3 hne]; simp [zwj]
                                                                                          · rw [List.length_append, List.length_singleton]; omega
                                                                                          · rw [List.length_append, List.length_singleton]; omega
                                                                                          · exact zSx_k hS2 (hF55q 18 0 4 rfl) (hF55q 18 0 5 rfl) (fun x j _ => hF55q 7 x j rfl) (fun x j _ => hF55q 11 x j rfl)), (by intro v hv; cases hv; intro x j hx hj; exact (hF55q 7 x j rfl).trans (hL7 x j hx hj)), (by intro v hv; cases hv; intro x j hx hj; exact (hF55q 11 x j rfl).trans (hL11 x j hx hj))⟩
          · skip
            have b60x : zB v55 0 255 := by have q1 := b55x; have q2 := (zB.of (x := (-1)) (-1) (by decide)); simp only [z32lt, z32le, z32eq, Int32.reduceToInt, Int32.toInt_zero] at h57_55; constructor <;> omega
            have c61x : zB (g55 18 0 6) 0 119 := by first | assumption | (constructor <;> omega)
            refine z_aload_n (pc := 60) C dX7_parse_60 rfl ?_
            refine z_aload_n (pc := 61) C dX7_parse_61 rfl ?_
            refine z_getI (pc := 62) C zf_X7_33 rfl rfl (by decide) dX7_parse_62 ?_
            refine w_gp (fun v => v = g55 18 0 6) rfl (fun v62 q62 => ?_)
            have e62 : v62.toInt = (g55 18 0 6).toInt := by rw [q62]
            have b62x : zB v62 0 119 := by first | exact zB.eqv e62 c61x | (have q9 := c61x; constructor <;> omega)
            refine z_callV (pc := 65) C zk_X7_56 (x_X7_fail _ _ v62 (zB.wk (a' := 0) (b' := 120) b62x (by decide) (by decide)) hI55) rfl rfl (by decide) rfl rfl (Nat.le_of_ble_eq_true rfl) dX7_parse_65 (fun r63 g63 q63 => ?_)
            obtain ⟨rfl, hI63, hF63q, hp63_0, hp63_1, hp63_2⟩ := q63
            have hF63 := zFr.tr hF55 hF63q (by decide)
            simp only [Option.toList, List.cons_append, List.nil_append]
            have cr63_18_0_7 : zB (g63 18 0 7) (-1) 120 := hI63 18 0 7
            have ek63_18_0_4 : (g63 18 0 4).toInt = (g55 18 0 4).toInt := by rw [hF63q 18 0 4 rfl]
            have c63_18_0_4x : zB (g63 18 0 4) 0 12 := by rw [hF63q 18 0 4 rfl]; exact c55_18_0_4x
            have ek63_18_0_5 : (g63 18 0 5).toInt = (g55 18 0 5).toInt := by rw [hF63q 18 0 5 rfl]
            have c63_18_0_5x : zB (g63 18 0 5) 0 12 := by rw [hF63q 18 0 5 rfl]; exact c55_18_0_5x
            have ek63_18_0_6 : (g63 18 0 6).toInt = (g55 18 0 6).toInt := by rw [hF63q 18 0 6 rfl]
            have c63_18_0_6x : zB (g63 18 0 6) 0 119 := by rw [hF63q 18 0 6 rfl]; exact c61x
            have c64x : zB (g63 18 0 7) 0 120 := by first | assumption | (constructor <;> omega)
            refine z_aload_n (pc := 68) C dX7_parse_68 rfl ?_
            refine z_getI (pc := 69) C zf_X7_36 rfl rfl (by decide) dX7_parse_69 ?_
            refine w_gp (fun v => v = g63 18 0 7) rfl (fun v65 q65 => ?_)
            have e65 : v65.toInt = (g63 18 0 7).toInt := by rw [q65]
            have b65x : zB v65 0 120 := by first | exact zB.eqv e65 c64x | (have q9 := c64x; constructor <;> omega)
            refine z_iconst (pc := 72) (v := -1) C dX7_parse_72 (by decide) ?_
            refine z_icmp_ne (pc := 73) 80 C dX7_parse_73 (by decide) (fun h73_65 => ?_) (fun h73_65 => absurd h73_65 (by have q1 := b65x; have q2 := (zB.of (x := (-1)) (-1) (by decide)); first | (simp only [z32lt, z32le, z32eq]; omega) | (simp only [z32lt, z32le, z32eq] at *; omega)))
            refine z_bipush (pc := 80) (v := -20) C dX7_parse_80 (by decide) ?_
            refine z_aload_n (pc := 82) C dX7_parse_82 rfl ?_
            refine z_getI (pc := 83) C zf_X7_36 rfl rfl (by decide) dX7_parse_83 ?_
            refine w_gp (fun v => v = g63 18 0 7) rfl (fun v67 q67 => ?_)
            have e67 : v67.toInt = (g63 18 0 7).toInt := by rw [q67]
            have b67x : zB v67 0 120 := by first | exact zB.eqv e67 c64x | (have q9 := c64x; constructor <;> omega)
            refine z_isub (pc := 86) C dX7_parse_86 ?_
            refine w_gp (fun v => v = ((-20) : Int32) - v67) rfl (fun v68 q68 => ?_)
            have e68 : v68.toInt = (-20) - v67.toInt := by rw [q68]; exact (zsub_eb (zB.of (x := (-20)) (-20) (by decide)) b67x (by decide) (by decide))
            have b68x : zB v68 (-140) (-20) := by have q1 := (zB.of (x := (-20)) (-20) (by decide)); have q2 := b67x; constructor <;> omega
            exact z_iret (pc := 87) C hr dX7_parse_87 ⟨⟨_, rfl, (zB.wk (a' := (-140)) (b' := 12) b68x (by decide) (by decide))⟩, hI63, hF63, (by
                                                                                          intro v hv; cases hv
                                                                                          have hne := (show ¬ v55 = -1 by assumption)
                                                                                          rw [hv55] at hne
                                                                                          have hpl := hq55
                                                                                          have hf := hp63_2 (by rw [ft55]; decide)
                                                                                          rw [q62, hpl] at hf
                                                                                          have hfi : (g63 18 0 7).toInt = ((zsp T n (u3) : Nat) : Int) := by rw [hf]; exact nI_toInt (by have := zsp_len (T := T) hb3; omega)
                                                                                          refine Or.inl ⟨zsp T n (u3), ?_, zsp_len hb3, by omega⟩
                                                                                          rw [hW, zwd_stop hc3 hne (fun _ => by omega)]; rfl), (by intro v hv; cases hv; intro x j hx hj; exact (hF63q 7 x j rfl).trans ((hF55q 7 x j rfl).trans (hL7 x j hx hj))), (by intro v hv; cases hv; intro x j hx hj; exact (hF63q 11 x j rfl).trans ((hF55q 11 x j rfl).trans (hL11 x j hx hj)))⟩
        · skip
          have b69x : zB v52 1 11 := by have q1 := b52x; have q2 := (zB.of (x := 12) 12 (by decide)); simp only [z32lt, z32le, z32eq, Int32.reduceToInt, Int32.toInt_zero] at h32_52; constructor <;> omega
          refine z_aload_n (pc := 35) C dX7_parse_35 rfl ?_
          refine z_getI (pc := 36) C zf_X7_36 rfl rfl (by decide) dX7_parse_36 ?_
          refine w_gp (fun v => v = g3 18 0 7) rfl (fun v70 q70 => ?_)
          have e70 : v70.toInt = (g3 18 0 7).toInt := by rw [q70]
          have b70x : zB v70 (-1) (-1) := by first | exact zB.eqv e70 c51x | (have q9 := c51x; constructor <;> omega)
          refine z_iconst (pc := 39) (v := -1) C dX7_parse_39 (by decide) ?_
          refine z_icmp_ne (pc := 40) 52 C dX7_parse_40 (by decide) (fun h40_70 => absurd h40_70 (by have q1 := b70x; have q2 := (zB.of (x := (-1)) (-1) (by decide)); first | (simp only [z32lt, z32le, z32eq]; omega) | (simp only [z32lt, z32le, z32eq] at *; omega))) (fun h40_70 => ?_)
          refine z_aload_n (pc := 43) C dX7_parse_43 rfl ?_
          refine z_bipush (pc := 44) (v := 59) C dX7_parse_44 (by decide) ?_
          refine z_callV (pc := 46) C zk_X7_48 (e_X7_takes _ _ 59 (zB.wk (a' := 1) (b' := 126) (zB.of (x := 59) 59 (by decide)) (by decide) (by decide)) T n (u3) hN h183 hTp3 hq3 hb3 hI3) rfl rfl (by decide) rfl rfl (Nat.le_of_ble_eq_true rfl) dX7_parse_46 (fun r72 g72 q72 => ?_)
          obtain ⟨⟨v72, rfl, b72x⟩, hI72, hF72q, hp72⟩ := q72
          have hp72 := hp72 _ rfl
          have hF72 := zFr.tr hF3 hF72q (by decide)
          simp only [Option.toList, List.cons_append, List.nil_append]
          have ek72_18_0_7 : (g72 18 0 7).toInt = (g3 18 0 7).toInt := by rw [hF72q 18 0 7 rfl]
          have c72_18_0_7x : zB (g72 18 0 7) (-1) (-1) := by rw [hF72q 18 0 7 rfl]; exact c51x
          have ek72_18_0_4 : (g72 18 0 4).toInt = (g3 18 0 4).toInt := by rw [hF72q 18 0 4 rfl]
          have c72_18_0_4x : zB (g72 18 0 4) 0 12 := by rw [hF72q 18 0 4 rfl]; exact cr3_18_0_4
          have ek72_18_0_5 : (g72 18 0 5).toInt = (g3 18 0 5).toInt := by rw [hF72q 18 0 5 rfl]
          have c72_18_0_5x : zB (g72 18 0 5) 0 12 := by rw [hF72q 18 0 5 rfl]; exact cr3_18_0_5
          have cr72_18_0_6 : zB (g72 18 0 6) 0 120 := hI72 18 0 6
          have h1872 : g72 18 0 3 = nI n := (hF72q 18 0 3 rfl).trans h183
          have hTp72 : ∀ i, i < n → g72 19 0 i = T i := fun i hi => (hF72q 19 0 i rfl).trans (hTp3 i hi)
          have ft72 : g72 18 0 7 = -1 := (hF72q 18 0 7 rfl).trans ft3
          rcases hp72 with ⟨hc72, rfl, hq72, hb72⟩ | ⟨hc72, rfl, hq72⟩
          · skip
            refine z_if_ne (pc := 49) 22 C dX7_parse_49 (by decide) (fun _ => ?_) (fun h => absurd h (by decide))
            exact ih0 v52 (zB.wk (a' := 0) (b' := 11) b69x (by decide) (by decide)) g72 hI72 hF72 c72_18_0_4x c72_18_0_5x cr72_18_0_6 c72_18_0_7x (by exact h1872) (by exact hTp72) (by exact ft72) (by rw [hq72, nI_tt (by have := hb72; omega)]; exact hb72) (by
                                                                                          have eP : (g72 18 0 6).toInt.toNat = zsp T n (u3) + 1 := by rw [hq72, nI_tt (by have := hb72; omega)]
                                                                                          refine ⟨(cs ++ [c3w]), ps, zSx_k hS2 (hF72q 18 0 4 rfl) (hF72q 18 0 5 rfl) (fun x j _ => hF72q 7 x j rfl) (fun x j _ => hF72q 11 x j rfl), ?_, ?_⟩
                                                                                          · rw [List.length_append, List.length_singleton]; omega
                                                                                          · rw [hW, zwd_more hc3 hc72 (by omega), eP, show 12 - (v52).toInt.toNat = 11 - a22_1.toInt.toNat by omega]
                                                                                            rfl) (by intro x j hx hj; exact (hF72q 7 x j rfl).trans (hL7 x j hx hj)) (by intro x j hx hj; exact (hF72q 11 x j rfl).trans (hL11 x j hx hj)) (by omega)
          · skip
            have hb72 : zsp T n (u3) ≤ n := zsp_len hb3
            refine z_if_ne (pc := 49) 22 C dX7_parse_49 (by decide) (fun h => absurd (by decide) h) (fun _ => ?_)
            refine z_aload_n (pc := 52) C dX7_parse_52 rfl ?_
            refine z_callV (pc := 53) C zk_X7_52 (e_X7_next _ _ T n (zsp T n (u3)) hN h1872 hTp72 hq72 hb72 hI72) rfl rfl (by decide) rfl rfl (Nat.le_of_ble_eq_true rfl) dX7_parse_53 (fun r73 g73 q73 => ?_)
            obtain ⟨⟨v73, rfl, b73x⟩, hI73, hF73q, hp73⟩ := q73
            have hp73 := hp73 _ rfl
            have hF73 := zFr.tr hF72 hF73q (by decide)
            simp only [Option.toList, List.cons_append, List.nil_append]
            have ek73_18_0_7 : (g73 18 0 7).toInt = (g72 18 0 7).toInt := by rw [hF73q 18 0 7 rfl]
            have c73_18_0_7x : zB (g73 18 0 7) (-1) (-1) := by rw [hF73q 18 0 7 rfl]; exact c72_18_0_7x
            have ek73_18_0_4 : (g73 18 0 4).toInt = (g72 18 0 4).toInt := by rw [hF73q 18 0 4 rfl]
            have c73_18_0_4x : zB (g73 18 0 4) 0 12 := by rw [hF73q 18 0 4 rfl]; exact c72_18_0_4x
            have ek73_18_0_5 : (g73 18 0 5).toInt = (g72 18 0 5).toInt := by rw [hF73q 18 0 5 rfl]
            have c73_18_0_5x : zB (g73 18 0 5) 0 12 := by rw [hF73q 18 0 5 rfl]; exact c72_18_0_5x
            have cr73_18_0_6 : zB (g73 18 0 6) 0 120 := hI73 18 0 6
            obtain ⟨hv73, hq73, hj73⟩ := hp73
            have h1873 : g73 18 0 3 = nI n := (hF73q 18 0 3 rfl).trans h1872
            have hTp73 : ∀ i, i < n → g73 19 0 i = T i := fun i hi => (hF73q 19 0 i rfl).trans (hTp72 i hi)
            have ft73 : g73 18 0 7 = -1 := (hF73q 18 0 7 rfl).trans ft72
            have hb73 : zsp T n (zsp T n (u3)) ≤ n := zsp_len hb72
            refine z_iconst (pc := 56) (v := -1) C dX7_parse_56 (by decide) ?_
            refine z_icmp_eq (pc := 57) 68 C dX7_parse_57 (by decide) (fun h57_73 => ?_) (fun h57_73 => ?_)
            · skip
              have b75x : zB v73 (-1) (-1) := by have q1 := b73x; have q2 := (zB.of (x := (-1)) (-1) (by decide)); simp only [z32lt, z32le, z32eq, Int32.reduceToInt, Int32.toInt_zero] at h57_73; constructor <;> omega
              refine z_aload_n (pc := 68) C dX7_parse_68 rfl ?_
              refine z_getI (pc := 69) C zf_X7_36 rfl rfl (by decide) dX7_parse_69 ?_
              refine w_gp (fun v => v = g73 18 0 7) rfl (fun v76 q76 => ?_)
              have e76 : v76.toInt = (g73 18 0 7).toInt := by rw [q76]
              have b76x : zB v76 (-1) (-1) := by first | exact zB.eqv e76 c73_18_0_7x | (have q9 := c73_18_0_7x; constructor <;> omega)
              refine z_iconst (pc := 72) (v := -1) C dX7_parse_72 (by decide) ?_
              refine z_icmp_ne (pc := 73) 80 C dX7_parse_73 (by decide) (fun h73_76 => absurd h73_76 (by have q1 := b76x; have q2 := (zB.of (x := (-1)) (-1) (by decide)); first | (simp only [z32lt, z32le, z32eq]; omega) | (simp only [z32lt, z32le, z32eq] at *; omega))) (fun h73_76 => ?_)
              refine z_iload_n (pc := 76) C dX7_parse_76 rfl ?_
              refine z_goto (pc := 77) 87 C dX7_parse_77 (by decide) ?_
              exact z_iret (pc := 87) C hr dX7_parse_87 ⟨⟨_, rfl, (zB.wk (a' := (-140)) (b' := 12) b69x (by decide) (by decide))⟩, hI73, hF73, (by
                                                                                          intro v hv; cases hv
                                                                                          have hne := (show v73 = -1 by assumption)
                                                                                          rw [hv73] at hne
                                                                                          rw [zsp_idem] at hne
                                                                                          refine Or.inr ⟨(cs ++ [c3w]), ps, ?_, ?_, ?_, ?_⟩
                                                                                          · rw [hW, zwd_end hc3 hne]; simp [zwj]
                                                                                          · rw [List.length_append, List.length_singleton]; omega
                                                                                          · rw [List.length_append, List.length_singleton]; omega
                                                                                          · exact zSx_k (zSx_k hS2 (hF72q 18 0 4 rfl) (hF72q 18 0 5 rfl) (fun x j _ => hF72q 7 x j rfl) (fun x j _ => hF72q 11 x j rfl)) (hF73q 18 0 4 rfl) (hF73q 18 0 5 rfl) (fun x j _ => hF73q 7 x j rfl) (fun x j _ => hF73q 11 x j rfl)), (by intro v hv; cases hv; intro x j hx hj; exact (hF73q 7 x j rfl).trans ((hF72q 7 x j rfl).trans (hL7 x j hx hj))), (by intro v hv; cases hv; intro x j hx hj; exact (hF73q 11 x j rfl).trans ((hF72q 11 x j rfl).trans (hL11 x j hx hj)))⟩
            · skip
              have b78x : zB v73 0 255 := by have q1 := b73x; have q2 := (zB.of (x := (-1)) (-1) (by decide)); simp only [z32lt, z32le, z32eq, Int32.reduceToInt, Int32.toInt_zero] at h57_73; constructor <;> omega
              have c79x : zB (g73 18 0 6) 0 119 := by first | assumption | (constructor <;> omega)
              refine z_aload_n (pc := 60) C dX7_parse_60 rfl ?_
              refine z_aload_n (pc := 61) C dX7_parse_61 rfl ?_
              refine z_getI (pc := 62) C zf_X7_33 rfl rfl (by decide) dX7_parse_62 ?_
              refine w_gp (fun v => v = g73 18 0 6) rfl (fun v80 q80 => ?_)
              have e80 : v80.toInt = (g73 18 0 6).toInt := by rw [q80]
              have b80x : zB v80 0 119 := by first | exact zB.eqv e80 c79x | (have q9 := c79x; constructor <;> omega)
              refine z_callV (pc := 65) C zk_X7_56 (x_X7_fail _ _ v80 (zB.wk (a' := 0) (b' := 120) b80x (by decide) (by decide)) hI73) rfl rfl (by decide) rfl rfl (Nat.le_of_ble_eq_true rfl) dX7_parse_65 (fun r81 g81 q81 => ?_)
              obtain ⟨rfl, hI81, hF81q, hp81_0, hp81_1, hp81_2⟩ := q81
              have hF81 := zFr.tr hF73 hF81q (by decide)
              simp only [Option.toList, List.cons_append, List.nil_append]
              have cr81_18_0_7 : zB (g81 18 0 7) (-1) 120 := hI81 18 0 7
              have ek81_18_0_4 : (g81 18 0 4).toInt = (g73 18 0 4).toInt := by rw [hF81q 18 0 4 rfl]
              have c81_18_0_4x : zB (g81 18 0 4) 0 12 := by rw [hF81q 18 0 4 rfl]; exact c73_18_0_4x
              have ek81_18_0_5 : (g81 18 0 5).toInt = (g73 18 0 5).toInt := by rw [hF81q 18 0 5 rfl]
              have c81_18_0_5x : zB (g81 18 0 5) 0 12 := by rw [hF81q 18 0 5 rfl]; exact c73_18_0_5x
              have ek81_18_0_6 : (g81 18 0 6).toInt = (g73 18 0 6).toInt := by rw [hF81q 18 0 6 rfl]
              have c81_18_0_6x : zB (g81 18 0 6) 0 119 := by rw [hF81q 18 0 6 rfl]; exact c79x
              have c82x : zB (g81 18 0 7) 0 120 := by first | assumption | (constructor <;> omega)
              refine z_aload_n (pc := 68) C dX7_parse_68 rfl ?_
              refine z_getI (pc := 69) C zf_X7_36 rfl rfl (by decide) dX7_parse_69 ?_
              refine w_gp (fun v => v = g81 18 0 7) rfl (fun v83 q83 => ?_)
              have e83 : v83.toInt = (g81 18 0 7).toInt := by rw [q83]
              have b83x : zB v83 0 120 := by first | exact zB.eqv e83 c82x | (have q9 := c82x; constructor <;> omega)
              refine z_iconst (pc := 72) (v := -1) C dX7_parse_72 (by decide) ?_
              refine z_icmp_ne (pc := 73) 80 C dX7_parse_73 (by decide) (fun h73_83 => ?_) (fun h73_83 => absurd h73_83 (by have q1 := b83x; have q2 := (zB.of (x := (-1)) (-1) (by decide)); first | (simp only [z32lt, z32le, z32eq]; omega) | (simp only [z32lt, z32le, z32eq] at *; omega)))
              refine z_bipush (pc := 80) (v := -20) C dX7_parse_80 (by decide) ?_
              refine z_aload_n (pc := 82) C dX7_parse_82 rfl ?_
              refine z_getI (pc := 83) C zf_X7_36 rfl rfl (by decide) dX7_parse_83 ?_
              refine w_gp (fun v => v = g81 18 0 7) rfl (fun v85 q85 => ?_)
              have e85 : v85.toInt = (g81 18 0 7).toInt := by rw [q85]
              have b85x : zB v85 0 120 := by first | exact zB.eqv e85 c82x | (have q9 := c82x; constructor <;> omega)
              refine z_isub (pc := 86) C dX7_parse_86 ?_
              refine w_gp (fun v => v = ((-20) : Int32) - v85) rfl (fun v86 q86 => ?_)
              have e86 : v86.toInt = (-20) - v85.toInt := by rw [q86]; exact (zsub_eb (zB.of (x := (-20)) (-20) (by decide)) b85x (by decide) (by decide))
              have b86x : zB v86 (-140) (-20) := by have q1 := (zB.of (x := (-20)) (-20) (by decide)); have q2 := b85x; constructor <;> omega
              exact z_iret (pc := 87) C hr dX7_parse_87 ⟨⟨_, rfl, (zB.wk (a' := (-140)) (b' := 12) b86x (by decide) (by decide))⟩, hI81, hF81, (by
                                                                                          intro v hv; cases hv
                                                                                          have hne := (show ¬ v73 = -1 by assumption)
                                                                                          rw [hv73] at hne
                                                                                          have hpl := hq73
                                                                                          rw [zsp_idem] at hne hpl
                                                                                          have hf := hp81_2 (by rw [ft73]; decide)
                                                                                          rw [q80, hpl] at hf
                                                                                          have hfi : (g81 18 0 7).toInt = ((zsp T n (u3) : Nat) : Int) := by rw [hf]; exact nI_toInt (by have := zsp_len (T := T) hb3; omega)
                                                                                          refine Or.inl ⟨zsp T n (u3), ?_, zsp_len hb3, by omega⟩
                                                                                          rw [hW, zwd_stop hc3 hne (fun h59 => absurd h59 hc72)]; rfl), (by intro v hv; cases hv; intro x j hx hj; exact (hF81q 7 x j rfl).trans ((hF73q 7 x j rfl).trans ((hF72q 7 x j rfl).trans (hL7 x j hx hj)))), (by intro v hv; cases hv; intro x j hx hj; exact (hF81q 11 x j rfl).trans ((hF73q 11 x j rfl).trans ((hF72q 11 x j rfl).trans (hL11 x j hx hj))))⟩
      · skip
        have h183 : g3 18 0 3 = nI n := (hF3q 18 0 3 rfl).trans hR22_0
        have hTp3 : ∀ i, i < n → g3 19 0 i = T i := fun i hi => (hF3q 19 0 i rfl).trans (hR22_1 i hi)
        have hL7 : ∀ x j, x < 48 → j < 6 → g3 7 x j = f 7 x j := fun x j hx hj => (n53 x j hj).trans (hR22_5 x j hx hj)
        have hL11 : ∀ x j, x < 24 → j < 8 → g3 11 x j = f 11 x j := fun x j hx hj => (n33 x j hj (by omega)).trans (hR22_6 x j hx hj)
        have fti3 : (g3 18 0 7).toInt = -1 := by rw [ft3]; decide
        have c87x : zB (g3 18 0 7) (-1) (-1) := by first | assumption | (constructor <;> omega)
        have hS2 := zSx_p hS (by omega) n13 n23 n33 n43 n53
        refine z_iinc (pc := 26) (v := 1) C dX7_parse_26 rfl (by decide) (by rw [hn]; decide) rfl ?_
        obtain ⟨v88, hv88, e88⟩ : ∃ v : Int32, v = a22_1 + 1 ∧ v.toInt = a22_1.toInt + 1 := ⟨_, rfl, zadd_eb b22_1 (zB.of (x := 1) 1 (by decide)) (by decide) (by decide)⟩
        rw [← hv88]
        have b88x : zB v88 1 12 := by have q9 := b22_1; constructor <;> omega
        refine z_iload_n (pc := 29) C dX7_parse_29 rfl ?_
        refine z_bipush (pc := 30) (v := 12) C dX7_parse_30 (by decide) ?_
        refine z_icmp_ge (pc := 32) 52 C dX7_parse_32 (by decide) (fun h32_88 => ?_) (fun h32_88 => ?_)
        · skip
          have b90x : zB v88 12 12 := by have q1 := b88x; have q2 := (zB.of (x := 12) 12 (by decide)); simp only [z32lt, z32le, z32eq, Int32.reduceToInt, Int32.toInt_zero] at h32_88; constructor <;> omega
          refine z_aload_n (pc := 52) C dX7_parse_52 rfl ?_
          refine z_callV (pc := 53) C zk_X7_52 (e_X7_next _ _ T n (u3) hN h183 hTp3 hq3 hb3 hI3) rfl rfl (by decide) rfl rfl (Nat.le_of_ble_eq_true rfl) dX7_parse_53 (fun r91 g91 q91 => ?_)
          obtain ⟨⟨v91, rfl, b91x⟩, hI91, hF91q, hp91⟩ := q91
          have hp91 := hp91 _ rfl
          have hF91 := zFr.tr hF3 hF91q (by decide)
          simp only [Option.toList, List.cons_append, List.nil_append]
          have ek91_18_0_7 : (g91 18 0 7).toInt = (g3 18 0 7).toInt := by rw [hF91q 18 0 7 rfl]
          have c91_18_0_7x : zB (g91 18 0 7) (-1) (-1) := by rw [hF91q 18 0 7 rfl]; exact c87x
          have ek91_18_0_4 : (g91 18 0 4).toInt = (g3 18 0 4).toInt := by rw [hF91q 18 0 4 rfl]
          have c91_18_0_4x : zB (g91 18 0 4) 0 12 := by rw [hF91q 18 0 4 rfl]; exact cr3_18_0_4
          have ek91_18_0_5 : (g91 18 0 5).toInt = (g3 18 0 5).toInt := by rw [hF91q 18 0 5 rfl]
          have c91_18_0_5x : zB (g91 18 0 5) 0 12 := by rw [hF91q 18 0 5 rfl]; exact cr3_18_0_5
          have cr91_18_0_6 : zB (g91 18 0 6) 0 120 := hI91 18 0 6
          obtain ⟨hv91, hq91, hj91⟩ := hp91
          have h1891 : g91 18 0 3 = nI n := (hF91q 18 0 3 rfl).trans h183
          have hTp91 : ∀ i, i < n → g91 19 0 i = T i := fun i hi => (hF91q 19 0 i rfl).trans (hTp3 i hi)
          have ft91 : g91 18 0 7 = -1 := (hF91q 18 0 7 rfl).trans ft3
          have hb91 : zsp T n (u3) ≤ n := zsp_len hb3
          refine z_iconst (pc := 56) (v := -1) C dX7_parse_56 (by decide) ?_
          refine z_icmp_eq (pc := 57) 68 C dX7_parse_57 (by decide) (fun h57_91 => ?_) (fun h57_91 => ?_)
          · skip
            have b93x : zB v91 (-1) (-1) := by have q1 := b91x; have q2 := (zB.of (x := (-1)) (-1) (by decide)); simp only [z32lt, z32le, z32eq, Int32.reduceToInt, Int32.toInt_zero] at h57_91; constructor <;> omega
            refine z_aload_n (pc := 68) C dX7_parse_68 rfl ?_
            refine z_getI (pc := 69) C zf_X7_36 rfl rfl (by decide) dX7_parse_69 ?_
            refine w_gp (fun v => v = g91 18 0 7) rfl (fun v94 q94 => ?_)
            have e94 : v94.toInt = (g91 18 0 7).toInt := by rw [q94]
            have b94x : zB v94 (-1) (-1) := by first | exact zB.eqv e94 c91_18_0_7x | (have q9 := c91_18_0_7x; constructor <;> omega)
            refine z_iconst (pc := 72) (v := -1) C dX7_parse_72 (by decide) ?_
            refine z_icmp_ne (pc := 73) 80 C dX7_parse_73 (by decide) (fun h73_94 => absurd h73_94 (by have q1 := b94x; have q2 := (zB.of (x := (-1)) (-1) (by decide)); first | (simp only [z32lt, z32le, z32eq]; omega) | (simp only [z32lt, z32le, z32eq] at *; omega))) (fun h73_94 => ?_)
            refine z_iload_n (pc := 76) C dX7_parse_76 rfl ?_
            refine z_goto (pc := 77) 87 C dX7_parse_77 (by decide) ?_
            exact z_iret (pc := 87) C hr dX7_parse_87 ⟨⟨_, rfl, (zB.wk (a' := (-140)) (b' := 12) b90x (by decide) (by decide))⟩, hI91, hF91, (by
                                                                                          intro v hv; cases hv
                                                                                          have hne := (show v91 = -1 by assumption)
                                                                                          rw [hv91] at hne
                                                                                          refine Or.inr ⟨cs, (ps ++ [c3w]), ?_, ?_, ?_, ?_⟩
                                                                                          · rw [hW, zwd_end hc3 hne]; simp [zwj]
                                                                                          · rw [List.length_append, List.length_singleton]; omega
                                                                                          · rw [List.length_append, List.length_singleton]; omega
                                                                                          · exact zSx_k hS2 (hF91q 18 0 4 rfl) (hF91q 18 0 5 rfl) (fun x j _ => hF91q 7 x j rfl) (fun x j _ => hF91q 11 x j rfl)), (by intro v hv; cases hv; intro x j hx hj; exact (hF91q 7 x j rfl).trans (hL7 x j hx hj)), (by intro v hv; cases hv; intro x j hx hj; exact (hF91q 11 x j rfl).trans (hL11 x j hx hj))⟩
          · skip
            have b96x : zB v91 0 255 := by have q1 := b91x; have q2 := (zB.of (x := (-1)) (-1) (by decide)); simp only [z32lt, z32le, z32eq, Int32.reduceToInt, Int32.toInt_zero] at h57_91; constructor <;> omega
            have c97x : zB (g91 18 0 6) 0 119 := by first | assumption | (constructor <;> omega)
            refine z_aload_n (pc := 60) C dX7_parse_60 rfl ?_
            refine z_aload_n (pc := 61) C dX7_parse_61 rfl ?_
            refine z_getI (pc := 62) C zf_X7_33 rfl rfl (by decide) dX7_parse_62 ?_
            refine w_gp (fun v => v = g91 18 0 6) rfl (fun v98 q98 => ?_)
            have e98 : v98.toInt = (g91 18 0 6).toInt := by rw [q98]
            have b98x : zB v98 0 119 := by first | exact zB.eqv e98 c97x | (have q9 := c97x; constructor <;> omega)
            refine z_callV (pc := 65) C zk_X7_56 (x_X7_fail _ _ v98 (zB.wk (a' := 0) (b' := 120) b98x (by decide) (by decide)) hI91) rfl rfl (by decide) rfl rfl (Nat.le_of_ble_eq_true rfl) dX7_parse_65 (fun r99 g99 q99 => ?_)
            obtain ⟨rfl, hI99, hF99q, hp99_0, hp99_1, hp99_2⟩ := q99
            have hF99 := zFr.tr hF91 hF99q (by decide)
            simp only [Option.toList, List.cons_append, List.nil_append]
            have cr99_18_0_7 : zB (g99 18 0 7) (-1) 120 := hI99 18 0 7
            have ek99_18_0_4 : (g99 18 0 4).toInt = (g91 18 0 4).toInt := by rw [hF99q 18 0 4 rfl]
            have c99_18_0_4x : zB (g99 18 0 4) 0 12 := by rw [hF99q 18 0 4 rfl]; exact c91_18_0_4x
            have ek99_18_0_5 : (g99 18 0 5).toInt = (g91 18 0 5).toInt := by rw [hF99q 18 0 5 rfl]
            have c99_18_0_5x : zB (g99 18 0 5) 0 12 := by rw [hF99q 18 0 5 rfl]; exact c91_18_0_5x
            have ek99_18_0_6 : (g99 18 0 6).toInt = (g91 18 0 6).toInt := by rw [hF99q 18 0 6 rfl]
            have c99_18_0_6x : zB (g99 18 0 6) 0 119 := by rw [hF99q 18 0 6 rfl]; exact c97x
            have c100x : zB (g99 18 0 7) 0 120 := by first | assumption | (constructor <;> omega)
            refine z_aload_n (pc := 68) C dX7_parse_68 rfl ?_
            refine z_getI (pc := 69) C zf_X7_36 rfl rfl (by decide) dX7_parse_69 ?_
            refine w_gp (fun v => v = g99 18 0 7) rfl (fun v101 q101 => ?_)
            have e101 : v101.toInt = (g99 18 0 7).toInt := by rw [q101]
            have b101x : zB v101 0 120 := by first | exact zB.eqv e101 c100x | (have q9 := c100x; constructor <;> omega)
            refine z_iconst (pc := 72) (v := -1) C dX7_parse_72 (by decide) ?_
            refine z_icmp_ne (pc := 73) 80 C dX7_parse_73 (by decide) (fun h73_101 => ?_) (fun h73_101 => absurd h73_101 (by have q1 := b101x; have q2 := (zB.of (x := (-1)) (-1) (by decide)); first | (simp only [z32lt, z32le, z32eq]; omega) | (simp only [z32lt, z32le, z32eq] at *; omega)))
            refine z_bipush (pc := 80) (v := -20) C dX7_parse_80 (by decide) ?_
            refine z_aload_n (pc := 82) C dX7_parse_82 rfl ?_
            refine z_getI (pc := 83) C zf_X7_36 rfl rfl (by decide) dX7_parse_83 ?_
            refine w_gp (fun v => v = g99 18 0 7) rfl (fun v103 q103 => ?_)
            have e103 : v103.toInt = (g99 18 0 7).toInt := by rw [q103]
            have b103x : zB v103 0 120 := by first | exact zB.eqv e103 c100x | (have q9 := c100x; constructor <;> omega)
            refine z_isub (pc := 86) C dX7_parse_86 ?_
            refine w_gp (fun v => v = ((-20) : Int32) - v103) rfl (fun v104 q104 => ?_)
            have e104 : v104.toInt = (-20) - v103.toInt := by rw [q104]; exact (zsub_eb (zB.of (x := (-20)) (-20) (by decide)) b103x (by decide) (by decide))
            have b104x : zB v104 (-140) (-20) := by have q1 := (zB.of (x := (-20)) (-20) (by decide)); have q2 := b103x; constructor <;> omega
            exact z_iret (pc := 87) C hr dX7_parse_87 ⟨⟨_, rfl, (zB.wk (a' := (-140)) (b' := 12) b104x (by decide) (by decide))⟩, hI99, hF99, (by
                                                                                          intro v hv; cases hv
                                                                                          have hne := (show ¬ v91 = -1 by assumption)
                                                                                          rw [hv91] at hne
                                                                                          have hpl := hq91
                                                                                          have hf := hp99_2 (by rw [ft91]; decide)
                                                                                          rw [q98, hpl] at hf
                                                                                          have hfi : (g99 18 0 7).toInt = ((zsp T n (u3) : Nat) : Int) := by rw [hf]; exact nI_toInt (by have := zsp_len (T := T) hb3; omega)
                                                                                          refine Or.inl ⟨zsp T n (u3), ?_, zsp_len hb3, by omega⟩
                                                                                          rw [hW, zwd_stop hc3 hne (fun _ => by omega)]; rfl), (by intro v hv; cases hv; intro x j hx hj; exact (hF99q 7 x j rfl).trans ((hF91q 7 x j rfl).trans (hL7 x j hx hj))), (by intro v hv; cases hv; intro x j hx hj; exact (hF99q 11 x j rfl).trans ((hF91q 11 x j rfl).trans (hL11 x j hx hj)))⟩
        · skip
          have b105x : zB v88 1 11 := by have q1 := b88x; have q2 := (zB.of (x := 12) 12 (by decide)); simp only [z32lt, z32le, z32eq, Int32.reduceToInt, Int32.toInt_zero] at h32_88; constructor <;> omega
          refine z_aload_n (pc := 35) C dX7_parse_35 rfl ?_
          refine z_getI (pc := 36) C zf_X7_36 rfl rfl (by decide) dX7_parse_36 ?_
          refine w_gp (fun v => v = g3 18 0 7) rfl (fun v106 q106 => ?_)
          have e106 : v106.toInt = (g3 18 0 7).toInt := by rw [q106]
          have b106x : zB v106 (-1) (-1) := by first | exact zB.eqv e106 c87x | (have q9 := c87x; constructor <;> omega)
          refine z_iconst (pc := 39) (v := -1) C dX7_parse_39 (by decide) ?_
          refine z_icmp_ne (pc := 40) 52 C dX7_parse_40 (by decide) (fun h40_106 => absurd h40_106 (by have q1 := b106x; have q2 := (zB.of (x := (-1)) (-1) (by decide)); first | (simp only [z32lt, z32le, z32eq]; omega) | (simp only [z32lt, z32le, z32eq] at *; omega))) (fun h40_106 => ?_)
          refine z_aload_n (pc := 43) C dX7_parse_43 rfl ?_
          refine z_bipush (pc := 44) (v := 59) C dX7_parse_44 (by decide) ?_
          refine z_callV (pc := 46) C zk_X7_48 (e_X7_takes _ _ 59 (zB.wk (a' := 1) (b' := 126) (zB.of (x := 59) 59 (by decide)) (by decide) (by decide)) T n (u3) hN h183 hTp3 hq3 hb3 hI3) rfl rfl (by decide) rfl rfl (Nat.le_of_ble_eq_true rfl) dX7_parse_46 (fun r108 g108 q108 => ?_)
          obtain ⟨⟨v108, rfl, b108x⟩, hI108, hF108q, hp108⟩ := q108
          have hp108 := hp108 _ rfl
          have hF108 := zFr.tr hF3 hF108q (by decide)
          simp only [Option.toList, List.cons_append, List.nil_append]
          have ek108_18_0_7 : (g108 18 0 7).toInt = (g3 18 0 7).toInt := by rw [hF108q 18 0 7 rfl]
          have c108_18_0_7x : zB (g108 18 0 7) (-1) (-1) := by rw [hF108q 18 0 7 rfl]; exact c87x
          have ek108_18_0_4 : (g108 18 0 4).toInt = (g3 18 0 4).toInt := by rw [hF108q 18 0 4 rfl]
          have c108_18_0_4x : zB (g108 18 0 4) 0 12 := by rw [hF108q 18 0 4 rfl]; exact cr3_18_0_4
          have ek108_18_0_5 : (g108 18 0 5).toInt = (g3 18 0 5).toInt := by rw [hF108q 18 0 5 rfl]
          have c108_18_0_5x : zB (g108 18 0 5) 0 12 := by rw [hF108q 18 0 5 rfl]; exact cr3_18_0_5
          have cr108_18_0_6 : zB (g108 18 0 6) 0 120 := hI108 18 0 6
          have h18108 : g108 18 0 3 = nI n := (hF108q 18 0 3 rfl).trans h183
          have hTp108 : ∀ i, i < n → g108 19 0 i = T i := fun i hi => (hF108q 19 0 i rfl).trans (hTp3 i hi)
          have ft108 : g108 18 0 7 = -1 := (hF108q 18 0 7 rfl).trans ft3
          rcases hp108 with ⟨hc108, rfl, hq108, hb108⟩ | ⟨hc108, rfl, hq108⟩
          · skip
            refine z_if_ne (pc := 49) 22 C dX7_parse_49 (by decide) (fun _ => ?_) (fun h => absurd h (by decide))
            exact ih0 v88 (zB.wk (a' := 0) (b' := 11) b105x (by decide) (by decide)) g108 hI108 hF108 c108_18_0_4x c108_18_0_5x cr108_18_0_6 c108_18_0_7x (by exact h18108) (by exact hTp108) (by exact ft108) (by rw [hq108, nI_tt (by have := hb108; omega)]; exact hb108) (by
                                                                                          have eP : (g108 18 0 6).toInt.toNat = zsp T n (u3) + 1 := by rw [hq108, nI_tt (by have := hb108; omega)]
                                                                                          refine ⟨cs, (ps ++ [c3w]), zSx_k hS2 (hF108q 18 0 4 rfl) (hF108q 18 0 5 rfl) (fun x j _ => hF108q 7 x j rfl) (fun x j _ => hF108q 11 x j rfl), ?_, ?_⟩
                                                                                          · rw [List.length_append, List.length_singleton]; omega
                                                                                          · rw [hW, zwd_more hc3 hc108 (by omega), eP, show 12 - (v88).toInt.toNat = 11 - a22_1.toInt.toNat by omega]
                                                                                            rfl) (by intro x j hx hj; exact (hF108q 7 x j rfl).trans (hL7 x j hx hj)) (by intro x j hx hj; exact (hF108q 11 x j rfl).trans (hL11 x j hx hj)) (by omega)
          · skip
            have hb108 : zsp T n (u3) ≤ n := zsp_len hb3
            refine z_if_ne (pc := 49) 22 C dX7_parse_49 (by decide) (fun h => absurd (by decide) h) (fun _ => ?_)
            refine z_aload_n (pc := 52) C dX7_parse_52 rfl ?_
            refine z_callV (pc := 53) C zk_X7_52 (e_X7_next _ _ T n (zsp T n (u3)) hN h18108 hTp108 hq108 hb108 hI108) rfl rfl (by decide) rfl rfl (Nat.le_of_ble_eq_true rfl) dX7_parse_53 (fun r109 g109 q109 => ?_)
            obtain ⟨⟨v109, rfl, b109x⟩, hI109, hF109q, hp109⟩ := q109
            have hp109 := hp109 _ rfl
            have hF109 := zFr.tr hF108 hF109q (by decide)
            simp only [Option.toList, List.cons_append, List.nil_append]
            have ek109_18_0_7 : (g109 18 0 7).toInt = (g108 18 0 7).toInt := by rw [hF109q 18 0 7 rfl]
            have c109_18_0_7x : zB (g109 18 0 7) (-1) (-1) := by rw [hF109q 18 0 7 rfl]; exact c108_18_0_7x
            have ek109_18_0_4 : (g109 18 0 4).toInt = (g108 18 0 4).toInt := by rw [hF109q 18 0 4 rfl]
            have c109_18_0_4x : zB (g109 18 0 4) 0 12 := by rw [hF109q 18 0 4 rfl]; exact c108_18_0_4x
            have ek109_18_0_5 : (g109 18 0 5).toInt = (g108 18 0 5).toInt := by rw [hF109q 18 0 5 rfl]
            have c109_18_0_5x : zB (g109 18 0 5) 0 12 := by rw [hF109q 18 0 5 rfl]; exact c108_18_0_5x
            have cr109_18_0_6 : zB (g109 18 0 6) 0 120 := hI109 18 0 6
            obtain ⟨hv109, hq109, hj109⟩ := hp109
            have h18109 : g109 18 0 3 = nI n := (hF109q 18 0 3 rfl).trans h18108
            have hTp109 : ∀ i, i < n → g109 19 0 i = T i := fun i hi => (hF109q 19 0 i rfl).trans (hTp108 i hi)
            have ft109 : g109 18 0 7 = -1 := (hF109q 18 0 7 rfl).trans ft108
            have hb109 : zsp T n (zsp T n (u3)) ≤ n := zsp_len hb108
            refine z_iconst (pc := 56) (v := -1) C dX7_parse_56 (by decide) ?_
            refine z_icmp_eq (pc := 57) 68 C dX7_parse_57 (by decide) (fun h57_109 => ?_) (fun h57_109 => ?_)
            · skip
              have b111x : zB v109 (-1) (-1) := by have q1 := b109x; have q2 := (zB.of (x := (-1)) (-1) (by decide)); simp only [z32lt, z32le, z32eq, Int32.reduceToInt, Int32.toInt_zero] at h57_109; constructor <;> omega
              refine z_aload_n (pc := 68) C dX7_parse_68 rfl ?_
              refine z_getI (pc := 69) C zf_X7_36 rfl rfl (by decide) dX7_parse_69 ?_
              refine w_gp (fun v => v = g109 18 0 7) rfl (fun v112 q112 => ?_)
              have e112 : v112.toInt = (g109 18 0 7).toInt := by rw [q112]
              have b112x : zB v112 (-1) (-1) := by first | exact zB.eqv e112 c109_18_0_7x | (have q9 := c109_18_0_7x; constructor <;> omega)
              refine z_iconst (pc := 72) (v := -1) C dX7_parse_72 (by decide) ?_
              refine z_icmp_ne (pc := 73) 80 C dX7_parse_73 (by decide) (fun h73_112 => absurd h73_112 (by have q1 := b112x; have q2 := (zB.of (x := (-1)) (-1) (by decide)); first | (simp only [z32lt, z32le, z32eq]; omega) | (simp only [z32lt, z32le, z32eq] at *; omega))) (fun h73_112 => ?_)
              refine z_iload_n (pc := 76) C dX7_parse_76 rfl ?_
              refine z_goto (pc := 77) 87 C dX7_parse_77 (by decide) ?_
              exact z_iret (pc := 87) C hr dX7_parse_87 ⟨⟨_, rfl, (zB.wk (a' := (-140)) (b' := 12) b105x (by decide) (by decide))⟩, hI109, hF109, (by
                                                                                          intro v hv; cases hv
                                                                                          have hne := (show v109 = -1 by assumption)
                                                                                          rw [hv109] at hne
                                                                                          rw [zsp_idem] at hne
                                                                                          refine Or.inr ⟨cs, (ps ++ [c3w]), ?_, ?_, ?_, ?_⟩
                                                                                          · rw [hW, zwd_end hc3 hne]; simp [zwj]
                                                                                          · rw [List.length_append, List.length_singleton]; omega
                                                                                          · rw [List.length_append, List.length_singleton]; omega
                                                                                          · exact zSx_k (zSx_k hS2 (hF108q 18 0 4 rfl) (hF108q 18 0 5 rfl) (fun x j _ => hF108q 7 x j rfl) (fun x j _ => hF108q 11 x j rfl)) (hF109q 18 0 4 rfl) (hF109q 18 0 5 rfl) (fun x j _ => hF109q 7 x j rfl) (fun x j _ => hF109q 11 x j rfl)), (by intro v hv; cases hv; intro x j hx hj; exact (hF109q 7 x j rfl).trans ((hF108q 7 x j rfl).trans (hL7 x j hx hj))), (by intro v hv; cases hv; intro x j hx hj; exact (hF109q 11 x j rfl).trans ((hF108q 11 x j rfl).trans (hL11 x j hx hj)))⟩
            · skip
              have b114x : zB v109 0 255 := by have q1 := b109x; have q2 := (zB.of (x := (-1)) (-1) (by decide)); simp only [z32lt, z32le, z32eq, Int32.reduceToInt, Int32.toInt_zero] at h57_109; constructor <;> omega
              have c115x : zB (g109 18 0 6) 0 119 := by first | assumption | (constructor <;> omega)
              refine z_aload_n (pc := 60) C dX7_parse_60 rfl ?_
              refine z_aload_n (pc := 61) C dX7_parse_61 rfl ?_
              refine z_getI (pc := 62) C zf_X7_33 rfl rfl (by decide) dX7_parse_62 ?_
              refine w_gp (fun v => v = g109 18 0 6) rfl (fun v116 q116 => ?_)
              have e116 : v116.toInt = (g109 18 0 6).toInt := by rw [q116]
              have b116x : zB v116 0 119 := by first | exact zB.eqv e116 c115x | (have q9 := c115x; constructor <;> omega)
              refine z_callV (pc := 65) C zk_X7_56 (x_X7_fail _ _ v116 (zB.wk (a' := 0) (b' := 120) b116x (by decide) (by decide)) hI109) rfl rfl (by decide) rfl rfl (Nat.le_of_ble_eq_true rfl) dX7_parse_65 (fun r117 g117 q117 => ?_)
              obtain ⟨rfl, hI117, hF117q, hp117_0, hp117_1, hp117_2⟩ := q117
              have hF117 := zFr.tr hF109 hF117q (by decide)
              simp only [Option.toList, List.cons_append, List.nil_append]
              have cr117_18_0_7 : zB (g117 18 0 7) (-1) 120 := hI117 18 0 7
              have ek117_18_0_4 : (g117 18 0 4).toInt = (g109 18 0 4).toInt := by rw [hF117q 18 0 4 rfl]
              have c117_18_0_4x : zB (g117 18 0 4) 0 12 := by rw [hF117q 18 0 4 rfl]; exact c109_18_0_4x
              have ek117_18_0_5 : (g117 18 0 5).toInt = (g109 18 0 5).toInt := by rw [hF117q 18 0 5 rfl]
              have c117_18_0_5x : zB (g117 18 0 5) 0 12 := by rw [hF117q 18 0 5 rfl]; exact c109_18_0_5x
              have ek117_18_0_6 : (g117 18 0 6).toInt = (g109 18 0 6).toInt := by rw [hF117q 18 0 6 rfl]
              have c117_18_0_6x : zB (g117 18 0 6) 0 119 := by rw [hF117q 18 0 6 rfl]; exact c115x
              have c118x : zB (g117 18 0 7) 0 120 := by first | assumption | (constructor <;> omega)
              refine z_aload_n (pc := 68) C dX7_parse_68 rfl ?_
              refine z_getI (pc := 69) C zf_X7_36 rfl rfl (by decide) dX7_parse_69 ?_
              refine w_gp (fun v => v = g117 18 0 7) rfl (fun v119 q119 => ?_)
              have e119 : v119.toInt = (g117 18 0 7).toInt := by rw [q119]
              have b119x : zB v119 0 120 := by first | exact zB.eqv e119 c118x | (have q9 := c118x; constructor <;> omega)
              refine z_iconst (pc := 72) (v := -1) C dX7_parse_72 (by decide) ?_
              refine z_icmp_ne (pc := 73) 80 C dX7_parse_73 (by decide) (fun h73_119 => ?_) (fun h73_119 => absurd h73_119 (by have q1 := b119x; have q2 := (zB.of (x := (-1)) (-1) (by decide)); first | (simp only [z32lt, z32le, z32eq]; omega) | (simp only [z32lt, z32le, z32eq] at *; omega)))
              refine z_bipush (pc := 80) (v := -20) C dX7_parse_80 (by decide) ?_
              refine z_aload_n (pc := 82) C dX7_parse_82 rfl ?_
              refine z_getI (pc := 83) C zf_X7_36 rfl rfl (by decide) dX7_parse_83 ?_
              refine w_gp (fun v => v = g117 18 0 7) rfl (fun v121 q121 => ?_)
              have e121 : v121.toInt = (g117 18 0 7).toInt := by rw [q121]
              have b121x : zB v121 0 120 := by first | exact zB.eqv e121 c118x | (have q9 := c118x; constructor <;> omega)
              refine z_isub (pc := 86) C dX7_parse_86 ?_
              refine w_gp (fun v => v = ((-20) : Int32) - v121) rfl (fun v122 q122 => ?_)
              have e122 : v122.toInt = (-20) - v121.toInt := by rw [q122]; exact (zsub_eb (zB.of (x := (-20)) (-20) (by decide)) b121x (by decide) (by decide))
              have b122x : zB v122 (-140) (-20) := by have q1 := (zB.of (x := (-20)) (-20) (by decide)); have q2 := b121x; constructor <;> omega
              exact z_iret (pc := 87) C hr dX7_parse_87 ⟨⟨_, rfl, (zB.wk (a' := (-140)) (b' := 12) b122x (by decide) (by decide))⟩, hI117, hF117, (by
                                                                                          intro v hv; cases hv
                                                                                          have hne := (show ¬ v109 = -1 by assumption)
                                                                                          rw [hv109] at hne
                                                                                          have hpl := hq109
                                                                                          rw [zsp_idem] at hne hpl
                                                                                          have hf := hp117_2 (by rw [ft109]; decide)
                                                                                          rw [q116, hpl] at hf
                                                                                          have hfi : (g117 18 0 7).toInt = ((zsp T n (u3) : Nat) : Int) := by rw [hf]; exact nI_toInt (by have := zsp_len (T := T) hb3; omega)
                                                                                          refine Or.inl ⟨zsp T n (u3), ?_, zsp_len hb3, by omega⟩
                                                                                          rw [hW, zwd_stop hc3 hne (fun h59 => absurd h59 hc108)]; rfl), (by intro v hv; cases hv; intro x j hx hj; exact (hF117q 7 x j rfl).trans ((hF109q 7 x j rfl).trans ((hF108q 7 x j rfl).trans (hL7 x j hx hj)))), (by intro v hv; cases hv; intro x j hx hj; exact (hF117q 11 x j rfl).trans ((hF109q 11 x j rfl).trans ((hF108q 11 x j rfl).trans (hL11 x j hx hj))))⟩
  have J0 := J 48
  show Z X 0 [some (zr 18 0), none] [] f
  refine z_aload_n (pc := 0) C dX7_parse_0 rfl ?_
  refine z_iconst (pc := 1) (v := 0) C dX7_parse_1 (by decide) ?_
  refine z_putI (pc := 2) C zf_X7_33 zp_7_6 rfl rfl (by decide) dX7_parse_2 ?_
  refine w_memx hI hF (zB.wk (a' := 0) (b' := 120) (zB.of (x := 0) 0 (by decide)) (by decide) (by decide)) rfl (fun g123 qm123 hI123 hF123 hq123 hx123 => ?_)
  have ek123_18_0_7 : (g123 18 0 7).toInt = (f 18 0 7).toInt := by rw [hq123 18 0 7 (fun h => absurd h.2 (by decide))]
  have c123_18_0_7x : zB (g123 18 0 7) (-1) 120 := by rw [hq123 18 0 7 (fun h => absurd h.2 (by decide))]; exact ct18_0_7
  have ek123_18_0_4 : (g123 18 0 4).toInt = (f 18 0 4).toInt := by rw [hq123 18 0 4 (fun h => absurd h.2 (by decide))]
  have c123_18_0_4x : zB (g123 18 0 4) 0 12 := by rw [hq123 18 0 4 (fun h => absurd h.2 (by decide))]; exact ct18_0_4
  have ek123_18_0_5 : (g123 18 0 5).toInt = (f 18 0 5).toInt := by rw [hq123 18 0 5 (fun h => absurd h.2 (by decide))]
  have c123_18_0_5x : zB (g123 18 0 5) 0 12 := by rw [hq123 18 0 5 (fun h => absurd h.2 (by decide))]; exact ct18_0_5
  have ec123 : (g123 18 0 6).toInt = (0 : Int32).toInt := by rw [hx123]
  have c123x : zB (g123 18 0 6) 0 0 := by have q9 := (zB.of (x := 0) 0 (by decide)); constructor <;> omega
  refine z_aload_n (pc := 5) C dX7_parse_5 rfl ?_
  refine z_iconst (pc := 6) (v := -1) C dX7_parse_6 (by decide) ?_
  refine z_putI (pc := 7) C zf_X7_36 zp_7_7 rfl rfl (by decide) dX7_parse_7 ?_
  refine w_memx hI123 hF123 (zB.wk (a' := (-1)) (b' := 120) (zB.of (x := (-1)) (-1) (by decide)) (by decide) (by decide)) rfl (fun g124 qm124 hI124 hF124 hq124 hx124 => ?_)
  have ec124 : (g124 18 0 7).toInt = ((-1) : Int32).toInt := by rw [hx124]
  have c124x : zB (g124 18 0 7) (-1) (-1) := by have q9 := (zB.of (x := (-1)) (-1) (by decide)); constructor <;> omega
  have ek124_18_0_4 : (g124 18 0 4).toInt = (g123 18 0 4).toInt := by rw [hq124 18 0 4 (fun h => absurd h.2 (by decide))]
  have c124_18_0_4x : zB (g124 18 0 4) 0 12 := by rw [hq124 18 0 4 (fun h => absurd h.2 (by decide))]; exact c123_18_0_4x
  have ek124_18_0_5 : (g124 18 0 5).toInt = (g123 18 0 5).toInt := by rw [hq124 18 0 5 (fun h => absurd h.2 (by decide))]
  have c124_18_0_5x : zB (g124 18 0 5) 0 12 := by rw [hq124 18 0 5 (fun h => absurd h.2 (by decide))]; exact c123_18_0_5x
  have ek124_18_0_6 : (g124 18 0 6).toInt = (g123 18 0 6).toInt := by rw [hq124 18 0 6 (fun h => absurd h.2 (by decide))]
  have c124_18_0_6x : zB (g124 18 0 6) 0 0 := by rw [hq124 18 0 6 (fun h => absurd h.2 (by decide))]; exact c123x
  refine z_aload_n (pc := 10) C dX7_parse_10 rfl ?_
  refine z_iconst (pc := 11) (v := 0) C dX7_parse_11 (by decide) ?_
  refine z_putI (pc := 12) C zf_X7_39 zp_7_4 rfl rfl (by decide) dX7_parse_12 ?_
  refine w_memx hI124 hF124 (zB.wk (a' := 0) (b' := 12) (zB.of (x := 0) 0 (by decide)) (by decide) (by decide)) rfl (fun g125 qm125 hI125 hF125 hq125 hx125 => ?_)
  have ek125_18_0_7 : (g125 18 0 7).toInt = (g124 18 0 7).toInt := by rw [hq125 18 0 7 (fun h => absurd h.2 (by decide))]
  have c125_18_0_7x : zB (g125 18 0 7) (-1) (-1) := by rw [hq125 18 0 7 (fun h => absurd h.2 (by decide))]; exact c124x
  have ec125 : (g125 18 0 4).toInt = (0 : Int32).toInt := by rw [hx125]
  have c125x : zB (g125 18 0 4) 0 0 := by have q9 := (zB.of (x := 0) 0 (by decide)); constructor <;> omega
  have ek125_18_0_5 : (g125 18 0 5).toInt = (g124 18 0 5).toInt := by rw [hq125 18 0 5 (fun h => absurd h.2 (by decide))]
  have c125_18_0_5x : zB (g125 18 0 5) 0 12 := by rw [hq125 18 0 5 (fun h => absurd h.2 (by decide))]; exact c124_18_0_5x
  have ek125_18_0_6 : (g125 18 0 6).toInt = (g124 18 0 6).toInt := by rw [hq125 18 0 6 (fun h => absurd h.2 (by decide))]
  have c125_18_0_6x : zB (g125 18 0 6) 0 0 := by rw [hq125 18 0 6 (fun h => absurd h.2 (by decide))]; exact c124_18_0_6x
  refine z_aload_n (pc := 15) C dX7_parse_15 rfl ?_
  refine z_iconst (pc := 16) (v := 0) C dX7_parse_16 (by decide) ?_
  refine z_putI (pc := 17) C zf_X7_42 zp_7_5 rfl rfl (by decide) dX7_parse_17 ?_
  refine w_memx hI125 hF125 (zB.wk (a' := 0) (b' := 12) (zB.of (x := 0) 0 (by decide)) (by decide) (by decide)) rfl (fun g126 qm126 hI126 hF126 hq126 hx126 => ?_)
  have ek126_18_0_7 : (g126 18 0 7).toInt = (g125 18 0 7).toInt := by rw [hq126 18 0 7 (fun h => absurd h.2 (by decide))]
  have c126_18_0_7x : zB (g126 18 0 7) (-1) (-1) := by rw [hq126 18 0 7 (fun h => absurd h.2 (by decide))]; exact c125_18_0_7x
  have ek126_18_0_4 : (g126 18 0 4).toInt = (g125 18 0 4).toInt := by rw [hq126 18 0 4 (fun h => absurd h.2 (by decide))]
  have c126_18_0_4x : zB (g126 18 0 4) 0 0 := by rw [hq126 18 0 4 (fun h => absurd h.2 (by decide))]; exact c125x
  have ec126 : (g126 18 0 5).toInt = (0 : Int32).toInt := by rw [hx126]
  have c126x : zB (g126 18 0 5) 0 0 := by have q9 := (zB.of (x := 0) 0 (by decide)); constructor <;> omega
  have ek126_18_0_6 : (g126 18 0 6).toInt = (g125 18 0 6).toInt := by rw [hq126 18 0 6 (fun h => absurd h.2 (by decide))]
  have c126_18_0_6x : zB (g126 18 0 6) 0 0 := by rw [hq126 18 0 6 (fun h => absurd h.2 (by decide))]; exact c125_18_0_6x
  refine z_iconst (pc := 20) (v := 0) C dX7_parse_20 (by decide) ?_
  refine z_istore_n (pc := 21) C dX7_parse_21 (by rw [hn]; decide) rfl ?_
  exact J0 0 (zB.wk (a' := 0) (b' := 11) (zB.of (x := 0) 0 (by decide)) (by decide) (by decide)) g126 hI126 hF126 (zB.wk c126_18_0_4x (by decide) (by decide)) (zB.wk c126x (by decide) (by decide)) (zB.wk c126_18_0_6x (by decide) (by decide)) c126_18_0_7x (by subst qm126 qm125 qm124 qm123; exact h18) (by subst qm126 qm125 qm124 qm123; exact hTp) (by subst qm126 qm125 qm124 qm123; rfl) (by subst qm126 qm125 qm124 qm123; exact Nat.zero_le n) (by
                                                                                          refine ⟨[], [], ⟨by subst qm126 qm125 qm124 qm123; rfl, by subst qm126 qm125 qm124 qm123; rfl, fun i j hi => absurd hi (Nat.not_lt_zero i), fun i j hi => absurd hi (Nat.not_lt_zero i)⟩, rfl, ?_⟩
                                                                                          rw [show ((g126 18 0 6).toInt.toNat) = 0 by subst qm126 qm125 qm124 qm123; rfl]
                                                                                          show _ = zwj [] [] (zwd (zclC T n) T n 12 0)
                                                                                          generalize zwd (zclC T n) T n 12 0 = X
                                                                                          rcases X with x | ⟨x, y⟩ <;> rfl) (by intro x j _ _; subst qm126 qm125 qm124 qm123; rfl) (by intro x j _ _; subst qm126 qm125 qm124 qm123; rfl) (by have qc0 : (0 : Int32).toInt = 0 := (by decide); omega)
