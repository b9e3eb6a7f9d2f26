/-- rows of a kind laid behind the n that stand: c of cs so far -/
def zAp (f m : zM) (k n : Nat) (cs : List (Nat → Int32)) (c w L : Nat) : Prop := (∀ i j, i < c → j < w → m k (n + i) j = (cs.getD i (fun _ => 0)) j) ∧ (∀ x j, x < L → (x < n ∨ n + c ≤ x) → j < w → m k x j = f k x j)
theorem zAp_0 {f m : zM} {k n w L : Nat} {cs : List (Nat → Int32)} (h : ∀ x j, x < L → j < w → m k x j = f k x j) : zAp f m k n cs 0 w L := ⟨fun i j hi => absurd hi (Nat.not_lt_zero i), fun x j hx _ hj => h x j hx hj⟩
theorem zAp_k {f m m2 : zM} {k n c w L : Nat} {cs : List (Nat → Int32)} (h : zAp f m k n cs c w L) (e : ∀ x j, j < w → m2 k x j = m k x j) : zAp f m2 k n cs c w L := ⟨fun i j hi hj => (e _ j hj).trans (h.1 i j hi hj), fun x j hx hq hj => (e _ j hj).trans (h.2 x j hx hq hj)⟩
theorem zAp_s {f m m2 : zM} {k n c w L : Nat} {cs : List (Nat → Int32)} (h : zAp f m k n cs c w L) (e1 : ∀ j, j < w → m2 k (n + c) j = (cs.getD c (fun _ => 0)) j) (e2 : ∀ x j, x ≠ n + c → j < w → m2 k x j = m k x j) : zAp f m2 k n cs (c + 1) w L := by
  refine ⟨fun i j hi hj => ?_, fun x j hx hq hj => ?_⟩
  · by_cases q : i = c
    · subst q; exact e1 j hj
    · rw [e2 _ j (by omega) hj]; exact h.1 i j (by omega) hj
  · rw [e2 _ j (by omega) hj]; exact h.2 x j hx (by omega) hj
def zKw (f m : zM) : Prop := m 1 0 5 = f 1 0 5 ∧ m 1 1 5 = f 1 1 5 ∧ m 1 0 7 = f 1 0 7 ∧ m 1 1 7 = f 1 1 7 ∧ (∀ x j, x < 48 → j < 6 → m 7 x j = f 7 x j) ∧ (∀ x j, x < 24 → j < 8 → m 11 x j = f 11 x j)
/-- the world of a tape laid behind what stands (the class) -/
def zWx (f m : zM) (v : Int32) : Nat ⊕ (List (Nat → Int32) × List (Nat → Int32)) → Prop
  | .inl e => v.toInt = -20 - e ∧ zKw f m
  | .inr q => (¬ ((f 1 0 5).toInt + q.1.length ≤ 24 ∧ (f 1 0 7).toInt + q.2.length ≤ 12) ∧ v = -3 ∧ zKw f m) ∨ (((f 1 0 5).toInt + q.1.length ≤ 24 ∧ (f 1 0 7).toInt + q.2.length ≤ 12) ∧ v.toInt = q.1.length + q.2.length ∧ (m 1 0 5).toInt = (f 1 0 5).toInt + q.1.length ∧ (m 1 0 7).toInt = (f 1 0 7).toInt + q.2.length ∧ m 1 1 5 = f 1 1 5 ∧ m 1 1 7 = f 1 1 7 ∧ zAp f m 7 (f 1 0 5).toInt.toNat q.1 q.1.length 6 48 ∧ zAp f m 11 (f 1 0 7).toInt.toNat q.2 q.2.length 8 24)
def zAm (f m : zM) (k n : Nat) (cs : List (Nat → Int32)) (c w : Nat) : Prop := (∀ i j, i < c → j < w → m k 0 (w * (n + i) + j) = (cs.getD i (fun _ => 0)) j) ∧ (∀ q, (q < w * n ∨ w * (n + c) ≤ q) → m k 0 q = f k 0 q)
theorem zAm_0 {f m : zM} {k n w : Nat} {cs : List (Nat → Int32)} (h : ∀ q, m k 0 q = f k 0 q) : zAm f m k n cs 0 w := ⟨fun i j hi => absurd hi (Nat.not_lt_zero i), fun q _ => h q⟩
theorem zAm_k {f m m2 : zM} {k n c w : Nat} {cs : List (Nat → Int32)} (h : zAm f m k n cs c w) (e : ∀ q, m2 k 0 q = m k 0 q) : zAm f m2 k n cs c w := ⟨fun i j hi hj => (e _).trans (h.1 i j hi hj), fun q hq => (e _).trans (h.2 q hq)⟩
theorem zAm_s6 {f m m2 : zM} {k n c : Nat} {cs : List (Nat → Int32)} (h : zAm f m k n cs c 6) (e1 : ∀ j, j < 6 → m2 k 0 (6 * (n + c) + j) = (cs.getD c (fun _ => 0)) j) (e2 : ∀ q, (q < 6 * (n + c) ∨ 6 * (n + c) + 6 ≤ q) → m2 k 0 q = m k 0 q) : zAm f m2 k n cs (c + 1) 6 := by
  refine ⟨fun i j hi hj => ?_, fun q hq => ?_⟩
  · by_cases qe : i = c
    · subst qe; exact e1 j hj
    · rw [e2 _ (by omega)]; exact h.1 i j (by omega) hj
  · rw [e2 _ (by omega)]; exact h.2 q (by omega)
theorem zAm_s8 {f m m2 : zM} {k n c : Nat} {cs : List (Nat → Int32)} (h : zAm f m k n cs c 8) (e1 : ∀ j, j < 8 → m2 k 0 (8 * (n + c) + j) = (cs.getD c (fun _ => 0)) j) (e2 : ∀ q, (q < 8 * (n + c) ∨ 8 * (n + c) + 8 ≤ q) → m2 k 0 q = m k 0 q) : zAm f m2 k n cs (c + 1) 8 := by
  refine ⟨fun i j hi hj => ?_, fun q hq => ?_⟩
  · by_cases qe : i = c
    · subst qe; exact e1 j hj
    · rw [e2 _ (by omega)]; exact h.1 i j (by omega) hj
  · rw [e2 _ (by omega)]; exact h.2 q (by omega)
def zKm (f m : zM) : Prop := m 25 0 0 = f 25 0 0 ∧ m 25 0 4 = f 25 0 4 ∧ (∀ q, m 26 0 q = f 26 0 q) ∧ (∀ q, m 28 0 q = f 28 0 q)
/-- the same for the reference -/
def zWm (f m : zM) (v : Int32) : Nat ⊕ (List (Nat → Int32) × List (Nat → Int32)) → Prop
  | .inl e => v.toInt = -20 - e ∧ zKm f m
  | .inr q => (¬ ((f 25 0 0).toInt + q.1.length ≤ 24 ∧ (f 25 0 4).toInt + q.2.length ≤ 12) ∧ v = -3 ∧ zKm f m) ∨ (((f 25 0 0).toInt + q.1.length ≤ 24 ∧ (f 25 0 4).toInt + q.2.length ≤ 12) ∧ v.toInt = q.1.length + q.2.length ∧ (m 25 0 0).toInt = (f 25 0 0).toInt + q.1.length ∧ (m 25 0 4).toInt = (f 25 0 4).toInt + q.2.length ∧ zAm f m 26 (f 25 0 0).toInt.toNat q.1 q.1.length 6 ∧ zAm f m 28 (f 25 0 4).toInt.toNat q.2 q.2.length 8)
/-- no paper of a tape names a CRIME -/
theorem zwd_p4 {cl : Nat → zR (Bool × (Nat → Int32))} {T : Nat → Int32} {n : Nat} (hc : ∀ p c q, cl p = .inr ((true, c), q) → c 4 = 0) : ∀ k p cs ps, zwd cl T n k p = .inr (cs, ps) → ∀ x, x ∈ ps → x 4 = 0
  | 0, p, cs, ps, h => by unfold zwd at h; cases h
  | k + 1, p, cs, ps, h => by
    unfold zwd at h
    rcases hx : cl p with e | ⟨⟨b, c⟩, q⟩
    · rw [hx] at h; simp only [zfin, zbd] at h; cases h
    · rw [hx] at h
      by_cases hf : zch T n (zsp T n q) = 59 ∨ zch T n (zsp T n q) = -1
      · rw [zfin_ok hf] at h
        simp only at h
        by_cases h1 : zch T n (zsp T n q) = -1
        · rw [if_pos h1] at h
          cases b
          · rw [if_neg (by decide)] at h
            injection h with h; injection h with h2 h3; subst h3
            intro x hx; cases hx
          · rw [if_pos rfl] at h
            injection h with h; injection h with h2 h3; subst h3
            intro x hq
            rw [List.mem_singleton] at hq
            subst hq
            exact hc p x q hx
        · rw [if_neg h1] at h
          by_cases hk : k = 0
          · rw [if_pos hk] at h; cases h
          · rw [if_neg hk] at h
            rcases hy : zwd cl T n k (zsp T n q + 1) with e | ⟨cs2, ps2⟩
            · rw [hy] at h; cases h
            · rw [hy] at h
              have ih := zwd_p4 hc k _ cs2 ps2 hy
              simp only at h
              cases b
              · rw [if_neg (by decide)] at h
                injection h with h; injection h with h2 h3; subst h3
                exact ih
              · rw [if_pos rfl] at h
                injection h with h; injection h with h2 h3; subst h3
                intro x hq
                rcases List.mem_cons.mp hq with hq | hq
                · subst hq; exact hc p x q hx
                · exact ih x hq
      · rw [zfin_bad _ (fun q => hf (Or.inl q)) (fun q => hf (Or.inr q))] at h; cases h
theorem zbd_r {α β : Type} {x : zR α} {k : α → Nat → zR β} {y : β × Nat} (h : zbd x k = .inr y) : ∃ a q, x = .inr (a, q) ∧ k a q = .inr y := by
  rcases x with e | ⟨a, q⟩
  · cases h
  · exact ⟨a, q, rfl, h⟩
theorem zPb_4 {pr : Nat → zR Int32} {T : Nat → Int32} {n : Nat} {kd fr to nn bars : Int32} {p q : Nat} {c : Nat → Int32} (h : zPb pr T n kd fr to nn bars p = .inr (c, q)) : c 4 = 0 := by
  unfold zPb at h
  obtain ⟨age, p4, _, h⟩ := zbd_r h
  obtain ⟨prm, p5, _, h⟩ := zbd_r h
  injection h with h; injection h with h1 h2; subst h1; rfl
theorem zclR_4 (T : Nat → Int32) (n : Nat) : ∀ p c q, zclR T n p = .inr ((true, c), q) → c 4 = 0 := by
  intro p c q h
  unfold zclR zCl at h
  obtain ⟨land, p1, _, h⟩ := zbd_r h
  by_cases h1 : zch T n (zsp T n p1) = 58
  · rw [if_pos h1] at h
    obtain ⟨x, y, _, h⟩ := zbd_r h
    injection h with h; injection h with h1 h2; injection h1 with h3 h4; cases h3
  · rw [if_neg h1] at h
    by_cases h2 : zch T n (zsp T n (zsp T n p1)) = 62
    · rw [if_pos h2] at h
      obtain ⟨x, y, hx, h⟩ := zbd_r h
      injection h with h; injection h with h1 h2; injection h1 with h3 h4; subst h4
      unfold zpaR zPaR at hx
      obtain ⟨to, p2, _, hx⟩ := zbd_r hx
      obtain ⟨kn, p3, _, hx⟩ := zbd_r hx
      obtain ⟨br, p4, _, hx⟩ := zbd_r hx
      exact zPb_4 hx
    · rw [if_neg h2] at h; cases h
theorem getD_mem {l : List (Nat → Int32)} {i : Nat} (h : i < l.length) : l.getD i (fun _ => 0) ∈ l := by
  rw [List.getD_eq_getElem?_getD, List.getElem?_eq_getElem h]; exact List.getElem_mem h

set_option maxRecDepth 100000 in
set_option maxHeartbeats 4000000 in
theorem e_X9_world (d : Nat) (f : zM) (T : Nat → Int32) (n : Nat) (hN : n ≤ 120) (h18 : f 18 0 3 = nI n) (hTp : ∀ i, i < n → f 19 0 i = T i) (hI : zInv f) : ZMs (d + 9) yX9_world cX9_world 3 (some .int) [zr 0 0] f (fun r g => (∃ v, r = some (zi v) ∧ zB v (-140) 12) ∧ zInv g ∧ zFr [(1, some 5), (1, some 7), (7, some 0), (7, some 1), (7, some 2), (7, some 3), (7, some 4), (7, some 5), (8, some 5), (8, some 6), (8, some 7), (9, none), (10, none), (11, some 0), (11, some 1), (11, some 2), (11, some 3), (11, some 4), (11, some 5), (11, some 6), (11, some 7), (18, some 3), (18, some 4), (18, some 5), (18, some 6), (18, some 7)] f g ∧ (∀ v : Int32, r = some (zi v) → zWx f g v (zwd (zclC T n) T n 12 0)) ∧ (∀ v : Int32, r = some (zi v) → (g 18 0 3).toInt = 0) ∧ (∀ v : Int32, r = some (zi v) → zRl f → zRl g)) := by
  refine ZMs.intro (by decide +kernel) (Nat.le_of_ble_eq_true rfl) ?_
  intro X C hr hn hT
  have hF : zFr [(1, some 5), (1, some 7), (7, some 0), (7, some 1), (7, some 2), (7, some 3), (7, some 4), (7, some 5), (8, some 5), (8, some 6), (8, some 7), (9, none), (10, none), (11, some 0), (11, some 1), (11, some 2), (11, some 3), (11, some 4), (11, some 5), (11, some 6), (11, some 7), (18, some 3), (18, some 4), (18, some 5), (18, some 6), (18, some 7)] f f := zFr.rf _ _
  have ct1_0_5 : zB (f 1 0 5) 0 24 := hI 1 0 5
  have ct1_1_5 : zB (f 1 1 5) 0 24 := hI 1 1 5
  have ct1_0_7 : zB (f 1 0 7) 0 12 := hI 1 0 7
  have ct1_1_7 : zB (f 1 1 7) 0 12 := hI 1 1 7
  have ct18_0_4 : zB (f 18 0 4) 0 12 := hI 18 0 4
  have ct18_0_5 : zB (f 18 0 5) 0 12 := hI 18 0 5
  have ct18_0_3 : zB (f 18 0 3) 0 120 := hI 18 0 3
  have J : ∀ t : Nat, (∀ a67_1 : Int32, zB a67_1 0 12 → ∀ a67_2 : Int32, zB a67_2 0 12 → ∀ g : zM, zInv g → zFr [(1, some 5), (1, some 7), (7, some 0), (7, some 1), (7, some 2), (7, some 3), (7, some 4), (7, some 5), (8, some 5), (8, some 6), (8, some 7), (9, none), (10, none), (11, some 0), (11, some 1), (11, some 2), (11, some 3), (11, some 4), (11, some 5), (11, some 6), (11, some 7), (18, some 3), (18, some 4), (18, some 5), (18, some 6), (18, some 7)] f g → zB (g 1 0 5) 0 24 → zB (g 1 0 7) 0 12 → zB (g 1 1 5) 0 24 → zB (g 1 1 7) 0 12 → zB (g 18 0 3) 0 0 → zB (g 18 0 4) 0 12 → zB (g 18 0 5) 0 12 → ((g 1 0 5).toInt + (g 18 0 4).toInt - a67_2.toInt ≤ 24) → ((g 1 0 7).toInt + (g 18 0 5).toInt ≤ 12) → ((g 18 0 3).toInt = 0) → ((g 1 1 5).toInt = (f 1 1 5).toInt) → ((g 1 1 7).toInt = (f 1 1 7).toInt) → ((g 1 0 5).toInt = (f 1 0 5).toInt + a67_2.toInt) → ((g 1 0 7).toInt = (f 1 0 7).toInt) → (a67_2.toInt ≤ (g 18 0 4).toInt) → (zRl f → zRl g) → (∃ cs ps, zwd (zclC T n) T n 12 0 = .inr (cs, ps) ∧ zSx g cs ps ∧ a67_1.toInt = cs.length + ps.length ∧ cs.length + ps.length ≤ 12 ∧ (f 1 0 5).toInt + cs.length ≤ 24 ∧ (f 1 0 7).toInt + ps.length ≤ 12 ∧ zAp f g 7 (f 1 0 5).toInt.toNat cs (a67_2.toInt.toNat) 6 48 ∧ (∀ x j, x < 24 → j < 8 → g 11 x j = f 11 x j)) → (53 + 56 * (12 - a67_2.toInt) : Int) < t → Z X 67 [some (zr 0 0), some (zi a67_1), some (zi a67_2)] [] g) ∧ (∀ a121_1 : Int32, zB a121_1 0 12 → ∀ a121_2 : Int32, zB a121_2 0 12 → ∀ g : zM, zInv g → zFr [(1, some 5), (1, some 7), (7, some 0), (7, some 1), (7, some 2), (7, some 3), (7, some 4), (7, some 5), (8, some 5), (8, some 6), (8, some 7), (9, none), (10, none), (11, some 0), (11, some 1), (11, some 2), (11, some 3), (11, some 4), (11, some 5), (11, some 6), (11, some 7), (18, some 3), (18, some 4), (18, some 5), (18, some 6), (18, some 7)] f g → zB (g 1 0 5) 0 24 → zB (g 1 0 7) 0 12 → zB (g 1 1 5) 0 24 → zB (g 1 1 7) 0 12 → zB (g 18 0 3) 0 0 → zB (g 18 0 4) 0 12 → zB (g 18 0 5) 0 12 → ((g 1 0 7).toInt + (g 18 0 5).toInt - a121_2.toInt ≤ 12) → ((g 18 0 3).toInt = 0) → ((g 1 1 5).toInt = (f 1 1 5).toInt) → ((g 1 1 7).toInt = (f 1 1 7).toInt) → ((g 1 0 5).toInt = (f 1 0 5).toInt + (g 18 0 4).toInt) → ((g 1 0 7).toInt = (f 1 0 7).toInt + a121_2.toInt) → (a121_2.toInt ≤ (g 18 0 5).toInt) → (zRl f → zRl g) → (∃ cs ps, zwd (zclC T n) T n 12 0 = .inr (cs, ps) ∧ zSx g cs ps ∧ a121_1.toInt = cs.length + ps.length ∧ cs.length + ps.length ≤ 12 ∧ (f 1 0 5).toInt + cs.length ≤ 24 ∧ (f 1 0 7).toInt + ps.length ≤ 12 ∧ zAp f g 7 (f 1 0 5).toInt.toNat cs cs.length 6 48 ∧ zAp f g 11 (f 1 0 7).toInt.toNat ps (a121_2.toInt.toNat) 8 24) → (0 + 4 * (12 - a121_2.toInt) : Int) < t → Z X 121 [some (zr 0 0), some (zi a121_1), some (zi a121_2)] [] g) := by
    intro t
    induction t with
    | zero =>
      refine ⟨?_, ?_⟩ <;> (intros; exfalso; omega)
    | succ t ih =>
      obtain ⟨ih0, ih1⟩ := ih
      refine ⟨?_, ?_⟩
      · skip
        intro a67_1 b67_1 a67_2 b67_2 g67_ hI67_ hF67_ f67_1_0_5 f67_1_0_7 f67_1_1_5 f67_1_1_7 f67_18_0_3 f67_18_0_4 f67_18_0_5 hR67_0 hR67_1 hR67_2 hR67_3 hR67_4 hR67_5 hR67_6 hR67_7 hR67_8 hR67_9 hM67_
        obtain ⟨cs, ps, hW, hS, hv, hl, hc1, hc2, hA, hK⟩ := hR67_9
        have t4 : (g67_ 18 0 4).toInt = (cs.length : Int) := by rw [hS.1]; exact nI_toInt (by omega)
        have t5 : (g67_ 18 0 5).toInt = (ps.length : Int) := by rw [hS.2.1]; exact nI_toInt (by omega)
        refine z_iload_n (pc := 67) C dX9_world_67 rfl ?_
        refine z_aload_n (pc := 68) C dX9_world_68 rfl ?_
        refine z_getR (pc := 69) C zf_X9_31 rfl rfl (by decide) dX9_world_69 ?_
        refine z_getI (pc := 72) C zf_X9_118 rfl rfl (by decide) dX9_world_72 ?_
        refine w_gp (fun v => v = g67_ 18 0 4) rfl (fun v1 q1 => ?_)
        have e1 : v1.toInt = (g67_ 18 0 4).toInt := by rw [q1]
        have b1x : zB v1 0 12 := by first | exact zB.eqv e1 f67_18_0_4 | (have q9 := f67_18_0_4; constructor <;> omega)
        refine z_icmp_ge (pc := 75) 119 C dX9_world_75 (by decide) (fun h75_1 => ?_) (fun h75_1 => ?_)
        · skip
          have rr3 : a67_2.toInt ≥ v1.toInt := by simp only [z32lt, z32le, z32eq] at h75_1; omega
          refine z_iconst (pc := 119) (v := 0) C dX9_world_119 (by decide) ?_
          refine z_istore_n (pc := 120) C dX9_world_120 (by rw [hn]; decide) rfl ?_
          exact ih1 a67_1 b67_1 0 (zB.wk (a' := 0) (b' := 12) (zB.of (x := 0) 0 (by decide)) (by decide) (by decide)) g67_ hI67_ hF67_ f67_1_0_5 f67_1_0_7 f67_1_1_5 f67_1_1_7 f67_18_0_3 f67_18_0_4 f67_18_0_5 (by have qc0 : (0 : Int32).toInt = 0 := (by decide); omega) (by have qc0 : (0 : Int32).toInt = 0 := (by decide); omega) (by have qc0 : (0 : Int32).toInt = 0 := (by decide); omega) (by have qc0 : (0 : Int32).toInt = 0 := (by decide); omega) (by have qc0 : (0 : Int32).toInt = 0 := (by decide); omega) (by have qc0 : (0 : Int32).toInt = 0 := (by decide); omega) (by have qc0 : (0 : Int32).toInt = 0 := (by decide); omega) (by exact hR67_8) (by
                                                                                          refine ⟨cs, ps, hW, hS, hv, hl, hc1, hc2, ?_, zAp_0 hK⟩
                                                                                          have hz : cs.length = a67_2.toInt.toNat := by omega
                                                                                          rw [hz]; exact hA) (by have qc0 : (0 : Int32).toInt = 0 := (by decide); omega)
        · skip
          have rr4 : a67_2.toInt < v1.toInt := by simp only [z32lt, z32le, z32eq] at h75_1; omega
          have b5x : zB a67_2 0 11 := by have q1 := b67_2; have q2 := b1x; simp only [z32lt, z32le, z32eq, Int32.reduceToInt, Int32.toInt_zero] at h75_1; constructor <;> omega
          have b6x : zB v1 1 12 := by have q1 := b67_2; have q2 := b1x; simp only [z32lt, z32le, z32eq, Int32.reduceToInt, Int32.toInt_zero] at h75_1; constructor <;> omega
          have c7x : zB (g67_ 18 0 4) 1 12 := by first | assumption | (constructor <;> omega)
          have c8x : zB (g67_ 1 0 5) 0 23 := by first | assumption | (constructor <;> omega)
          refine z_aload_n (pc := 78) C dX9_world_78 rfl ?_
          refine z_getR (pc := 79) C zf_X9_10 rfl rfl (by decide) dX9_world_79 ?_
          refine z_getR (pc := 82) C zf_X9_54 rfl rfl (by decide) dX9_world_82 ?_
          refine z_aload_n (pc := 85) C dX9_world_85 rfl ?_
          refine z_getR (pc := 86) C zf_X9_10 rfl rfl (by decide) dX9_world_86 ?_
          refine z_getI (pc := 89) C zf_X9_50 rfl rfl (by decide) dX9_world_89 ?_
          refine w_gp (fun v => v = g67_ 1 0 5) rfl (fun v9 q9 => ?_)
          have e9 : v9.toInt = (g67_ 1 0 5).toInt := by rw [q9]
          have b9x : zB v9 0 23 := by first | exact zB.eqv e9 c8x | (have q9 := c8x; constructor <;> omega)
          refine z_aald (pc := 92) C rfl ⟨rfl, by decide⟩ (by decide) (zIx b9x (by decide) (by decide)) dX9_world_92 ?_
          refine w_grx (by have hq := zN b9x (by decide); show 24 * 0 + v9.toNatClampNeg < 60; omega) (fun m10 q10r h10x => ?_)
          have q10r : m10 = 24 * 0 + v9.toNatClampNeg := q10r
          have k10r : v9.toNatClampNeg = v9.toInt.toNat := rfl
          refine z_aload_n (pc := 93) C dX9_world_93 rfl ?_
          refine z_getR (pc := 94) C zf_X9_31 rfl rfl (by decide) dX9_world_94 ?_
          refine z_getR (pc := 97) C zf_X9_123 rfl rfl (by decide) dX9_world_97 ?_
          refine z_iload_n (pc := 100) C dX9_world_100 rfl ?_
          refine z_aald (pc := 101) C rfl ⟨rfl, by decide⟩ (by decide) (zIx b5x (by decide) (by decide)) dX9_world_101 ?_
          refine w_grx (by have hq := zN b5x (by decide); show 48 + a67_2.toNatClampNeg < 60; omega) (fun m11 q11r h11x => ?_)
          have q11r : m11 = 48 + a67_2.toNatClampNeg := q11r
          have k11r : a67_2.toNatClampNeg = a67_2.toInt.toNat := rfl
          refine z_callV (pc := 102) C zk_X9_124 (x_X0_copy _ _ m10 h10x m11 h11x hI67_) rfl rfl h10x rfl rfl (Nat.le_of_ble_eq_true rfl) dX9_world_102 (fun r12 g12 q12 => ?_)
          obtain ⟨rfl, hI12, hF12q, hp12_0, hp12_1⟩ := q12
          have hF12 := zFr.tr hF67_ hF12q (by decide)
          simp only [Option.toList, List.cons_append, List.nil_append]
          have ek12_1_0_5 : (g12 1 0 5).toInt = (g67_ 1 0 5).toInt := by rw [hF12q 1 0 5 rfl]
          have c12_1_0_5x : zB (g12 1 0 5) 0 23 := by rw [hF12q 1 0 5 rfl]; exact c8x
          have ek12_1_1_5 : (g12 1 1 5).toInt = (g67_ 1 1 5).toInt := by rw [hF12q 1 1 5 rfl]
          have c12_1_1_5x : zB (g12 1 1 5) 0 24 := by rw [hF12q 1 1 5 rfl]; exact f67_1_1_5
          have ek12_1_0_7 : (g12 1 0 7).toInt = (g67_ 1 0 7).toInt := by rw [hF12q 1 0 7 rfl]
          have c12_1_0_7x : zB (g12 1 0 7) 0 12 := by rw [hF12q 1 0 7 rfl]; exact f67_1_0_7
          have ek12_1_1_7 : (g12 1 1 7).toInt = (g67_ 1 1 7).toInt := by rw [hF12q 1 1 7 rfl]
          have c12_1_1_7x : zB (g12 1 1 7) 0 12 := by rw [hF12q 1 1 7 rfl]; exact f67_1_1_7
          have ek12_18_0_4 : (g12 18 0 4).toInt = (g67_ 18 0 4).toInt := by rw [hF12q 18 0 4 rfl]
          have c12_18_0_4x : zB (g12 18 0 4) 1 12 := by rw [hF12q 18 0 4 rfl]; exact c7x
          have ek12_18_0_5 : (g12 18 0 5).toInt = (g67_ 18 0 5).toInt := by rw [hF12q 18 0 5 rfl]
          have c12_18_0_5x : zB (g12 18 0 5) 0 12 := by rw [hF12q 18 0 5 rfl]; exact f67_18_0_5
          have ek12_18_0_3 : (g12 18 0 3).toInt = (g67_ 18 0 3).toInt := by rw [hF12q 18 0 3 rfl]
          have c12_18_0_3x : zB (g12 18 0 3) 0 0 := by rw [hF12q 18 0 3 rfl]; exact f67_18_0_3
          refine z_aload_n (pc := 105) C dX9_world_105 rfl ?_
          refine z_getR (pc := 106) C zf_X9_10 rfl rfl (by decide) dX9_world_106 ?_
          refine z_callV (pc := 109) C zk_X9_64 (x_X8_takeCrime _ _ c12_1_0_5x hI12) rfl rfl (by decide) rfl rfl (Nat.le_of_ble_eq_true rfl) dX9_world_109 (fun r13 g13 q13 => ?_)
          obtain ⟨⟨v13, rfl, b13x⟩, hI13, hF13q, hp13_0, hp13_1, hp13_2, hp13_3, hp13_4, hp13_5⟩ := q13
          have hp13_0 := hp13_0 _ rfl
          have hp13_1 := hp13_1 _ rfl
          have hp13_2 := hp13_2 _ rfl
          have hp13_3 := hp13_3 _ rfl
          have hp13_4 := hp13_4 _ rfl
          have hp13_5 := hp13_5 _ rfl
          have hF13 := zFr.tr hF12 hF13q (by decide)
          simp only [Option.toList, List.cons_append, List.nil_append]
          have cr13_1_0_5 : zB (g13 1 0 5) 0 24 := hI13 1 0 5
          have cr13_1_1_5 : zB (g13 1 1 5) 0 24 := hI13 1 1 5
          have ek13_1_0_7 : (g13 1 0 7).toInt = (g12 1 0 7).toInt := by rw [hF13q 1 0 7 rfl]
          have c13_1_0_7x : zB (g13 1 0 7) 0 12 := by rw [hF13q 1 0 7 rfl]; exact c12_1_0_7x
          have ek13_1_1_7 : (g13 1 1 7).toInt = (g12 1 1 7).toInt := by rw [hF13q 1 1 7 rfl]
          have c13_1_1_7x : zB (g13 1 1 7) 0 12 := by rw [hF13q 1 1 7 rfl]; exact c12_1_1_7x
          have ek13_18_0_4 : (g13 18 0 4).toInt = (g12 18 0 4).toInt := by rw [hF13q 18 0 4 rfl]
          have c13_18_0_4x : zB (g13 18 0 4) 1 12 := by rw [hF13q 18 0 4 rfl]; exact c12_18_0_4x
          have ek13_18_0_5 : (g13 18 0 5).toInt = (g12 18 0 5).toInt := by rw [hF13q 18 0 5 rfl]
          have c13_18_0_5x : zB (g13 18 0 5) 0 12 := by rw [hF13q 18 0 5 rfl]; exact c12_18_0_5x
          have ek13_18_0_3 : (g13 18 0 3).toInt = (g12 18 0 3).toInt := by rw [hF13q 18 0 3 rfl]
          have c13_18_0_3x : zB (g13 18 0 3) 0 0 := by rw [hF13q 18 0 3 rfl]; exact c12_18_0_3x
          refine z_pop (pc := 112) C dX9_world_112 ?_
          refine z_iinc (pc := 113) (v := 1) C dX9_world_113 rfl (by decide) (by rw [hn]; decide) rfl ?_
          obtain ⟨v14, hv14, e14⟩ : ∃ v : Int32, v = a67_2 + 1 ∧ v.toInt = a67_2.toInt + 1 := ⟨_, rfl, zadd_eb b5x (zB.of (x := 1) 1 (by decide)) (by decide) (by decide)⟩
          rw [← hv14]
          have b14x : zB v14 1 12 := by have q9 := b5x; constructor <;> omega
          refine z_goto (pc := 116) 67 C dX9_world_116 (by decide) ?_
          exact ih0 a67_1 b67_1 v14 (zB.wk (a' := 0) (b' := 12) b14x (by decide) (by decide)) g13 hI13 hF13 cr13_1_0_5 c13_1_0_7x cr13_1_1_5 c13_1_1_7x c13_18_0_3x (zB.wk c13_18_0_4x (by decide) (by decide)) c13_18_0_5x (by omega) (by omega) (by omega) (by omega) (by omega) (by omega) (by omega) (by omega) (by
                                                                                          intro hL
                                                                                          have hm0 : m10 = (f 1 0 5).toInt.toNat + a67_2.toInt.toNat := by omega
                                                                                          have c1 := hp12_1
                                                                                          rw [hm0] at c1
                                                                                          exact zRl_add hI67_ (hR67_8 hL) (hF12q 1 0 5 rfl) (hF12q 1 0 6 rfl) (fun k j hk hj => c1 k j (by omega)) (fun n j => hF12q 8 n j rfl) (fun n j => hF12q 9 n j rfl) (fun n j => hF12q 10 n j rfl) hp13_5 hp13_3 (hF13q 1 0 6 rfl) (fun k j => hF13q 7 k j rfl)) (by
                                                                                          have hm0 : m10 = (f 1 0 5).toInt.toNat + a67_2.toInt.toNat := by omega
                                                                                          have hm1 : m11 = 48 + a67_2.toInt.toNat := by omega
                                                                                          have c0 := hp12_0
                                                                                          have c1 := hp12_1
                                                                                          rw [hm0] at c0 c1
                                                                                          rw [hm1] at c0
                                                                                          have hn : (v14).toInt.toNat = a67_2.toInt.toNat + 1 := by omega
                                                                                          have k7 : ∀ x j, g13 7 x j = g12 7 x j := fun x j => hF13q 7 x j rfl
                                                                                          rw [hn]
                                                                                          refine ⟨cs, ps, hW, ?_, hv, hl, hc1, hc2, zAp_s hA ?_ ?_, ?_⟩
                                                                                          · obtain ⟨s1, s2, s3, s4⟩ := hS
                                                                                            exact ⟨((hF13q 18 0 4 rfl).trans (hF12q 18 0 4 rfl)).trans s1, ((hF13q 18 0 5 rfl).trans (hF12q 18 0 5 rfl)).trans s2, fun i j hi hj => by rw [k7, c1 (48 + i) j (by omega)]; exact s3 i j hi hj, fun i j hi hj => ((hF13q 11 (24 + i) j rfl).trans (hF12q 11 (24 + i) j rfl)).trans (s4 i j hi hj)⟩
                                                                                          · intro j hj; rw [k7, c0 j hj]; exact hS.2.2.1 _ j (by omega) hj
                                                                                          · intro x j hx hj; rw [k7]; exact c1 x j hx
                                                                                          · intro x j hx hj; exact ((hF13q 11 x j rfl).trans (hF12q 11 x j rfl)).trans (hK x j hx hj)) (by omega)
      · skip
        intro a121_1 b121_1 a121_2 b121_2 g121_ hI121_ hF121_ f121_1_0_5 f121_1_0_7 f121_1_1_5 f121_1_1_7 f121_18_0_3 f121_18_0_4 f121_18_0_5 hR121_0 hR121_1 hR121_2 hR121_3 hR121_4 hR121_5 hR121_6 hR121_7 hR121_8 hM121_
        obtain ⟨cs, ps, hW, hS, hv, hl, hc1, hc2, hA, hB⟩ := hR121_8
        have t4 : (g121_ 18 0 4).toInt = (cs.length : Int) := by rw [hS.1]; exact nI_toInt (by omega)
        have t5 : (g121_ 18 0 5).toInt = (ps.length : Int) := by rw [hS.2.1]; exact nI_toInt (by omega)
        refine z_iload_n (pc := 121) C dX9_world_121 rfl ?_
        refine z_aload_n (pc := 122) C dX9_world_122 rfl ?_
        refine z_getR (pc := 123) C zf_X9_31 rfl rfl (by decide) dX9_world_123 ?_
        refine z_getI (pc := 126) C zf_X9_122 rfl rfl (by decide) dX9_world_126 ?_
        refine w_gp (fun v => v = g121_ 18 0 5) rfl (fun v15 q15 => ?_)
        have e15 : v15.toInt = (g121_ 18 0 5).toInt := by rw [q15]
        have b15x : zB v15 0 12 := by first | exact zB.eqv e15 f121_18_0_5 | (have q9 := f121_18_0_5; constructor <;> omega)
        refine z_icmp_ge (pc := 129) 173 C dX9_world_129 (by decide) (fun h129_15 => ?_) (fun h129_15 => ?_)
        · skip
          have rr17 : a121_2.toInt ≥ v15.toInt := by simp only [z32lt, z32le, z32eq] at h129_15; omega
          refine z_iload_n (pc := 173) C dX9_world_173 rfl ?_
          exact z_iret (pc := 174) C hr dX9_world_174 ⟨⟨_, rfl, (zB.wk (a' := (-140)) (b' := 12) b121_1 (by decide) (by decide))⟩, hI121_, hF121_, (by
                                                                                          intro v hv; cases hv
                                                                                          rw [hW]
                                                                                          simp only [zWx]
                                                                                          have hz : ps.length = a121_2.toInt.toNat := by omega
                                                                                          refine Or.inr ⟨⟨by omega, by omega⟩, by omega, by omega, by omega, by rw [z32eq]; omega, by rw [z32eq]; omega, hA, ?_⟩
                                                                                          rw [hz]
                                                                                          exact hB), (by intro v hv; cases hv; omega), (by intro v hv; cases hv; exact hR121_7)⟩
        · skip
          have rr18 : a121_2.toInt < v15.toInt := by simp only [z32lt, z32le, z32eq] at h129_15; omega
          have b19x : zB a121_2 0 11 := by have q1 := b121_2; have q2 := b15x; simp only [z32lt, z32le, z32eq, Int32.reduceToInt, Int32.toInt_zero] at h129_15; constructor <;> omega
          have b20x : zB v15 1 12 := by have q1 := b121_2; have q2 := b15x; simp only [z32lt, z32le, z32eq, Int32.reduceToInt, Int32.toInt_zero] at h129_15; constructor <;> omega
          have c21x : zB (g121_ 18 0 5) 1 12 := by first | assumption | (constructor <;> omega)
          have c22x : zB (g121_ 1 0 7) 0 11 := by first | assumption | (constructor <;> omega)
          refine z_aload_n (pc := 132) C dX9_world_132 rfl ?_
          refine z_getR (pc := 133) C zf_X9_10 rfl rfl (by decide) dX9_world_133 ?_
          refine z_getR (pc := 136) C zf_X9_90 rfl rfl (by decide) dX9_world_136 ?_
          refine z_aload_n (pc := 139) C dX9_world_139 rfl ?_
          refine z_getR (pc := 140) C zf_X9_10 rfl rfl (by decide) dX9_world_140 ?_
          refine z_getI (pc := 143) C zf_X9_119 rfl rfl (by decide) dX9_world_143 ?_
          refine w_gp (fun v => v = g121_ 1 0 7) rfl (fun v23 q23 => ?_)
          have e23 : v23.toInt = (g121_ 1 0 7).toInt := by rw [q23]
          have b23x : zB v23 0 11 := by first | exact zB.eqv e23 c22x | (have q9 := c22x; constructor <;> omega)
          refine z_aald (pc := 146) C rfl ⟨rfl, by decide⟩ (by decide) (zIx b23x (by decide) (by decide)) dX9_world_146 ?_
          refine w_grx (by have hq := zN b23x (by decide); show 12 * 0 + v23.toNatClampNeg < 36; omega) (fun m24 q24r h24x => ?_)
          have q24r : m24 = 12 * 0 + v23.toNatClampNeg := q24r
          have k24r : v23.toNatClampNeg = v23.toInt.toNat := rfl
          refine z_aload_n (pc := 147) C dX9_world_147 rfl ?_
          refine z_getR (pc := 148) C zf_X9_31 rfl rfl (by decide) dX9_world_148 ?_
          refine z_getR (pc := 151) C zf_X9_128 rfl rfl (by decide) dX9_world_151 ?_
          refine z_iload_n (pc := 154) C dX9_world_154 rfl ?_
          refine z_aald (pc := 155) C rfl ⟨rfl, by decide⟩ (by decide) (zIx b19x (by decide) (by decide)) dX9_world_155 ?_
          refine w_grx (by have hq := zN b19x (by decide); show 24 + a121_2.toNatClampNeg < 36; omega) (fun m25 q25r h25x => ?_)
          have q25r : m25 = 24 + a121_2.toNatClampNeg := q25r
          have k25r : a121_2.toNatClampNeg = a121_2.toInt.toNat := rfl
          refine z_callV (pc := 156) C zk_X9_129 (x_X4_copy _ _ m24 h24x m25 h25x (by omega) hI121_) rfl rfl h24x rfl rfl (Nat.le_of_ble_eq_true rfl) dX9_world_156 (fun r26 g26 q26 => ?_)
          obtain ⟨rfl, hI26, hF26q, hp26_0, hp26_1⟩ := q26
          have hF26 := zFr.tr hF121_ hF26q (by decide)
          simp only [Option.toList, List.cons_append, List.nil_append]
          have ek26_1_0_5 : (g26 1 0 5).toInt = (g121_ 1 0 5).toInt := by rw [hF26q 1 0 5 rfl]
          have c26_1_0_5x : zB (g26 1 0 5) 0 24 := by rw [hF26q 1 0 5 rfl]; exact f121_1_0_5
          have ek26_1_1_5 : (g26 1 1 5).toInt = (g121_ 1 1 5).toInt := by rw [hF26q 1 1 5 rfl]
          have c26_1_1_5x : zB (g26 1 1 5) 0 24 := by rw [hF26q 1 1 5 rfl]; exact f121_1_1_5
          have ek26_1_0_7 : (g26 1 0 7).toInt = (g121_ 1 0 7).toInt := by rw [hF26q 1 0 7 rfl]
          have c26_1_0_7x : zB (g26 1 0 7) 0 11 := by rw [hF26q 1 0 7 rfl]; exact c22x
          have ek26_1_1_7 : (g26 1 1 7).toInt = (g121_ 1 1 7).toInt := by rw [hF26q 1 1 7 rfl]
          have c26_1_1_7x : zB (g26 1 1 7) 0 12 := by rw [hF26q 1 1 7 rfl]; exact f121_1_1_7
          have ek26_18_0_4 : (g26 18 0 4).toInt = (g121_ 18 0 4).toInt := by rw [hF26q 18 0 4 rfl]
          have c26_18_0_4x : zB (g26 18 0 4) 0 12 := by rw [hF26q 18 0 4 rfl]; exact f121_18_0_4
          have ek26_18_0_5 : (g26 18 0 5).toInt = (g121_ 18 0 5).toInt := by rw [hF26q 18 0 5 rfl]
          have c26_18_0_5x : zB (g26 18 0 5) 1 12 := by rw [hF26q 18 0 5 rfl]; exact c21x
          have ek26_18_0_3 : (g26 18 0 3).toInt = (g121_ 18 0 3).toInt := by rw [hF26q 18 0 3 rfl]
          have c26_18_0_3x : zB (g26 18 0 3) 0 0 := by rw [hF26q 18 0 3 rfl]; exact f121_18_0_3
          refine z_aload_n (pc := 159) C dX9_world_159 rfl ?_
          refine z_getR (pc := 160) C zf_X9_10 rfl rfl (by decide) dX9_world_160 ?_
          refine z_callV (pc := 163) C zk_X9_132 (x_X8_takePaper _ _ c26_1_0_7x hI26) rfl rfl (by decide) rfl rfl (Nat.le_of_ble_eq_true rfl) dX9_world_163 (fun r27 g27 q27 => ?_)
          obtain ⟨⟨v27, rfl, b27x⟩, hI27, hF27q, hp27_0, hp27_1, hp27_2, hp27_3⟩ := q27
          have hp27_0 := hp27_0 _ rfl
          have hp27_1 := hp27_1 _ rfl
          have hp27_2 := hp27_2 _ rfl
          have hp27_3 := hp27_3 _ rfl
          have hF27 := zFr.tr hF26 hF27q (by decide)
          simp only [Option.toList, List.cons_append, List.nil_append]
          have ek27_1_0_5 : (g27 1 0 5).toInt = (g26 1 0 5).toInt := by rw [hF27q 1 0 5 rfl]
          have c27_1_0_5x : zB (g27 1 0 5) 0 24 := by rw [hF27q 1 0 5 rfl]; exact c26_1_0_5x
          have ek27_1_1_5 : (g27 1 1 5).toInt = (g26 1 1 5).toInt := by rw [hF27q 1 1 5 rfl]
          have c27_1_1_5x : zB (g27 1 1 5) 0 24 := by rw [hF27q 1 1 5 rfl]; exact c26_1_1_5x
          have cr27_1_0_7 : zB (g27 1 0 7) 0 12 := hI27 1 0 7
          have cr27_1_1_7 : zB (g27 1 1 7) 0 12 := hI27 1 1 7
          have ek27_18_0_4 : (g27 18 0 4).toInt = (g26 18 0 4).toInt := by rw [hF27q 18 0 4 rfl]
          have c27_18_0_4x : zB (g27 18 0 4) 0 12 := by rw [hF27q 18 0 4 rfl]; exact c26_18_0_4x
          have ek27_18_0_5 : (g27 18 0 5).toInt = (g26 18 0 5).toInt := by rw [hF27q 18 0 5 rfl]
          have c27_18_0_5x : zB (g27 18 0 5) 1 12 := by rw [hF27q 18 0 5 rfl]; exact c26_18_0_5x
          have ek27_18_0_3 : (g27 18 0 3).toInt = (g26 18 0 3).toInt := by rw [hF27q 18 0 3 rfl]
          have c27_18_0_3x : zB (g27 18 0 3) 0 0 := by rw [hF27q 18 0 3 rfl]; exact c26_18_0_3x
          refine z_pop (pc := 166) C dX9_world_166 ?_
          refine z_iinc (pc := 167) (v := 1) C dX9_world_167 rfl (by decide) (by rw [hn]; decide) rfl ?_
          obtain ⟨v28, hv28, e28⟩ : ∃ v : Int32, v = a121_2 + 1 ∧ v.toInt = a121_2.toInt + 1 := ⟨_, rfl, zadd_eb b19x (zB.of (x := 1) 1 (by decide)) (by decide) (by decide)⟩
          rw [← hv28]
          have b28x : zB v28 1 12 := by have q9 := b19x; constructor <;> omega
          refine z_goto (pc := 170) 121 C dX9_world_170 (by decide) ?_
          exact ih1 a121_1 b121_1 v28 (zB.wk (a' := 0) (b' := 12) b28x (by decide) (by decide)) g27 hI27 hF27 c27_1_0_5x cr27_1_0_7 c27_1_1_5x cr27_1_1_7 c27_18_0_3x c27_18_0_4x (zB.wk c27_18_0_5x (by decide) (by decide)) (by omega) (by omega) (by omega) (by omega) (by omega) (by omega) (by omega) (by
                                                                                          intro hL
                                                                                          exact zRl_k (hR121_7 hL) ((hF27q 1 0 6 rfl).trans (hF26q 1 0 6 rfl)) ((hF27q 1 0 5 rfl).trans (hF26q 1 0 5 rfl)) hI121_ (fun x j _ _ => (hF27q 7 x j rfl).trans (hF26q 7 x j rfl)) (fun i j _ _ => (hF27q 8 i j rfl).trans (hF26q 8 i j rfl)) (fun i l _ _ => (hF27q 9 i l rfl).trans (hF26q 9 i l rfl)) (fun i l _ _ => (hF27q 10 i l rfl).trans (hF26q 10 i l rfl))) (by
                                                                                          have hm0 : m24 = (f 1 0 7).toInt.toNat + a121_2.toInt.toNat := by omega
                                                                                          have hm1 : m25 = 24 + a121_2.toInt.toNat := by omega
                                                                                          have c0 := hp26_0
                                                                                          have c1 := hp26_1
                                                                                          rw [hm0] at c0 c1
                                                                                          rw [hm1] at c0
                                                                                          have hn : (v28).toInt.toNat = a121_2.toInt.toNat + 1 := by omega
                                                                                          have k11 : ∀ x j, g27 11 x j = g26 11 x j := fun x j => hF27q 11 x j rfl
                                                                                          rw [hn]
                                                                                          refine ⟨cs, ps, hW, ?_, hv, hl, hc1, hc2, zAp_k hA (fun x j _ => (hF27q 7 x j rfl).trans (hF26q 7 x j rfl)), zAp_s hB ?_ ?_⟩
                                                                                          · obtain ⟨s1, s2, s3, s4⟩ := hS
                                                                                            exact ⟨((hF27q 18 0 4 rfl).trans (hF26q 18 0 4 rfl)).trans s1, ((hF27q 18 0 5 rfl).trans (hF26q 18 0 5 rfl)).trans s2, fun i j hi hj => ((hF27q 7 (48 + i) j rfl).trans (hF26q 7 (48 + i) j rfl)).trans (s3 i j hi hj), fun i j hi hj => by rw [k11, c1 (24 + i) j (by omega)]; exact s4 i j hi hj⟩
                                                                                          · intro j hj; rw [k11, c0 j hj]; exact hS.2.2.2 _ j (by omega) hj
                                                                                          · intro x j hx hj; rw [k11]; exact c1 x j hx) (by omega)
  obtain ⟨J0, J1⟩ := J 793
  show Z X 0 [some (zr 0 0), none, none] [] f
  refine z_aload_n (pc := 0) C dX9_world_0 rfl ?_
  refine z_getR (pc := 1) C zf_X9_31 rfl rfl (by decide) dX9_world_1 ?_
  refine z_callVS (pc := 4) C hT zk_X9_115 (e_X7_parse _ _ T n hN h18 hTp hI) rfl rfl (by decide) rfl rfl (Nat.le_of_ble_eq_true rfl) dX9_world_4 (fun r29 g29 q29 => ?_)
  obtain ⟨⟨v29, rfl, b29x⟩, hI29, hF29q, pa, p7, p11⟩ := q29
  have pa := pa _ rfl
  have p7 := p7 _ rfl
  have p11 := p11 _ rfl
  have hF29 := zFr.tr hF hF29q (by decide)
  simp only [Option.toList, List.cons_append, List.nil_append]
  have ek29_1_0_5 : (g29 1 0 5).toInt = (f 1 0 5).toInt := by rw [hF29q 1 0 5 rfl]
  have c29_1_0_5x : zB (g29 1 0 5) 0 24 := by rw [hF29q 1 0 5 rfl]; exact ct1_0_5
  have ek29_1_1_5 : (g29 1 1 5).toInt = (f 1 1 5).toInt := by rw [hF29q 1 1 5 rfl]
  have c29_1_1_5x : zB (g29 1 1 5) 0 24 := by rw [hF29q 1 1 5 rfl]; exact ct1_1_5
  have ek29_1_0_7 : (g29 1 0 7).toInt = (f 1 0 7).toInt := by rw [hF29q 1 0 7 rfl]
  have c29_1_0_7x : zB (g29 1 0 7) 0 12 := by rw [hF29q 1 0 7 rfl]; exact ct1_0_7
  have ek29_1_1_7 : (g29 1 1 7).toInt = (f 1 1 7).toInt := by rw [hF29q 1 1 7 rfl]
  have c29_1_1_7x : zB (g29 1 1 7) 0 12 := by rw [hF29q 1 1 7 rfl]; exact ct1_1_7
  have cr29_18_0_4 : zB (g29 18 0 4) 0 12 := hI29 18 0 4
  have cr29_18_0_5 : zB (g29 18 0 5) 0 12 := hI29 18 0 5
  have ek29_18_0_3 : (g29 18 0 3).toInt = (f 18 0 3).toInt := by rw [hF29q 18 0 3 rfl]
  have c29_18_0_3x : zB (g29 18 0 3) 0 120 := by rw [hF29q 18 0 3 rfl]; exact ct18_0_3
  rcases pa with ⟨e, hW, he, hv⟩ | ⟨cs, ps, hW, hv, hl, hS⟩
  · skip
    have b29y : zB v29 (-140) (-20) := by first | assumption | (constructor <;> omega)
    refine z_istore_n (pc := 7) C dX9_world_7 (by rw [hn]; decide) rfl ?_
    refine z_aload_n (pc := 8) C dX9_world_8 rfl ?_
    refine z_getR (pc := 9) C zf_X9_31 rfl rfl (by decide) dX9_world_9 ?_
    refine z_iconst (pc := 12) (v := 0) C dX9_world_12 (by decide) ?_
    refine z_putI (pc := 13) C zf_X9_108 zp_7_3 rfl rfl (by decide) dX9_world_13 ?_
    refine w_memx hI29 hF29 (zB.wk (a' := 0) (b' := 120) (zB.of (x := 0) 0 (by decide)) (by decide) (by decide)) rfl (fun g30 qm30 hI30 hF30 hq30 hx30 => ?_)
    have ek30_1_0_5 : (g30 1 0 5).toInt = (g29 1 0 5).toInt := by rw [hq30 1 0 5 (by omega)]
    have c30_1_0_5x : zB (g30 1 0 5) 0 24 := by rw [hq30 1 0 5 (by omega)]; exact c29_1_0_5x
    have ek30_1_1_5 : (g30 1 1 5).toInt = (g29 1 1 5).toInt := by rw [hq30 1 1 5 (by omega)]
    have c30_1_1_5x : zB (g30 1 1 5) 0 24 := by rw [hq30 1 1 5 (by omega)]; exact c29_1_1_5x
    have ek30_1_0_7 : (g30 1 0 7).toInt = (g29 1 0 7).toInt := by rw [hq30 1 0 7 (by omega)]
    have c30_1_0_7x : zB (g30 1 0 7) 0 12 := by rw [hq30 1 0 7 (by omega)]; exact c29_1_0_7x
    have ek30_1_1_7 : (g30 1 1 7).toInt = (g29 1 1 7).toInt := by rw [hq30 1 1 7 (by omega)]
    have c30_1_1_7x : zB (g30 1 1 7) 0 12 := by rw [hq30 1 1 7 (by omega)]; exact c29_1_1_7x
    have ek30_18_0_4 : (g30 18 0 4).toInt = (g29 18 0 4).toInt := by rw [hq30 18 0 4 (by omega)]
    have c30_18_0_4x : zB (g30 18 0 4) 0 12 := by rw [hq30 18 0 4 (by omega)]; exact cr29_18_0_4
    have ek30_18_0_5 : (g30 18 0 5).toInt = (g29 18 0 5).toInt := by rw [hq30 18 0 5 (by omega)]
    have c30_18_0_5x : zB (g30 18 0 5) 0 12 := by rw [hq30 18 0 5 (by omega)]; exact cr29_18_0_5
    have ec30 : (g30 18 0 3).toInt = (0 : Int32).toInt := by rw [hx30]
    have c30x : zB (g30 18 0 3) 0 0 := by have q9 := (zB.of (x := 0) 0 (by decide)); constructor <;> omega
    refine z_iload_n (pc := 16) C dX9_world_16 rfl ?_
    refine z_if_ge (pc := 17) 22 C dX9_world_17 (by decide) (fun h17_30 => absurd h17_30 (by have q1 := b29y; have q2 := (zB.of (x := 0) 0 (by decide)); first | (simp only [z32lt, z32le, z32eq]; omega) | (simp only [z32lt, z32le, z32eq] at *; omega))) (fun h17_30 => ?_)
    refine z_iload_n (pc := 20) C dX9_world_20 rfl ?_
    exact z_iret (pc := 21) C hr dX9_world_21 ⟨⟨_, rfl, (zB.wk (a' := (-140)) (b' := 12) b29y (by decide) (by decide))⟩, hI30, hF30, (by
                                                                                          intro v hv; cases hv
                                                                                          have eo : ∀ x y z, ¬ (x = 18 ∧ y = 0 ∧ z = 3) → g30 x y z = g29 x y z := fun x y z h => by rw [qm30]; exact zup_ne _ _ h
                                                                                          have hkw : zKw f g30 := ⟨by rw [z32eq]; omega, by rw [z32eq]; omega, by rw [z32eq]; omega, by rw [z32eq]; omega, fun x j hx hj => (eo 7 x j (by omega)).trans (p7 x j hx hj), fun x j hx hj => (eo 11 x j (by omega)).trans (p11 x j hx hj)⟩
                                                                                          rw [hW]
                                                                                          exact ⟨hv, hkw⟩), (by intro v hv; cases hv; omega), (by
                                                                                          intro v hv; cases hv
                                                                                          have eo : ∀ x y z, ¬ (x = 18 ∧ y = 0 ∧ z = 3) → g30 x y z = g29 x y z := fun x y z h => by rw [qm30]; exact zup_ne _ _ h
                                                                                          intro hL
                                                                                          exact zRl_k hL ((eo 1 0 6 (by omega)).trans (hF29q 1 0 6 rfl)) ((eo 1 0 5 (by omega)).trans (hF29q 1 0 5 rfl)) hI (fun x j hx hj => (eo 7 x j (by omega)).trans (p7 x j (by omega) hj)) (fun i j _ _ => (eo 8 i j (by omega)).trans (hF29q 8 i j rfl)) (fun i l _ _ => (eo 9 i l (by omega)).trans (hF29q 9 i l rfl)) (fun i l _ _ => (eo 10 i l (by omega)).trans (hF29q 10 i l rfl)))⟩
  · skip
    have b29y : zB v29 0 12 := by first | assumption | (constructor <;> omega)
    have t4 : (g29 18 0 4).toInt = (cs.length : Int) := by rw [hS.1]; exact nI_toInt (by omega)
    have t5 : (g29 18 0 5).toInt = (ps.length : Int) := by rw [hS.2.1]; exact nI_toInt (by omega)
    refine z_istore_n (pc := 7) C dX9_world_7 (by rw [hn]; decide) rfl ?_
    refine z_aload_n (pc := 8) C dX9_world_8 rfl ?_
    refine z_getR (pc := 9) C zf_X9_31 rfl rfl (by decide) dX9_world_9 ?_
    refine z_iconst (pc := 12) (v := 0) C dX9_world_12 (by decide) ?_
    refine z_putI (pc := 13) C zf_X9_108 zp_7_3 rfl rfl (by decide) dX9_world_13 ?_
    refine w_memx hI29 hF29 (zB.wk (a' := 0) (b' := 120) (zB.of (x := 0) 0 (by decide)) (by decide) (by decide)) rfl (fun g32 qm32 hI32 hF32 hq32 hx32 => ?_)
    have ek32_1_0_5 : (g32 1 0 5).toInt = (g29 1 0 5).toInt := by rw [hq32 1 0 5 (by omega)]
    have c32_1_0_5x : zB (g32 1 0 5) 0 24 := by rw [hq32 1 0 5 (by omega)]; exact c29_1_0_5x
    have ek32_1_1_5 : (g32 1 1 5).toInt = (g29 1 1 5).toInt := by rw [hq32 1 1 5 (by omega)]
    have c32_1_1_5x : zB (g32 1 1 5) 0 24 := by rw [hq32 1 1 5 (by omega)]; exact c29_1_1_5x
    have ek32_1_0_7 : (g32 1 0 7).toInt = (g29 1 0 7).toInt := by rw [hq32 1 0 7 (by omega)]
    have c32_1_0_7x : zB (g32 1 0 7) 0 12 := by rw [hq32 1 0 7 (by omega)]; exact c29_1_0_7x
    have ek32_1_1_7 : (g32 1 1 7).toInt = (g29 1 1 7).toInt := by rw [hq32 1 1 7 (by omega)]
    have c32_1_1_7x : zB (g32 1 1 7) 0 12 := by rw [hq32 1 1 7 (by omega)]; exact c29_1_1_7x
    have ek32_18_0_4 : (g32 18 0 4).toInt = (g29 18 0 4).toInt := by rw [hq32 18 0 4 (by omega)]
    have c32_18_0_4x : zB (g32 18 0 4) 0 12 := by rw [hq32 18 0 4 (by omega)]; exact cr29_18_0_4
    have ek32_18_0_5 : (g32 18 0 5).toInt = (g29 18 0 5).toInt := by rw [hq32 18 0 5 (by omega)]
    have c32_18_0_5x : zB (g32 18 0 5) 0 12 := by rw [hq32 18 0 5 (by omega)]; exact cr29_18_0_5
    have ec32 : (g32 18 0 3).toInt = (0 : Int32).toInt := by rw [hx32]
    have c32x : zB (g32 18 0 3) 0 0 := by have q9 := (zB.of (x := 0) 0 (by decide)); constructor <;> omega
    refine z_iload_n (pc := 16) C dX9_world_16 rfl ?_
    refine z_if_ge (pc := 17) 22 C dX9_world_17 (by decide) (fun h17_32 => ?_) (fun h17_32 => absurd h17_32 (by have q1 := b29y; have q2 := (zB.of (x := 0) 0 (by decide)); first | (simp only [z32lt, z32le, z32eq]; omega) | (simp only [z32lt, z32le, z32eq] at *; omega)))
    refine z_aload_n (pc := 22) C dX9_world_22 rfl ?_
    refine z_getR (pc := 23) C zf_X9_10 rfl rfl (by decide) dX9_world_23 ?_
    refine z_getI (pc := 26) C zf_X9_50 rfl rfl (by decide) dX9_world_26 ?_
    refine w_gp (fun v => v = g32 1 0 5) rfl (fun v34 q34 => ?_)
    have e34 : v34.toInt = (g32 1 0 5).toInt := by rw [q34]
    have b34x : zB v34 0 24 := by first | exact zB.eqv e34 c32_1_0_5x | (have q9 := c32_1_0_5x; constructor <;> omega)
    refine z_aload_n (pc := 29) C dX9_world_29 rfl ?_
    refine z_getR (pc := 30) C zf_X9_31 rfl rfl (by decide) dX9_world_30 ?_
    refine z_getI (pc := 33) C zf_X9_118 rfl rfl (by decide) dX9_world_33 ?_
    refine w_gp (fun v => v = g32 18 0 4) rfl (fun v35 q35 => ?_)
    have e35 : v35.toInt = (g32 18 0 4).toInt := by rw [q35]
    have b35x : zB v35 0 12 := by first | exact zB.eqv e35 c32_18_0_4x | (have q9 := c32_18_0_4x; constructor <;> omega)
    refine z_iadd (pc := 36) C dX9_world_36 ?_
    refine w_gp (fun v => v = v34 + v35) rfl (fun v36 q36 => ?_)
    have e36 : v36.toInt = v34.toInt + v35.toInt := by rw [q36]; exact (zadd_eb b34x b35x (by decide) (by decide))
    have b36x : zB v36 0 36 := by have q1 := b34x; have q2 := b35x; constructor <;> omega
    refine z_bipush (pc := 37) (v := 24) C dX9_world_37 (by decide) ?_
    refine z_icmp_gt (pc := 39) 62 C dX9_world_39 (by decide) (fun h39_36 => ?_) (fun h39_36 => ?_)
    · skip
      have b38x : zB v36 25 36 := by have q1 := b36x; have q2 := (zB.of (x := 24) 24 (by decide)); simp only [z32lt, z32le, z32eq, Int32.reduceToInt, Int32.toInt_zero] at h39_36; constructor <;> omega
      refine z_bipush (pc := 62) (v := -3) C dX9_world_62 (by decide) ?_
      exact z_iret (pc := 64) C hr dX9_world_64 ⟨⟨_, rfl, (zB.wk (a' := (-140)) (b' := 12) (zB.of (x := (-3)) (-3) (by decide)) (by decide) (by decide))⟩, hI32, hF32, (by
                                                                                          intro v hv; cases hv
                                                                                          have eo : ∀ x y z, ¬ (x = 18 ∧ y = 0 ∧ z = 3) → g32 x y z = g29 x y z := fun x y z h => by rw [qm32]; exact zup_ne _ _ h
                                                                                          have hkw : zKw f g32 := ⟨by rw [z32eq]; omega, by rw [z32eq]; omega, by rw [z32eq]; omega, by rw [z32eq]; omega, fun x j hx hj => (eo 7 x j (by omega)).trans (p7 x j hx hj), fun x j hx hj => (eo 11 x j (by omega)).trans (p11 x j hx hj)⟩
                                                                                          rw [hW]
                                                                                          simp only [zWx]
                                                                                          exact Or.inl ⟨by omega, by first | rfl | trivial, hkw⟩), (by intro v hv; cases hv; have qc0 : ((-3) : Int32).toInt = (-3) := (by decide); omega), (by
                                                                                          intro v hv; cases hv
                                                                                          have eo : ∀ x y z, ¬ (x = 18 ∧ y = 0 ∧ z = 3) → g32 x y z = g29 x y z := fun x y z h => by rw [qm32]; exact zup_ne _ _ h
                                                                                          intro hL
                                                                                          exact zRl_k hL ((eo 1 0 6 (by omega)).trans (hF29q 1 0 6 rfl)) ((eo 1 0 5 (by omega)).trans (hF29q 1 0 5 rfl)) hI (fun x j hx hj => (eo 7 x j (by omega)).trans (p7 x j (by omega) hj)) (fun i j _ _ => (eo 8 i j (by omega)).trans (hF29q 8 i j rfl)) (fun i l _ _ => (eo 9 i l (by omega)).trans (hF29q 9 i l rfl)) (fun i l _ _ => (eo 10 i l (by omega)).trans (hF29q 10 i l rfl)))⟩
    · skip
      have b39x : zB v36 0 24 := by have q1 := b36x; have q2 := (zB.of (x := 24) 24 (by decide)); simp only [z32lt, z32le, z32eq, Int32.reduceToInt, Int32.toInt_zero] at h39_36; constructor <;> omega
      refine z_aload_n (pc := 42) C dX9_world_42 rfl ?_
      refine z_getR (pc := 43) C zf_X9_10 rfl rfl (by decide) dX9_world_43 ?_
      refine z_getI (pc := 46) C zf_X9_119 rfl rfl (by decide) dX9_world_46 ?_
      refine w_gp (fun v => v = g32 1 0 7) rfl (fun v40 q40 => ?_)
      have e40 : v40.toInt = (g32 1 0 7).toInt := by rw [q40]
      have b40x : zB v40 0 12 := by first | exact zB.eqv e40 c32_1_0_7x | (have q9 := c32_1_0_7x; constructor <;> omega)
      refine z_aload_n (pc := 49) C dX9_world_49 rfl ?_
      refine z_getR (pc := 50) C zf_X9_31 rfl rfl (by decide) dX9_world_50 ?_
      refine z_getI (pc := 53) C zf_X9_122 rfl rfl (by decide) dX9_world_53 ?_
      refine w_gp (fun v => v = g32 18 0 5) rfl (fun v41 q41 => ?_)
      have e41 : v41.toInt = (g32 18 0 5).toInt := by rw [q41]
      have b41x : zB v41 0 12 := by first | exact zB.eqv e41 c32_18_0_5x | (have q9 := c32_18_0_5x; constructor <;> omega)
      refine z_iadd (pc := 56) C dX9_world_56 ?_
      refine w_gp (fun v => v = v40 + v41) rfl (fun v42 q42 => ?_)
      have e42 : v42.toInt = v40.toInt + v41.toInt := by rw [q42]; exact (zadd_eb b40x b41x (by decide) (by decide))
      have b42x : zB v42 0 24 := by have q1 := b40x; have q2 := b41x; constructor <;> omega
      refine z_bipush (pc := 57) (v := 12) C dX9_world_57 (by decide) ?_
      refine z_icmp_le (pc := 59) 65 C dX9_world_59 (by decide) (fun h59_42 => ?_) (fun h59_42 => ?_)
      · skip
        have b44x : zB v42 0 12 := by have q1 := b42x; have q2 := (zB.of (x := 12) 12 (by decide)); simp only [z32lt, z32le, z32eq, Int32.reduceToInt, Int32.toInt_zero] at h59_42; constructor <;> omega
        refine z_iconst (pc := 65) (v := 0) C dX9_world_65 (by decide) ?_
        refine z_istore_n (pc := 66) C dX9_world_66 (by rw [hn]; decide) rfl ?_
        exact J0 v29 b29y 0 (zB.wk (a' := 0) (b' := 12) (zB.of (x := 0) 0 (by decide)) (by decide) (by decide)) g32 hI32 hF32 c32_1_0_5x c32_1_0_7x c32_1_1_5x c32_1_1_7x c32x c32_18_0_4x c32_18_0_5x (by have qc0 : (0 : Int32).toInt = 0 := (by decide); omega) (by have qc0 : (0 : Int32).toInt = 0 := (by decide); omega) (by have qc0 : (0 : Int32).toInt = 0 := (by decide); omega) (by have qc0 : (0 : Int32).toInt = 0 := (by decide); omega) (by have qc0 : (0 : Int32).toInt = 0 := (by decide); omega) (by have qc0 : (0 : Int32).toInt = 0 := (by decide); omega) (by have qc0 : (0 : Int32).toInt = 0 := (by decide); omega) (by have qc0 : (0 : Int32).toInt = 0 := (by decide); omega) (by
                                                                                          have eo : ∀ x y z, ¬ (x = 18 ∧ y = 0 ∧ z = 3) → g32 x y z = g29 x y z := fun x y z h => by rw [qm32]; exact zup_ne _ _ h
                                                                                          intro hL
                                                                                          exact zRl_k hL ((eo 1 0 6 (by omega)).trans (hF29q 1 0 6 rfl)) ((eo 1 0 5 (by omega)).trans (hF29q 1 0 5 rfl)) hI (fun x j hx hj => (eo 7 x j (by omega)).trans (p7 x j (by omega) hj)) (fun i j _ _ => (eo 8 i j (by omega)).trans (hF29q 8 i j rfl)) (fun i l _ _ => (eo 9 i l (by omega)).trans (hF29q 9 i l rfl)) (fun i l _ _ => (eo 10 i l (by omega)).trans (hF29q 10 i l rfl))) (by
                                                                                          have eo : ∀ x y z, ¬ (x = 18 ∧ y = 0 ∧ z = 3) → g32 x y z = g29 x y z := fun x y z h => by rw [qm32]; exact zup_ne _ _ h
                                                                                          exact ⟨cs, ps, hW, zSx_k hS (eo 18 0 4 (by omega)) (eo 18 0 5 (by omega)) (fun x j _ => eo 7 x j (by omega)) (fun x j _ => eo 11 x j (by omega)), hv, hl, by omega, by omega, zAp_0 (fun x j hx hj => (eo 7 x j (by omega)).trans (p7 x j hx hj)), fun x j hx hj => (eo 11 x j (by omega)).trans (p11 x j hx hj)⟩) (by have qc0 : (0 : Int32).toInt = 0 := (by decide); omega)
      · skip
        have b45x : zB v42 13 24 := by have q1 := b42x; have q2 := (zB.of (x := 12) 12 (by decide)); simp only [z32lt, z32le, z32eq, Int32.reduceToInt, Int32.toInt_zero] at h59_42; constructor <;> omega
        refine z_bipush (pc := 62) (v := -3) C dX9_world_62 (by decide) ?_
        exact z_iret (pc := 64) C hr dX9_world_64 ⟨⟨_, rfl, (zB.wk (a' := (-140)) (b' := 12) (zB.of (x := (-3)) (-3) (by decide)) (by decide) (by decide))⟩, hI32, hF32, (by
                                                                                          intro v hv; cases hv
                                                                                          have eo : ∀ x y z, ¬ (x = 18 ∧ y = 0 ∧ z = 3) → g32 x y z = g29 x y z := fun x y z h => by rw [qm32]; exact zup_ne _ _ h
                                                                                          have hkw : zKw f g32 := ⟨by rw [z32eq]; omega, by rw [z32eq]; omega, by rw [z32eq]; omega, by rw [z32eq]; omega, fun x j hx hj => (eo 7 x j (by omega)).trans (p7 x j hx hj), fun x j hx hj => (eo 11 x j (by omega)).trans (p11 x j hx hj)⟩
                                                                                          rw [hW]
                                                                                          simp only [zWx]
                                                                                          exact Or.inl ⟨by omega, by first | rfl | trivial, hkw⟩), (by intro v hv; cases hv; have qc0 : ((-3) : Int32).toInt = (-3) := (by decide); omega), (by
                                                                                          intro v hv; cases hv
                                                                                          have eo : ∀ x y z, ¬ (x = 18 ∧ y = 0 ∧ z = 3) → g32 x y z = g29 x y z := fun x y z h => by rw [qm32]; exact zup_ne _ _ h
                                                                                          intro hL
                                                                                          exact zRl_k hL ((eo 1 0 6 (by omega)).trans (hF29q 1 0 6 rfl)) ((eo 1 0 5 (by omega)).trans (hF29q 1 0 5 rfl)) hI (fun x j hx hj => (eo 7 x j (by omega)).trans (p7 x j (by omega) hj)) (fun i j _ _ => (eo 8 i j (by omega)).trans (hF29q 8 i j rfl)) (fun i l _ _ => (eo 9 i l (by omega)).trans (hF29q 9 i l rfl)) (fun i l _ _ => (eo 10 i l (by omega)).trans (hF29q 10 i l rfl)))⟩

set_option maxRecDepth 100000 in
set_option maxHeartbeats 4000000 in
theorem e_X10_world (d : Nat) (f : zM) (T : Nat → Int32) (n : Nat) (hN : n ≤ 120) (h18 : f 25 0 16 = nI n) (hTp : ∀ i, i < n → f 36 0 i = T i) (hI : zInv f) : ZM (d + 4) yX10_world cX10_world 4 (some .int) [zr 25 0] f (fun r g => (∃ v, r = some (zi v) ∧ zB v (-140) 24) ∧ zInv g ∧ zFr [(25, some 0), (25, some 4), (25, some 16), (25, some 17), (25, some 18), (25, some 20), (26, none), (28, none), (37, none), (38, none)] f g ∧ (∀ v : Int32, r = some (zi v) → zWm f g v (zwd (zclR T n) T n 12 0)) ∧ (∀ v : Int32, r = some (zi v) → (g 25 0 16).toInt = 0)) := by
  refine ZM.intro (by decide +kernel) (Nat.le_of_ble_eq_true rfl) ?_
  intro X C hr hn
  have hF : zFr [(25, some 0), (25, some 4), (25, some 16), (25, some 17), (25, some 18), (25, some 20), (26, none), (28, none), (37, none), (38, none)] f f := zFr.rf _ _
  have ct25_0_0 : zB (f 25 0 0) 0 24 := hI 25 0 0
  have ct25_0_4 : zB (f 25 0 4) 0 12 := hI 25 0 4
  have ct25_0_18 : zB (f 25 0 18) 0 12 := hI 25 0 18
  have ct25_0_20 : zB (f 25 0 20) 0 12 := hI 25 0 20
  have ct25_0_17 : zB (f 25 0 17) 0 120 := hI 25 0 17
  have ct25_0_16 : zB (f 25 0 16) 0 120 := hI 25 0 16
  have J : ∀ t : Nat, (∀ a55_2 : Int32, zB a55_2 0 12 → ∀ g : zM, zInv g → zFr [(25, some 0), (25, some 4), (25, some 16), (25, some 17), (25, some 18), (25, some 20), (26, none), (28, none), (37, none), (38, none)] f g → zB (g 25 0 0) 0 24 → zB (g 25 0 4) 0 12 → zB (g 25 0 16) 0 0 → zB (g 25 0 17) 0 120 → zB (g 25 0 18) 0 12 → zB (g 25 0 20) 0 12 → ((g 25 0 0).toInt + (g 25 0 18).toInt - a55_2.toInt ≤ 24) → ((g 25 0 4).toInt + (g 25 0 20).toInt ≤ 12) → ((g 25 0 16).toInt = 0) → ((g 25 0 0).toInt = (f 25 0 0).toInt + a55_2.toInt) → ((g 25 0 4).toInt = (f 25 0 4).toInt) → (a55_2.toInt ≤ (g 25 0 18).toInt) → (∃ cs ps, zwd (zclR T n) T n 12 0 = .inr (cs, ps) ∧ zSm g cs ps ∧ cs.length + ps.length ≤ 12 ∧ (f 25 0 0).toInt + cs.length ≤ 24 ∧ (f 25 0 4).toInt + ps.length ≤ 12 ∧ zAm f g 26 (f 25 0 0).toInt.toNat cs (a55_2.toInt.toNat) 6 ∧ (∀ q, g 28 0 q = f 28 0 q)) → (53 + 56 * (12 - a55_2.toInt) : Int) < t → Z X 55 [some (zr 25 0), some (zi 1), some (zi a55_2), none] [] g) ∧ (∀ a126_2 : Int32, zB a126_2 0 12 → ∀ g : zM, zInv g → zFr [(25, some 0), (25, some 4), (25, some 16), (25, some 17), (25, some 18), (25, some 20), (26, none), (28, none), (37, none), (38, none)] f g → zB (g 25 0 0) 0 24 → zB (g 25 0 4) 0 12 → zB (g 25 0 16) 0 0 → zB (g 25 0 17) 0 120 → zB (g 25 0 18) 0 12 → zB (g 25 0 20) 0 12 → ((g 25 0 4).toInt + (g 25 0 20).toInt - a126_2.toInt ≤ 12) → ((g 25 0 16).toInt = 0) → ((g 25 0 0).toInt = (f 25 0 0).toInt + (g 25 0 18).toInt) → ((g 25 0 4).toInt = (f 25 0 4).toInt + a126_2.toInt) → (a126_2.toInt ≤ (g 25 0 20).toInt) → (∃ cs ps, zwd (zclR T n) T n 12 0 = .inr (cs, ps) ∧ zSm g cs ps ∧ cs.length + ps.length ≤ 12 ∧ (f 25 0 0).toInt + cs.length ≤ 24 ∧ (f 25 0 4).toInt + ps.length ≤ 12 ∧ zAm f g 26 (f 25 0 0).toInt.toNat cs cs.length 6 ∧ zAm f g 28 (f 25 0 4).toInt.toNat ps (a126_2.toInt.toNat) 8) → (0 + 4 * (12 - a126_2.toInt) : Int) < t → Z X 126 [some (zr 25 0), some (zi 1), some (zi a126_2), none] [] g) := by
    intro t
    induction t with
    | zero =>
      refine ⟨?_, ?_⟩ <;> (intros; exfalso; omega)
    | succ t ih =>
      obtain ⟨ih0, ih1⟩ := ih
      refine ⟨?_, ?_⟩
      · skip
        intro a55_2 b55_2 g55_ hI55_ hF55_ f55_25_0_0 f55_25_0_4 f55_25_0_16 f55_25_0_17 f55_25_0_18 f55_25_0_20 hR55_0 hR55_1 hR55_2 hR55_3 hR55_4 hR55_5 hR55_6 hM55_
        obtain ⟨cs, ps, hW, hS, hl, hc1, hc2, hA, hK⟩ := hR55_6
        have t4 : (g55_ 25 0 18).toInt = (cs.length : Int) := by rw [hS.1]; exact nI_toInt (by omega)
        have t5 : (g55_ 25 0 20).toInt = (ps.length : Int) := by rw [hS.2.1]; exact nI_toInt (by omega)
        refine z_iload_n (pc := 55) C dX10_world_55 rfl ?_
        refine z_aload_n (pc := 56) C dX10_world_56 rfl ?_
        refine z_getI (pc := 57) C zf_X10_221 rfl rfl (by decide) dX10_world_57 ?_
        refine w_gp (fun v => v = g55_ 25 0 18) rfl (fun v1 q1 => ?_)
        have e1 : v1.toInt = (g55_ 25 0 18).toInt := by rw [q1]
        have b1x : zB v1 0 12 := by first | exact zB.eqv e1 f55_25_0_18 | (have q9 := f55_25_0_18; constructor <;> omega)
        refine z_icmp_ge (pc := 60) 124 C dX10_world_60 (by decide) (fun h60_1 => ?_) (fun h60_1 => ?_)
        · skip
          have rr3 : a55_2.toInt ≥ v1.toInt := by simp only [z32lt, z32le, z32eq] at h60_1; omega
          refine z_iconst (pc := 124) (v := 0) C dX10_world_124 (by decide) ?_
          refine z_istore_n (pc := 125) C dX10_world_125 (by rw [hn]; decide) rfl ?_
          exact ih1 0 (zB.wk (a' := 0) (b' := 12) (zB.of (x := 0) 0 (by decide)) (by decide) (by decide)) g55_ hI55_ hF55_ f55_25_0_0 f55_25_0_4 f55_25_0_16 f55_25_0_17 f55_25_0_18 f55_25_0_20 (by have qc0 : (0 : Int32).toInt = 0 := (by decide); have qc1 : (1 : Int32).toInt = 1 := (by decide); omega) (by have qc0 : (0 : Int32).toInt = 0 := (by decide); have qc1 : (1 : Int32).toInt = 1 := (by decide); omega) (by have qc0 : (0 : Int32).toInt = 0 := (by decide); have qc1 : (1 : Int32).toInt = 1 := (by decide); omega) (by have qc0 : (0 : Int32).toInt = 0 := (by decide); have qc1 : (1 : Int32).toInt = 1 := (by decide); omega) (by have qc0 : (0 : Int32).toInt = 0 := (by decide); have qc1 : (1 : Int32).toInt = 1 := (by decide); omega) (by
                                                                                          refine ⟨cs, ps, hW, hS, hl, hc1, hc2, ?_, zAm_0 hK⟩
                                                                                          have hz : cs.length = a55_2.toInt.toNat := by omega
                                                                                          rw [hz]; exact hA) (by have qc0 : (0 : Int32).toInt = 0 := (by decide); have qc1 : (1 : Int32).toInt = 1 := (by decide); omega)
        · skip
          have rr4 : a55_2.toInt < v1.toInt := by simp only [z32lt, z32le, z32eq] at h60_1; omega
          have b5x : zB a55_2 0 11 := by have q1 := b55_2; have q2 := b1x; simp only [z32lt, z32le, z32eq, Int32.reduceToInt, Int32.toInt_zero] at h60_1; constructor <;> omega
          have b6x : zB v1 1 12 := by have q1 := b55_2; have q2 := b1x; simp only [z32lt, z32le, z32eq, Int32.reduceToInt, Int32.toInt_zero] at h60_1; constructor <;> omega
          have c7x : zB (g55_ 25 0 18) 1 12 := by first | assumption | (constructor <;> omega)
          refine z_bipush (pc := 63) (v := 6) C dX10_world_63 (by decide) ?_
          refine z_iload_n (pc := 65) C dX10_world_65 rfl ?_
          refine z_imul (pc := 66) C dX10_world_66 ?_
          refine w_gp (fun v => v = (6 : Int32) * a55_2) rfl (fun v8 q8 => ?_)
          have e8 : v8.toInt = 6 * a55_2.toInt := by rw [q8]; exact (zmul_kb 6 (by decide) (by decide) b5x (by decide) (by decide))
          have b8x : zB v8 0 66 := zmul_bb e8 (by decide) b5x
          refine z_istore_n (pc := 67) C dX10_world_67 (by rw [hn]; decide) rfl ?_
          have c9x : zB (g55_ 25 0 0) 0 23 := by first | assumption | (constructor <;> omega)
          refine z_aload_n (pc := 68) C dX10_world_68 rfl ?_
          refine z_aload_n (pc := 69) C dX10_world_69 rfl ?_
          refine z_getR (pc := 70) C zf_X10_43 rfl rfl (by decide) dX10_world_70 ?_
          refine z_iload_n (pc := 73) C dX10_world_73 rfl ?_
          refine z_iald (pc := 74) C rfl (by decide) (zIx b8x (by decide) (by decide)) dX10_world_74 ?_
          have kq74_9 : v8.toNatClampNeg = v8.toInt.toNat := rfl
          refine w_gp (fun v => v = g55_ 37 0 v8.toNatClampNeg) rfl (fun v10 q10 => ?_)
          have b10x : zB v10 0 5 := by rw [q10]; exact (by have hq9 := hI55_ 37 0 v8.toNatClampNeg; rw [zrg37 (r := 0) (by have hq : v8.toNatClampNeg = v8.toInt.toNat := rfl; have hq2 := b8x; omega)] at hq9; exact hq9)
          refine z_aload_n (pc := 75) C dX10_world_75 rfl ?_
          refine z_getR (pc := 76) C zf_X10_43 rfl rfl (by decide) dX10_world_76 ?_
          refine z_iload_n (pc := 79) C dX10_world_79 rfl ?_
          refine z_iconst (pc := 80) (v := 1) C dX10_world_80 (by decide) ?_
          refine z_iadd (pc := 81) C dX10_world_81 ?_
          refine w_gp (fun v => v = v8 + (1 : Int32)) rfl (fun v11 q11 => ?_)
          have e11 : v11.toInt = v8.toInt + 1 := by rw [q11]; exact (zadd_eb b8x (zB.of (x := 1) 1 (by decide)) (by decide) (by decide))
          have b11x : zB v11 1 67 := by have q1 := b8x; have q2 := (zB.of (x := 1) 1 (by decide)); constructor <;> omega
          refine z_iald (pc := 82) C rfl (by decide) (zIx b11x (by decide) (by decide)) dX10_world_82 ?_
          have kq82_11 : v11.toNatClampNeg = v11.toInt.toNat := rfl
          refine w_gp (fun v => v = g55_ 37 0 v11.toNatClampNeg) rfl (fun v12 q12 => ?_)
          have b12x : zB v12 0 63 := by rw [q12]; exact (by have hq9 := hI55_ 37 0 v11.toNatClampNeg; rw [zrg37 (r := 1) (by have hq : v11.toNatClampNeg = v11.toInt.toNat := rfl; have hq2 := b11x; omega)] at hq9; exact hq9)
          refine z_aload_n (pc := 83) C dX10_world_83 rfl ?_
          refine z_getR (pc := 84) C zf_X10_43 rfl rfl (by decide) dX10_world_84 ?_
          refine z_iload_n (pc := 87) C dX10_world_87 rfl ?_
          refine z_iconst (pc := 88) (v := 2) C dX10_world_88 (by decide) ?_
          refine z_iadd (pc := 89) C dX10_world_89 ?_
          refine w_gp (fun v => v = v8 + (2 : Int32)) rfl (fun v13 q13 => ?_)
          have e13 : v13.toInt = v8.toInt + 2 := by rw [q13]; exact (zadd_eb b8x (zB.of (x := 2) 2 (by decide)) (by decide) (by decide))
          have b13x : zB v13 2 68 := by have q1 := b8x; have q2 := (zB.of (x := 2) 2 (by decide)); constructor <;> omega
          refine z_iald (pc := 90) C rfl (by decide) (zIx b13x (by decide) (by decide)) dX10_world_90 ?_
          have kq90_13 : v13.toNatClampNeg = v13.toInt.toNat := rfl
          refine w_gp (fun v => v = g55_ 37 0 v13.toNatClampNeg) rfl (fun v14 q14 => ?_)
          have b14x : zB v14 0 63 := by rw [q14]; exact (by have hq9 := hI55_ 37 0 v13.toNatClampNeg; rw [zrg37 (r := 2) (by have hq : v13.toNatClampNeg = v13.toInt.toNat := rfl; have hq2 := b13x; omega)] at hq9; exact hq9)
          refine z_aload_n (pc := 91) C dX10_world_91 rfl ?_
          refine z_getR (pc := 92) C zf_X10_43 rfl rfl (by decide) dX10_world_92 ?_
          refine z_iload_n (pc := 95) C dX10_world_95 rfl ?_
          refine z_iconst (pc := 96) (v := 3) C dX10_world_96 (by decide) ?_
          refine z_iadd (pc := 97) C dX10_world_97 ?_
          refine w_gp (fun v => v = v8 + (3 : Int32)) rfl (fun v15 q15 => ?_)
          have e15 : v15.toInt = v8.toInt + 3 := by rw [q15]; exact (zadd_eb b8x (zB.of (x := 3) 3 (by decide)) (by decide) (by decide))
          have b15x : zB v15 3 69 := by have q1 := b8x; have q2 := (zB.of (x := 3) 3 (by decide)); constructor <;> omega
          refine z_iald (pc := 98) C rfl (by decide) (zIx b15x (by decide) (by decide)) dX10_world_98 ?_
          have kq98_15 : v15.toNatClampNeg = v15.toInt.toNat := rfl
          refine w_gp (fun v => v = g55_ 37 0 v15.toNatClampNeg) rfl (fun v16 q16 => ?_)
          have b16x : zB v16 0 40 := by rw [q16]; exact (by have hq9 := hI55_ 37 0 v15.toNatClampNeg; rw [zrg37 (r := 3) (by have hq : v15.toNatClampNeg = v15.toInt.toNat := rfl; have hq2 := b15x; omega)] at hq9; exact hq9)
          refine z_aload_n (pc := 99) C dX10_world_99 rfl ?_
          refine z_getR (pc := 100) C zf_X10_43 rfl rfl (by decide) dX10_world_100 ?_
          refine z_iload_n (pc := 103) C dX10_world_103 rfl ?_
          refine z_iconst (pc := 104) (v := 4) C dX10_world_104 (by decide) ?_
          refine z_iadd (pc := 105) C dX10_world_105 ?_
          refine w_gp (fun v => v = v8 + (4 : Int32)) rfl (fun v17 q17 => ?_)
          have e17 : v17.toInt = v8.toInt + 4 := by rw [q17]; exact (zadd_eb b8x (zB.of (x := 4) 4 (by decide)) (by decide) (by decide))
          have b17x : zB v17 4 70 := by have q1 := b8x; have q2 := (zB.of (x := 4) 4 (by decide)); constructor <;> omega
          refine z_iald (pc := 106) C rfl (by decide) (zIx b17x (by decide) (by decide)) dX10_world_106 ?_
          have kq106_17 : v17.toNatClampNeg = v17.toInt.toNat := rfl
          refine w_gp (fun v => v = g55_ 37 0 v17.toNatClampNeg) rfl (fun v18 q18 => ?_)
          have b18x : zB v18 0 40 := by rw [q18]; exact (by have hq9 := hI55_ 37 0 v17.toNatClampNeg; rw [zrg37 (r := 4) (by have hq : v17.toNatClampNeg = v17.toInt.toNat := rfl; have hq2 := b17x; omega)] at hq9; exact hq9)
          refine z_aload_n (pc := 107) C dX10_world_107 rfl ?_
          refine z_getR (pc := 108) C zf_X10_43 rfl rfl (by decide) dX10_world_108 ?_
          refine z_iload_n (pc := 111) C dX10_world_111 rfl ?_
          refine z_iconst (pc := 112) (v := 5) C dX10_world_112 (by decide) ?_
          refine z_iadd (pc := 113) C dX10_world_113 ?_
          refine w_gp (fun v => v = v8 + (5 : Int32)) rfl (fun v19 q19 => ?_)
          have e19 : v19.toInt = v8.toInt + 5 := by rw [q19]; exact (zadd_eb b8x (zB.of (x := 5) 5 (by decide)) (by decide) (by decide))
          have b19x : zB v19 5 71 := by have q1 := b8x; have q2 := (zB.of (x := 5) 5 (by decide)); constructor <;> omega
          refine z_iald (pc := 114) C rfl (by decide) (zIx b19x (by decide) (by decide)) dX10_world_114 ?_
          have kq114_19 : v19.toNatClampNeg = v19.toInt.toNat := rfl
          refine w_gp (fun v => v = g55_ 37 0 v19.toNatClampNeg) rfl (fun v20 q20 => ?_)
          have b20x : zB v20 0 1 := by rw [q20]; exact (by have hq9 := hI55_ 37 0 v19.toNatClampNeg; rw [zrg37 (r := 5) (by have hq : v19.toNatClampNeg = v19.toInt.toNat := rfl; have hq2 := b19x; omega)] at hq9; exact hq9)
          refine z_callV (pc := 115) C zk_X10_91 (x_X10_addCrime _ _ v10 b10x v12 b12x v14 b14x v16 b16x v18 b18x v20 b20x c9x hI55_) rfl rfl (by decide) rfl rfl (Nat.le_of_ble_eq_true rfl) dX10_world_115 (fun r21 g21 q21 => ?_)
          obtain ⟨rfl, hI21, hF21q, hp21_0, hp21_1, hp21_2⟩ := q21
          have hF21 := zFr.tr hF55_ hF21q (by decide)
          simp only [Option.toList, List.cons_append, List.nil_append]
          have cr21_25_0_0 : zB (g21 25 0 0) 0 24 := hI21 25 0 0
          have ek21_25_0_4 : (g21 25 0 4).toInt = (g55_ 25 0 4).toInt := by rw [hF21q 25 0 4 rfl]
          have c21_25_0_4x : zB (g21 25 0 4) 0 12 := by rw [hF21q 25 0 4 rfl]; exact f55_25_0_4
          have ek21_25_0_18 : (g21 25 0 18).toInt = (g55_ 25 0 18).toInt := by rw [hF21q 25 0 18 rfl]
          have c21_25_0_18x : zB (g21 25 0 18) 1 12 := by rw [hF21q 25 0 18 rfl]; exact c7x
          have ek21_25_0_20 : (g21 25 0 20).toInt = (g55_ 25 0 20).toInt := by rw [hF21q 25 0 20 rfl]
          have c21_25_0_20x : zB (g21 25 0 20) 0 12 := by rw [hF21q 25 0 20 rfl]; exact f55_25_0_20
          have ek21_25_0_17 : (g21 25 0 17).toInt = (g55_ 25 0 17).toInt := by rw [hF21q 25 0 17 rfl]
          have c21_25_0_17x : zB (g21 25 0 17) 0 120 := by rw [hF21q 25 0 17 rfl]; exact f55_25_0_17
          have ek21_25_0_16 : (g21 25 0 16).toInt = (g55_ 25 0 16).toInt := by rw [hF21q 25 0 16 rfl]
          have c21_25_0_16x : zB (g21 25 0 16) 0 0 := by rw [hF21q 25 0 16 rfl]; exact f55_25_0_16
          refine z_iinc (pc := 118) (v := 1) C dX10_world_118 rfl (by decide) (by rw [hn]; decide) rfl ?_
          obtain ⟨v22, hv22, e22⟩ : ∃ v : Int32, v = a55_2 + 1 ∧ v.toInt = a55_2.toInt + 1 := ⟨_, rfl, zadd_eb b5x (zB.of (x := 1) 1 (by decide)) (by decide) (by decide)⟩
          rw [← hv22]
          have b22x : zB v22 1 12 := by have q9 := b5x; constructor <;> omega
          refine z_goto (pc := 121) 55 C dX10_world_121 (by decide) ?_
          refine w_mask [3] ?_
          exact ih0 v22 (zB.wk (a' := 0) (b' := 12) b22x (by decide) (by decide)) g21 hI21 hF21 cr21_25_0_0 c21_25_0_4x c21_25_0_16x c21_25_0_17x (zB.wk c21_25_0_18x (by decide) (by decide)) c21_25_0_20x (by have qc0 : (1 : Int32).toInt = 1 := (by decide); omega) (by have qc0 : (1 : Int32).toInt = 1 := (by decide); omega) (by have qc0 : (1 : Int32).toInt = 1 := (by decide); omega) (by have qc0 : (1 : Int32).toInt = 1 := (by decide); omega) (by have qc0 : (1 : Int32).toInt = 1 := (by decide); omega) (by have qc0 : (1 : Int32).toInt = 1 := (by decide); omega) (by
                                                                                          have x0 : v10 = (cs.getD a55_2.toInt.toNat (fun _ => 0)) 0 := by rw [q10, show (v8).toNatClampNeg = 6 * a55_2.toInt.toNat + 0 by omega]; exact hS.2.2.1 _ 0 (by omega) (by decide)
                                                                                          have x1 : v12 = (cs.getD a55_2.toInt.toNat (fun _ => 0)) 1 := by rw [q12, show (v11).toNatClampNeg = 6 * a55_2.toInt.toNat + 1 by omega]; exact hS.2.2.1 _ 1 (by omega) (by decide)
                                                                                          have x2 : v14 = (cs.getD a55_2.toInt.toNat (fun _ => 0)) 2 := by rw [q14, show (v13).toNatClampNeg = 6 * a55_2.toInt.toNat + 2 by omega]; exact hS.2.2.1 _ 2 (by omega) (by decide)
                                                                                          have x3 : v16 = (cs.getD a55_2.toInt.toNat (fun _ => 0)) 3 := by rw [q16, show (v15).toNatClampNeg = 6 * a55_2.toInt.toNat + 3 by omega]; exact hS.2.2.1 _ 3 (by omega) (by decide)
                                                                                          have x4 : v18 = (cs.getD a55_2.toInt.toNat (fun _ => 0)) 4 := by rw [q18, show (v17).toNatClampNeg = 6 * a55_2.toInt.toNat + 4 by omega]; exact hS.2.2.1 _ 4 (by omega) (by decide)
                                                                                          have x5 : v20 = (cs.getD a55_2.toInt.toNat (fun _ => 0)) 5 := by rw [q20, show (v19).toNatClampNeg = 6 * a55_2.toInt.toNat + 5 by omega]; exact hS.2.2.1 _ 5 (by omega) (by decide)
                                                                                          have hn : (v22).toInt.toNat = a55_2.toInt.toNat + 1 := by omega
                                                                                          have hm0 : (g55_ 25 0 0).toInt.toNat = (f 25 0 0).toInt.toNat + a55_2.toInt.toNat := by omega
                                                                                          obtain ⟨c0, c1⟩ := hp21_2
                                                                                          rw [hm0] at c0 c1
                                                                                          rw [hn]
                                                                                          refine ⟨cs, ps, hW, zSm_k hS (hF21q 25 0 18 rfl) (hF21q 25 0 20 rfl) (fun x => hF21q 37 0 x rfl) (fun x => hF21q 38 0 x rfl), hl, hc1, hc2, zAm_s6 hA ?_ c1, fun q => (hF21q 28 0 q rfl).trans (hK q)⟩
                                                                                          intro j hj
                                                                                          rw [c0 j hj]
                                                                                          rcases (show j = 0 ∨ j = 1 ∨ j = 2 ∨ j = 3 ∨ j = 4 ∨ j = 5 by omega) with rfl | rfl | rfl | rfl | rfl | rfl
                                                                                          · exact x0
                                                                                          · exact x1
                                                                                          · exact x2
                                                                                          · exact x3
                                                                                          · exact x4
                                                                                          · exact x5) (by have qc0 : (1 : Int32).toInt = 1 := (by decide); omega)
      · skip
        intro a126_2 b126_2 g126_ hI126_ hF126_ f126_25_0_0 f126_25_0_4 f126_25_0_16 f126_25_0_17 f126_25_0_18 f126_25_0_20 hR126_0 hR126_1 hR126_2 hR126_3 hR126_4 hR126_5 hM126_
        obtain ⟨cs, ps, hW, hS, hl, hc1, hc2, hA, hB⟩ := hR126_5
        have t4 : (g126_ 25 0 18).toInt = (cs.length : Int) := by rw [hS.1]; exact nI_toInt (by omega)
        have t5 : (g126_ 25 0 20).toInt = (ps.length : Int) := by rw [hS.2.1]; exact nI_toInt (by omega)
        refine z_iload_n (pc := 126) C dX10_world_126 rfl ?_
        refine z_aload_n (pc := 127) C dX10_world_127 rfl ?_
        refine z_getI (pc := 128) C zf_X10_233 rfl rfl (by decide) dX10_world_128 ?_
        refine w_gp (fun v => v = g126_ 25 0 20) rfl (fun v23 q23 => ?_)
        have e23 : v23.toInt = (g126_ 25 0 20).toInt := by rw [q23]
        have b23x : zB v23 0 12 := by first | exact zB.eqv e23 f126_25_0_20 | (have q9 := f126_25_0_20; constructor <;> omega)
        refine z_icmp_ge (pc := 131) 207 C dX10_world_131 (by decide) (fun h131_23 => ?_) (fun h131_23 => ?_)
        · skip
          have rr25 : a126_2.toInt ≥ v23.toInt := by simp only [z32lt, z32le, z32eq] at h131_23; omega
          refine z_aload_n (pc := 207) C dX10_world_207 rfl ?_
          refine z_getI (pc := 208) C zf_X10_221 rfl rfl (by decide) dX10_world_208 ?_
          refine w_gp (fun v => v = g126_ 25 0 18) rfl (fun v26 q26 => ?_)
          have e26 : v26.toInt = (g126_ 25 0 18).toInt := by rw [q26]
          have b26x : zB v26 0 12 := by first | exact zB.eqv e26 f126_25_0_18 | (have q9 := f126_25_0_18; constructor <;> omega)
          refine z_aload_n (pc := 211) C dX10_world_211 rfl ?_
          refine z_getI (pc := 212) C zf_X10_233 rfl rfl (by decide) dX10_world_212 ?_
          refine w_gp (fun v => v = g126_ 25 0 20) rfl (fun v27 q27 => ?_)
          have e27 : v27.toInt = (g126_ 25 0 20).toInt := by rw [q27]
          have b27x : zB v27 0 12 := by first | exact zB.eqv e27 f126_25_0_20 | (have q9 := f126_25_0_20; constructor <;> omega)
          refine z_iadd (pc := 215) C dX10_world_215 ?_
          refine w_gp (fun v => v = v26 + v27) rfl (fun v28 q28 => ?_)
          have e28 : v28.toInt = v26.toInt + v27.toInt := by rw [q28]; exact (zadd_eb b26x b27x (by decide) (by decide))
          have b28x : zB v28 0 24 := by have q1 := b26x; have q2 := b27x; constructor <;> omega
          exact z_iret (pc := 216) C hr dX10_world_216 ⟨⟨_, rfl, (zB.wk (a' := (-140)) (b' := 24) b28x (by decide) (by decide))⟩, hI126_, hF126_, (by
                                                                                          intro v hv; cases hv
                                                                                          rw [hW]
                                                                                          simp only [zWm]
                                                                                          have hz : ps.length = a126_2.toInt.toNat := by omega
                                                                                          refine Or.inr ⟨⟨by omega, by omega⟩, by omega, by omega, by omega, hA, ?_⟩
                                                                                          rw [hz]
                                                                                          exact hB), (by intro v hv; cases hv; have qc0 : (1 : Int32).toInt = 1 := (by decide); omega)⟩
        · skip
          have rr29 : a126_2.toInt < v23.toInt := by simp only [z32lt, z32le, z32eq] at h131_23; omega
          have b30x : zB a126_2 0 11 := by have q1 := b126_2; have q2 := b23x; simp only [z32lt, z32le, z32eq, Int32.reduceToInt, Int32.toInt_zero] at h131_23; constructor <;> omega
          have b31x : zB v23 1 12 := by have q1 := b126_2; have q2 := b23x; simp only [z32lt, z32le, z32eq, Int32.reduceToInt, Int32.toInt_zero] at h131_23; constructor <;> omega
          have c32x : zB (g126_ 25 0 20) 1 12 := by first | assumption | (constructor <;> omega)
          have c33x : zB (g126_ 25 0 4) 0 11 := by first | assumption | (constructor <;> omega)
          refine z_bipush (pc := 134) (v := 8) C dX10_world_134 (by decide) ?_
          refine z_iload_n (pc := 136) C dX10_world_136 rfl ?_
          refine z_imul (pc := 137) C dX10_world_137 ?_
          refine w_gp (fun v => v = (8 : Int32) * a126_2) rfl (fun v34 q34 => ?_)
          have e34 : v34.toInt = 8 * a126_2.toInt := by rw [q34]; exact (zmul_kb 8 (by decide) (by decide) b30x (by decide) (by decide))
          have b34x : zB v34 0 88 := zmul_bb e34 (by decide) b30x
          refine z_istore_n (pc := 138) C dX10_world_138 (by rw [hn]; decide) rfl ?_
          refine z_aload_n (pc := 139) C dX10_world_139 rfl ?_
          refine z_aload_n (pc := 140) C dX10_world_140 rfl ?_
          refine z_getR (pc := 141) C zf_X10_46 rfl rfl (by decide) dX10_world_141 ?_
          refine z_iload_n (pc := 144) C dX10_world_144 rfl ?_
          refine z_iald (pc := 145) C rfl (by decide) (zIx b34x (by decide) (by decide)) dX10_world_145 ?_
          have kq145_34 : v34.toNatClampNeg = v34.toInt.toNat := rfl
          refine w_gp (fun v => v = g126_ 38 0 v34.toNatClampNeg) rfl (fun v35 q35 => ?_)
          have b35x : zB v35 0 2 := by rw [q35]; exact (by have hq9 := hI126_ 38 0 v34.toNatClampNeg; rw [zrg38 (r := 0) (by have hq : v34.toNatClampNeg = v34.toInt.toNat := rfl; have hq2 := b34x; omega)] at hq9; exact hq9)
          refine z_aload_n (pc := 146) C dX10_world_146 rfl ?_
          refine z_getR (pc := 147) C zf_X10_46 rfl rfl (by decide) dX10_world_147 ?_
          refine z_iload_n (pc := 150) C dX10_world_150 rfl ?_
          refine z_iconst (pc := 151) (v := 1) C dX10_world_151 (by decide) ?_
          refine z_iadd (pc := 152) C dX10_world_152 ?_
          refine w_gp (fun v => v = v34 + (1 : Int32)) rfl (fun v36 q36 => ?_)
          have e36 : v36.toInt = v34.toInt + 1 := by rw [q36]; exact (zadd_eb b34x (zB.of (x := 1) 1 (by decide)) (by decide) (by decide))
          have b36x : zB v36 1 89 := by have q1 := b34x; have q2 := (zB.of (x := 1) 1 (by decide)); constructor <;> omega
          refine z_iald (pc := 153) C rfl (by decide) (zIx b36x (by decide) (by decide)) dX10_world_153 ?_
          have kq153_36 : v36.toNatClampNeg = v36.toInt.toNat := rfl
          refine w_gp (fun v => v = g126_ 38 0 v36.toNatClampNeg) rfl (fun v37 q37 => ?_)
          have b37x : zB v37 0 5 := by rw [q37]; exact (by have hq9 := hI126_ 38 0 v36.toNatClampNeg; rw [zrg38 (r := 1) (by have hq : v36.toNatClampNeg = v36.toInt.toNat := rfl; have hq2 := b36x; omega)] at hq9; exact hq9)
          refine z_aload_n (pc := 154) C dX10_world_154 rfl ?_
          refine z_getR (pc := 155) C zf_X10_46 rfl rfl (by decide) dX10_world_155 ?_
          refine z_iload_n (pc := 158) C dX10_world_158 rfl ?_
          refine z_iconst (pc := 159) (v := 2) C dX10_world_159 (by decide) ?_
          refine z_iadd (pc := 160) C dX10_world_160 ?_
          refine w_gp (fun v => v = v34 + (2 : Int32)) rfl (fun v38 q38 => ?_)
          have e38 : v38.toInt = v34.toInt + 2 := by rw [q38]; exact (zadd_eb b34x (zB.of (x := 2) 2 (by decide)) (by decide) (by decide))
          have b38x : zB v38 2 90 := by have q1 := b34x; have q2 := (zB.of (x := 2) 2 (by decide)); constructor <;> omega
          refine z_iald (pc := 161) C rfl (by decide) (zIx b38x (by decide) (by decide)) dX10_world_161 ?_
          have kq161_38 : v38.toNatClampNeg = v38.toInt.toNat := rfl
          refine w_gp (fun v => v = g126_ 38 0 v38.toNatClampNeg) rfl (fun v39 q39 => ?_)
          have b39x : zB v39 0 5 := by rw [q39]; exact (by have hq9 := hI126_ 38 0 v38.toNatClampNeg; rw [zrg38 (r := 2) (by have hq : v38.toNatClampNeg = v38.toInt.toNat := rfl; have hq2 := b38x; omega)] at hq9; exact hq9)
          refine z_aload_n (pc := 162) C dX10_world_162 rfl ?_
          refine z_getR (pc := 163) C zf_X10_46 rfl rfl (by decide) dX10_world_163 ?_
          refine z_iload_n (pc := 166) C dX10_world_166 rfl ?_
          refine z_iconst (pc := 167) (v := 3) C dX10_world_167 (by decide) ?_
          refine z_iadd (pc := 168) C dX10_world_168 ?_
          refine w_gp (fun v => v = v34 + (3 : Int32)) rfl (fun v40 q40 => ?_)
          have e40 : v40.toInt = v34.toInt + 3 := by rw [q40]; exact (zadd_eb b34x (zB.of (x := 3) 3 (by decide)) (by decide) (by decide))
          have b40x : zB v40 3 91 := by have q1 := b34x; have q2 := (zB.of (x := 3) 3 (by decide)); constructor <;> omega
          refine z_iald (pc := 169) C rfl (by decide) (zIx b40x (by decide) (by decide)) dX10_world_169 ?_
          have kq169_40 : v40.toNatClampNeg = v40.toInt.toNat := rfl
          refine w_gp (fun v => v = g126_ 38 0 v40.toNatClampNeg) rfl (fun v41 q41 => ?_)
          have b41x : zB v41 0 40 := by rw [q41]; exact (by have hq9 := hI126_ 38 0 v40.toNatClampNeg; rw [zrg38 (r := 3) (by have hq : v40.toNatClampNeg = v40.toInt.toNat := rfl; have hq2 := b40x; omega)] at hq9; exact hq9)
          refine z_iconst (pc := 170) (v := 0) C dX10_world_170 (by decide) ?_
          refine z_aload_n (pc := 171) C dX10_world_171 rfl ?_
          refine z_getR (pc := 172) C zf_X10_46 rfl rfl (by decide) dX10_world_172 ?_
          refine z_iload_n (pc := 175) C dX10_world_175 rfl ?_
          refine z_iconst (pc := 176) (v := 5) C dX10_world_176 (by decide) ?_
          refine z_iadd (pc := 177) C dX10_world_177 ?_
          refine w_gp (fun v => v = v34 + (5 : Int32)) rfl (fun v42 q42 => ?_)
          have e42 : v42.toInt = v34.toInt + 5 := by rw [q42]; exact (zadd_eb b34x (zB.of (x := 5) 5 (by decide)) (by decide) (by decide))
          have b42x : zB v42 5 93 := by have q1 := b34x; have q2 := (zB.of (x := 5) 5 (by decide)); constructor <;> omega
          refine z_iald (pc := 178) C rfl (by decide) (zIx b42x (by decide) (by decide)) dX10_world_178 ?_
          have kq178_42 : v42.toNatClampNeg = v42.toInt.toNat := rfl
          refine w_gp (fun v => v = g126_ 38 0 v42.toNatClampNeg) rfl (fun v43 q43 => ?_)
          have b43x : zB v43 0 31 := by rw [q43]; exact (by have hq9 := hI126_ 38 0 v42.toNatClampNeg; rw [zrg38 (r := 5) (by have hq : v42.toNatClampNeg = v42.toInt.toNat := rfl; have hq2 := b42x; omega)] at hq9; exact hq9)
          refine z_aload_n (pc := 179) C dX10_world_179 rfl ?_
          refine z_getR (pc := 180) C zf_X10_46 rfl rfl (by decide) dX10_world_180 ?_
          refine z_iload_n (pc := 183) C dX10_world_183 rfl ?_
          refine z_bipush (pc := 184) (v := 6) C dX10_world_184 (by decide) ?_
          refine z_iadd (pc := 186) C dX10_world_186 ?_
          refine w_gp (fun v => v = v34 + (6 : Int32)) rfl (fun v44 q44 => ?_)
          have e44 : v44.toInt = v34.toInt + 6 := by rw [q44]; exact (zadd_eb b34x (zB.of (x := 6) 6 (by decide)) (by decide) (by decide))
          have b44x : zB v44 6 94 := by have q1 := b34x; have q2 := (zB.of (x := 6) 6 (by decide)); constructor <;> omega
          refine z_iald (pc := 187) C rfl (by decide) (zIx b44x (by decide) (by decide)) dX10_world_187 ?_
          have kq187_44 : v44.toNatClampNeg = v44.toInt.toNat := rfl
          refine w_gp (fun v => v = g126_ 38 0 v44.toNatClampNeg) rfl (fun v45 q45 => ?_)
          have b45x : zB v45 0 99 := by rw [q45]; exact (by have hq9 := hI126_ 38 0 v44.toNatClampNeg; rw [zrg38 (r := 6) (by have hq : v44.toNatClampNeg = v44.toInt.toNat := rfl; have hq2 := b44x; omega)] at hq9; exact hq9)
          refine z_aload_n (pc := 188) C dX10_world_188 rfl ?_
          refine z_getR (pc := 189) C zf_X10_46 rfl rfl (by decide) dX10_world_189 ?_
          refine z_iload_n (pc := 192) C dX10_world_192 rfl ?_
          refine z_bipush (pc := 193) (v := 7) C dX10_world_193 (by decide) ?_
          refine z_iadd (pc := 195) C dX10_world_195 ?_
          refine w_gp (fun v => v = v34 + (7 : Int32)) rfl (fun v46 q46 => ?_)
          have e46 : v46.toInt = v34.toInt + 7 := by rw [q46]; exact (zadd_eb b34x (zB.of (x := 7) 7 (by decide)) (by decide) (by decide))
          have b46x : zB v46 7 95 := by have q1 := b34x; have q2 := (zB.of (x := 7) 7 (by decide)); constructor <;> omega
          refine z_iald (pc := 196) C rfl (by decide) (zIx b46x (by decide) (by decide)) dX10_world_196 ?_
          have kq196_46 : v46.toNatClampNeg = v46.toInt.toNat := rfl
          refine w_gp (fun v => v = g126_ 38 0 v46.toNatClampNeg) rfl (fun v47 q47 => ?_)
          have b47x : zB v47 0 7 := by rw [q47]; exact (by have hq9 := hI126_ 38 0 v46.toNatClampNeg; rw [zrg38 (r := 7) (by have hq : v46.toNatClampNeg = v46.toInt.toNat := rfl; have hq2 := b46x; omega)] at hq9; exact hq9)
          refine z_callV (pc := 197) C zk_X10_105 (x_X10_addPaper _ _ v35 b35x v37 b37x v39 b39x v41 b41x 0 (zB.wk (a' := (-2147483648)) (b' := 2147483647) (zB.of (x := 0) 0 (by decide)) (by decide) (by decide)) v43 b43x v45 b45x v47 b47x hI126_) rfl rfl (by decide) rfl rfl (Nat.le_of_ble_eq_true rfl) dX10_world_197 (fun r48 g48 q48 => ?_)
          have qa48_0 : (0 : Int32).toInt = 0 := by decide
          obtain ⟨⟨v48, rfl, b48x⟩, hI48, hF48q, hp48_0⟩ := q48
          have hp48_0 := hp48_0 _ rfl
          have hF48 := zFr.tr hF126_ hF48q (by decide)
          simp only [Option.toList, List.cons_append, List.nil_append]
          have ek48_25_0_0 : (g48 25 0 0).toInt = (g126_ 25 0 0).toInt := by rw [hF48q 25 0 0 rfl]
          have c48_25_0_0x : zB (g48 25 0 0) 0 24 := by rw [hF48q 25 0 0 rfl]; exact f126_25_0_0
          have cr48_25_0_4 : zB (g48 25 0 4) 0 12 := hI48 25 0 4
          have ek48_25_0_18 : (g48 25 0 18).toInt = (g126_ 25 0 18).toInt := by rw [hF48q 25 0 18 rfl]
          have c48_25_0_18x : zB (g48 25 0 18) 0 12 := by rw [hF48q 25 0 18 rfl]; exact f126_25_0_18
          have ek48_25_0_20 : (g48 25 0 20).toInt = (g126_ 25 0 20).toInt := by rw [hF48q 25 0 20 rfl]
          have c48_25_0_20x : zB (g48 25 0 20) 1 12 := by rw [hF48q 25 0 20 rfl]; exact c32x
          have ek48_25_0_17 : (g48 25 0 17).toInt = (g126_ 25 0 17).toInt := by rw [hF48q 25 0 17 rfl]
          have c48_25_0_17x : zB (g48 25 0 17) 0 120 := by rw [hF48q 25 0 17 rfl]; exact f126_25_0_17
          have ek48_25_0_16 : (g48 25 0 16).toInt = (g126_ 25 0 16).toInt := by rw [hF48q 25 0 16 rfl]
          have c48_25_0_16x : zB (g48 25 0 16) 0 0 := by rw [hF48q 25 0 16 rfl]; exact f126_25_0_16
          have hq2 := hp48_0.resolve_left (fun q => by omega)
          have hq3 : (g48 25 0 4).toInt = (g126_ 25 0 4).toInt + 1 := by rw [hq2.2.2.1]; exact zadd_eb (x := g126_ 25 0 4) (hI126_ 25 0 4) (zB.of (x := 1) 1 (by decide)) (by decide) (by decide)
          refine z_pop (pc := 200) C dX10_world_200 ?_
          refine z_iinc (pc := 201) (v := 1) C dX10_world_201 rfl (by decide) (by rw [hn]; decide) rfl ?_
          obtain ⟨v49, hv49, e49⟩ : ∃ v : Int32, v = a126_2 + 1 ∧ v.toInt = a126_2.toInt + 1 := ⟨_, rfl, zadd_eb b30x (zB.of (x := 1) 1 (by decide)) (by decide) (by decide)⟩
          rw [← hv49]
          have b49x : zB v49 1 12 := by have q9 := b30x; constructor <;> omega
          refine z_goto (pc := 204) 126 C dX10_world_204 (by decide) ?_
          refine w_mask [3] ?_
          exact ih1 v49 (zB.wk (a' := 0) (b' := 12) b49x (by decide) (by decide)) g48 hI48 hF48 c48_25_0_0x cr48_25_0_4 c48_25_0_16x c48_25_0_17x c48_25_0_18x (zB.wk c48_25_0_20x (by decide) (by decide)) (by have qc0 : (1 : Int32).toInt = 1 := (by decide); omega) (by have qc0 : (1 : Int32).toInt = 1 := (by decide); omega) (by have qc0 : (1 : Int32).toInt = 1 := (by decide); omega) (by have qc0 : (1 : Int32).toInt = 1 := (by decide); omega) (by have qc0 : (1 : Int32).toInt = 1 := (by decide); omega) (by
                                                                                          have x0 : v35 = (ps.getD a126_2.toInt.toNat (fun _ => 0)) 0 := by rw [q35, show (v34).toNatClampNeg = 8 * a126_2.toInt.toNat + 0 by omega]; exact hS.2.2.2 _ 0 (by omega) (by decide)
                                                                                          have x1 : v37 = (ps.getD a126_2.toInt.toNat (fun _ => 0)) 1 := by rw [q37, show (v36).toNatClampNeg = 8 * a126_2.toInt.toNat + 1 by omega]; exact hS.2.2.2 _ 1 (by omega) (by decide)
                                                                                          have x2 : v39 = (ps.getD a126_2.toInt.toNat (fun _ => 0)) 2 := by rw [q39, show (v38).toNatClampNeg = 8 * a126_2.toInt.toNat + 2 by omega]; exact hS.2.2.2 _ 2 (by omega) (by decide)
                                                                                          have x3 : v41 = (ps.getD a126_2.toInt.toNat (fun _ => 0)) 3 := by rw [q41, show (v40).toNatClampNeg = 8 * a126_2.toInt.toNat + 3 by omega]; exact hS.2.2.2 _ 3 (by omega) (by decide)
                                                                                          have x5 : v43 = (ps.getD a126_2.toInt.toNat (fun _ => 0)) 5 := by rw [q43, show (v42).toNatClampNeg = 8 * a126_2.toInt.toNat + 5 by omega]; exact hS.2.2.2 _ 5 (by omega) (by decide)
                                                                                          have x6 : v45 = (ps.getD a126_2.toInt.toNat (fun _ => 0)) 6 := by rw [q45, show (v44).toNatClampNeg = 8 * a126_2.toInt.toNat + 6 by omega]; exact hS.2.2.2 _ 6 (by omega) (by decide)
                                                                                          have x7 : v47 = (ps.getD a126_2.toInt.toNat (fun _ => 0)) 7 := by rw [q47, show (v46).toNatClampNeg = 8 * a126_2.toInt.toNat + 7 by omega]; exact hS.2.2.2 _ 7 (by omega) (by decide)
                                                                                          have x4 : (0 : Int32) = (ps.getD a126_2.toInt.toNat (fun _ => 0)) 4 := (zwd_p4 (zclR_4 T n) _ _ _ _ hW _ (getD_mem (by omega))).symm
                                                                                          have hn : (v49).toInt.toNat = a126_2.toInt.toNat + 1 := by omega
                                                                                          have hm0 : (g126_ 25 0 4).toInt.toNat = (f 25 0 4).toInt.toNat + a126_2.toInt.toNat := by omega
                                                                                          obtain ⟨_, _, ha, c0, c1⟩ := hp48_0.resolve_left (fun q => by omega)
                                                                                          rw [hm0] at c0 c1
                                                                                          rw [hn]
                                                                                          refine ⟨cs, ps, hW, zSm_k hS (hF48q 25 0 18 rfl) (hF48q 25 0 20 rfl) (fun x => hF48q 37 0 x rfl) (fun x => hF48q 38 0 x rfl), hl, hc1, hc2, zAm_k hA (fun q => hF48q 26 0 q rfl), zAm_s8 hB ?_ c1⟩
                                                                                          intro j hj
                                                                                          rw [c0 j hj]
                                                                                          rcases (show j = 0 ∨ j = 1 ∨ j = 2 ∨ j = 3 ∨ j = 4 ∨ j = 5 ∨ j = 6 ∨ j = 7 by omega) with rfl | rfl | rfl | rfl | rfl | rfl | rfl | rfl
                                                                                          · exact x0
                                                                                          · exact x1
                                                                                          · exact x2
                                                                                          · exact x3
                                                                                          · exact x4
                                                                                          · exact x5
                                                                                          · exact x6
                                                                                          · exact x7) (by have qc0 : (1 : Int32).toInt = 1 := (by decide); omega)
  obtain ⟨J0, J1⟩ := J 793
  show Z X 0 [some (zr 25 0), none, none, none] [] f
  refine z_aload_n (pc := 0) C dX10_world_0 rfl ?_
  refine z_callV (pc := 1) C zk_X10_248 (e_X10_readWorld _ _ T n hN h18 hTp hI) rfl rfl (by decide) rfl rfl (Nat.le_of_ble_eq_true rfl) dX10_world_1 (fun r50 g50 q50 => ?_)
  obtain ⟨⟨v50, rfl, b50x⟩, hI50, hF50q, pa⟩ := q50
  have pa := pa _ rfl
  have hF50 := zFr.tr hF hF50q (by decide)
  simp only [Option.toList, List.cons_append, List.nil_append]
  have ek50_25_0_0 : (g50 25 0 0).toInt = (f 25 0 0).toInt := by rw [hF50q 25 0 0 rfl]
  have c50_25_0_0x : zB (g50 25 0 0) 0 24 := by rw [hF50q 25 0 0 rfl]; exact ct25_0_0
  have ek50_25_0_4 : (g50 25 0 4).toInt = (f 25 0 4).toInt := by rw [hF50q 25 0 4 rfl]
  have c50_25_0_4x : zB (g50 25 0 4) 0 12 := by rw [hF50q 25 0 4 rfl]; exact ct25_0_4
  have cr50_25_0_18 : zB (g50 25 0 18) 0 12 := hI50 25 0 18
  have cr50_25_0_20 : zB (g50 25 0 20) 0 12 := hI50 25 0 20
  have cr50_25_0_17 : zB (g50 25 0 17) 0 120 := hI50 25 0 17
  have ek50_25_0_16 : (g50 25 0 16).toInt = (f 25 0 16).toInt := by rw [hF50q 25 0 16 rfl]
  have c50_25_0_16x : zB (g50 25 0 16) 0 120 := by rw [hF50q 25 0 16 rfl]; exact ct25_0_16
  rcases pa with ⟨e, hW, he, hz, rfl⟩ | ⟨cs, ps, hW, rfl, hl, hS⟩
  · skip
    have te : (g50 25 0 17).toInt = (e : Int) := by rw [hz]; exact nI_toInt (by omega)
    refine z_istore_n (pc := 4) C dX10_world_4 (by rw [hn]; decide) rfl ?_
    refine z_aload_n (pc := 5) C dX10_world_5 rfl ?_
    refine z_iconst (pc := 6) (v := 0) C dX10_world_6 (by decide) ?_
    refine z_putI (pc := 7) C zf_X10_208 zp_10_16 rfl rfl (by decide) dX10_world_7 ?_
    refine w_memx hI50 hF50 (zB.wk (a' := 0) (b' := 120) (zB.of (x := 0) 0 (by decide)) (by decide) (by decide)) rfl (fun g51 qm51 hI51 hF51 hq51 hx51 => ?_)
    have ek51_25_0_0 : (g51 25 0 0).toInt = (g50 25 0 0).toInt := by rw [hq51 25 0 0 (by omega)]
    have c51_25_0_0x : zB (g51 25 0 0) 0 24 := by rw [hq51 25 0 0 (by omega)]; exact c50_25_0_0x
    have ek51_25_0_4 : (g51 25 0 4).toInt = (g50 25 0 4).toInt := by rw [hq51 25 0 4 (by omega)]
    have c51_25_0_4x : zB (g51 25 0 4) 0 12 := by rw [hq51 25 0 4 (by omega)]; exact c50_25_0_4x
    have ek51_25_0_18 : (g51 25 0 18).toInt = (g50 25 0 18).toInt := by rw [hq51 25 0 18 (by omega)]
    have c51_25_0_18x : zB (g51 25 0 18) 0 12 := by rw [hq51 25 0 18 (by omega)]; exact cr50_25_0_18
    have ek51_25_0_20 : (g51 25 0 20).toInt = (g50 25 0 20).toInt := by rw [hq51 25 0 20 (by omega)]
    have c51_25_0_20x : zB (g51 25 0 20) 0 12 := by rw [hq51 25 0 20 (by omega)]; exact cr50_25_0_20
    have ek51_25_0_17 : (g51 25 0 17).toInt = (g50 25 0 17).toInt := by rw [hq51 25 0 17 (by omega)]
    have c51_25_0_17x : zB (g51 25 0 17) 0 120 := by rw [hq51 25 0 17 (by omega)]; exact cr50_25_0_17
    have ec51 : (g51 25 0 16).toInt = (0 : Int32).toInt := by rw [hx51]
    have c51x : zB (g51 25 0 16) 0 0 := by have q9 := (zB.of (x := 0) 0 (by decide)); constructor <;> omega
    refine z_iload_n (pc := 10) C dX10_world_10 rfl ?_
    refine z_if_ne (pc := 11) 22 C dX10_world_11 (by decide) (fun h11_51 => absurd h11_51 (by decide)) (fun h11_51 => ?_)
    refine z_bipush (pc := 14) (v := -20) C dX10_world_14 (by decide) ?_
    refine z_aload_n (pc := 16) C dX10_world_16 rfl ?_
    refine z_getI (pc := 17) C zf_X10_211 rfl rfl (by decide) dX10_world_17 ?_
    refine w_gp (fun v => v = g51 25 0 17) rfl (fun v53 q53 => ?_)
    have e53 : v53.toInt = (g51 25 0 17).toInt := by rw [q53]
    have b53x : zB v53 0 120 := by first | exact zB.eqv e53 c51_25_0_17x | (have q9 := c51_25_0_17x; constructor <;> omega)
    refine z_isub (pc := 20) C dX10_world_20 ?_
    refine w_gp (fun v => v = ((-20) : Int32) - v53) rfl (fun v54 q54 => ?_)
    have e54 : v54.toInt = (-20) - v53.toInt := by rw [q54]; exact (zsub_eb (zB.of (x := (-20)) (-20) (by decide)) b53x (by decide) (by decide))
    have b54x : zB v54 (-140) (-20) := by have q1 := (zB.of (x := (-20)) (-20) (by decide)); have q2 := b53x; constructor <;> omega
    exact z_iret (pc := 21) C hr dX10_world_21 ⟨⟨_, rfl, (zB.wk (a' := (-140)) (b' := 24) b54x (by decide) (by decide))⟩, hI51, hF51, (by
                                                                                          intro v hv; cases hv
                                                                                          have eo : ∀ x y z, ¬ (x = 25 ∧ y = 0 ∧ z = 16) → g51 x y z = g50 x y z := fun x y z h => by rw [qm51]; exact zup_ne _ _ h
                                                                                          have hkm : zKm f g51 := ⟨by rw [z32eq]; omega, by rw [z32eq]; omega, fun q => (eo 26 0 q (by omega)).trans (hF50q 26 0 q rfl), fun q => (eo 28 0 q (by omega)).trans (hF50q 28 0 q rfl)⟩
                                                                                          rw [hW]
                                                                                          exact ⟨by omega, hkm⟩), (by intro v hv; cases hv; have qc0 : (0 : Int32).toInt = 0 := (by decide); omega)⟩
  · skip
    have t4 : (g50 25 0 18).toInt = (cs.length : Int) := by rw [hS.1]; exact nI_toInt (by omega)
    have t5 : (g50 25 0 20).toInt = (ps.length : Int) := by rw [hS.2.1]; exact nI_toInt (by omega)
    refine z_istore_n (pc := 4) C dX10_world_4 (by rw [hn]; decide) rfl ?_
    refine z_aload_n (pc := 5) C dX10_world_5 rfl ?_
    refine z_iconst (pc := 6) (v := 0) C dX10_world_6 (by decide) ?_
    refine z_putI (pc := 7) C zf_X10_208 zp_10_16 rfl rfl (by decide) dX10_world_7 ?_
    refine w_memx hI50 hF50 (zB.wk (a' := 0) (b' := 120) (zB.of (x := 0) 0 (by decide)) (by decide) (by decide)) rfl (fun g55 qm55 hI55 hF55 hq55 hx55 => ?_)
    have ek55_25_0_0 : (g55 25 0 0).toInt = (g50 25 0 0).toInt := by rw [hq55 25 0 0 (by omega)]
    have c55_25_0_0x : zB (g55 25 0 0) 0 24 := by rw [hq55 25 0 0 (by omega)]; exact c50_25_0_0x
    have ek55_25_0_4 : (g55 25 0 4).toInt = (g50 25 0 4).toInt := by rw [hq55 25 0 4 (by omega)]
    have c55_25_0_4x : zB (g55 25 0 4) 0 12 := by rw [hq55 25 0 4 (by omega)]; exact c50_25_0_4x
    have ek55_25_0_18 : (g55 25 0 18).toInt = (g50 25 0 18).toInt := by rw [hq55 25 0 18 (by omega)]
    have c55_25_0_18x : zB (g55 25 0 18) 0 12 := by rw [hq55 25 0 18 (by omega)]; exact cr50_25_0_18
    have ek55_25_0_20 : (g55 25 0 20).toInt = (g50 25 0 20).toInt := by rw [hq55 25 0 20 (by omega)]
    have c55_25_0_20x : zB (g55 25 0 20) 0 12 := by rw [hq55 25 0 20 (by omega)]; exact cr50_25_0_20
    have ek55_25_0_17 : (g55 25 0 17).toInt = (g50 25 0 17).toInt := by rw [hq55 25 0 17 (by omega)]
    have c55_25_0_17x : zB (g55 25 0 17) 0 120 := by rw [hq55 25 0 17 (by omega)]; exact cr50_25_0_17
    have ec55 : (g55 25 0 16).toInt = (0 : Int32).toInt := by rw [hx55]
    have c55x : zB (g55 25 0 16) 0 0 := by have q9 := (zB.of (x := 0) 0 (by decide)); constructor <;> omega
    refine z_iload_n (pc := 10) C dX10_world_10 rfl ?_
    refine z_if_ne (pc := 11) 22 C dX10_world_11 (by decide) (fun h11_55 => ?_) (fun h11_55 => absurd h11_55 (by decide))
    refine z_aload_n (pc := 22) C dX10_world_22 rfl ?_
    refine z_getI (pc := 23) C zf_X10_80 rfl rfl (by decide) dX10_world_23 ?_
    refine w_gp (fun v => v = g55 25 0 0) rfl (fun v57 q57 => ?_)
    have e57 : v57.toInt = (g55 25 0 0).toInt := by rw [q57]
    have b57x : zB v57 0 24 := by first | exact zB.eqv e57 c55_25_0_0x | (have q9 := c55_25_0_0x; constructor <;> omega)
    refine z_aload_n (pc := 26) C dX10_world_26 rfl ?_
    refine z_getI (pc := 27) C zf_X10_221 rfl rfl (by decide) dX10_world_27 ?_
    refine w_gp (fun v => v = g55 25 0 18) rfl (fun v58 q58 => ?_)
    have e58 : v58.toInt = (g55 25 0 18).toInt := by rw [q58]
    have b58x : zB v58 0 12 := by first | exact zB.eqv e58 c55_25_0_18x | (have q9 := c55_25_0_18x; constructor <;> omega)
    refine z_iadd (pc := 30) C dX10_world_30 ?_
    refine w_gp (fun v => v = v57 + v58) rfl (fun v59 q59 => ?_)
    have e59 : v59.toInt = v57.toInt + v58.toInt := by rw [q59]; exact (zadd_eb b57x b58x (by decide) (by decide))
    have b59x : zB v59 0 36 := by have q1 := b57x; have q2 := b58x; constructor <;> omega
    refine z_bipush (pc := 31) (v := 24) C dX10_world_31 (by decide) ?_
    refine z_icmp_gt (pc := 33) 50 C dX10_world_33 (by decide) (fun h33_59 => ?_) (fun h33_59 => ?_)
    · skip
      have b61x : zB v59 25 36 := by have q1 := b59x; have q2 := (zB.of (x := 24) 24 (by decide)); simp only [z32lt, z32le, z32eq, Int32.reduceToInt, Int32.toInt_zero] at h33_59; constructor <;> omega
      refine z_bipush (pc := 50) (v := -3) C dX10_world_50 (by decide) ?_
      exact z_iret (pc := 52) C hr dX10_world_52 ⟨⟨_, rfl, (zB.wk (a' := (-140)) (b' := 24) (zB.of (x := (-3)) (-3) (by decide)) (by decide) (by decide))⟩, hI55, hF55, (by
                                                                                          intro v hv; cases hv
                                                                                          have eo : ∀ x y z, ¬ (x = 25 ∧ y = 0 ∧ z = 16) → g55 x y z = g50 x y z := fun x y z h => by rw [qm55]; exact zup_ne _ _ h
                                                                                          have hkm : zKm f g55 := ⟨by rw [z32eq]; omega, by rw [z32eq]; omega, fun q => (eo 26 0 q (by omega)).trans (hF50q 26 0 q rfl), fun q => (eo 28 0 q (by omega)).trans (hF50q 28 0 q rfl)⟩
                                                                                          rw [hW]
                                                                                          simp only [zWm]
                                                                                          exact Or.inl ⟨by omega, by first | rfl | trivial, hkm⟩), (by intro v hv; cases hv; have qc0 : ((-3) : Int32).toInt = (-3) := (by decide); have qc1 : (1 : Int32).toInt = 1 := (by decide); omega)⟩
    · skip
      have b62x : zB v59 0 24 := by have q1 := b59x; have q2 := (zB.of (x := 24) 24 (by decide)); simp only [z32lt, z32le, z32eq, Int32.reduceToInt, Int32.toInt_zero] at h33_59; constructor <;> omega
      refine z_aload_n (pc := 36) C dX10_world_36 rfl ?_
      refine z_getI (pc := 37) C zf_X10_77 rfl rfl (by decide) dX10_world_37 ?_
      refine w_gp (fun v => v = g55 25 0 4) rfl (fun v63 q63 => ?_)
      have e63 : v63.toInt = (g55 25 0 4).toInt := by rw [q63]
      have b63x : zB v63 0 12 := by first | exact zB.eqv e63 c55_25_0_4x | (have q9 := c55_25_0_4x; constructor <;> omega)
      refine z_aload_n (pc := 40) C dX10_world_40 rfl ?_
      refine z_getI (pc := 41) C zf_X10_233 rfl rfl (by decide) dX10_world_41 ?_
      refine w_gp (fun v => v = g55 25 0 20) rfl (fun v64 q64 => ?_)
      have e64 : v64.toInt = (g55 25 0 20).toInt := by rw [q64]
      have b64x : zB v64 0 12 := by first | exact zB.eqv e64 c55_25_0_20x | (have q9 := c55_25_0_20x; constructor <;> omega)
      refine z_iadd (pc := 44) C dX10_world_44 ?_
      refine w_gp (fun v => v = v63 + v64) rfl (fun v65 q65 => ?_)
      have e65 : v65.toInt = v63.toInt + v64.toInt := by rw [q65]; exact (zadd_eb b63x b64x (by decide) (by decide))
      have b65x : zB v65 0 24 := by have q1 := b63x; have q2 := b64x; constructor <;> omega
      refine z_bipush (pc := 45) (v := 12) C dX10_world_45 (by decide) ?_
      refine z_icmp_le (pc := 47) 53 C dX10_world_47 (by decide) (fun h47_65 => ?_) (fun h47_65 => ?_)
      · skip
        have b67x : zB v65 0 12 := by have q1 := b65x; have q2 := (zB.of (x := 12) 12 (by decide)); simp only [z32lt, z32le, z32eq, Int32.reduceToInt, Int32.toInt_zero] at h47_65; constructor <;> omega
        refine z_iconst (pc := 53) (v := 0) C dX10_world_53 (by decide) ?_
        refine z_istore_n (pc := 54) C dX10_world_54 (by rw [hn]; decide) rfl ?_
        exact J0 0 (zB.wk (a' := 0) (b' := 12) (zB.of (x := 0) 0 (by decide)) (by decide) (by decide)) g55 hI55 hF55 c55_25_0_0x c55_25_0_4x c55x c55_25_0_17x c55_25_0_18x c55_25_0_20x (by have qc0 : (0 : Int32).toInt = 0 := (by decide); have qc1 : (1 : Int32).toInt = 1 := (by decide); omega) (by have qc0 : (0 : Int32).toInt = 0 := (by decide); have qc1 : (1 : Int32).toInt = 1 := (by decide); omega) (by have qc0 : (0 : Int32).toInt = 0 := (by decide); have qc1 : (1 : Int32).toInt = 1 := (by decide); omega) (by have qc0 : (0 : Int32).toInt = 0 := (by decide); have qc1 : (1 : Int32).toInt = 1 := (by decide); omega) (by have qc0 : (0 : Int32).toInt = 0 := (by decide); have qc1 : (1 : Int32).toInt = 1 := (by decide); omega) (by have qc0 : (0 : Int32).toInt = 0 := (by decide); have qc1 : (1 : Int32).toInt = 1 := (by decide); omega) (by
                                                                                          have eo : ∀ x y z, ¬ (x = 25 ∧ y = 0 ∧ z = 16) → g55 x y z = g50 x y z := fun x y z h => by rw [qm55]; exact zup_ne _ _ h
                                                                                          exact ⟨cs, ps, hW, zSm_k hS (eo 25 0 18 (by omega)) (eo 25 0 20 (by omega)) (fun x => eo 37 0 x (by omega)) (fun x => eo 38 0 x (by omega)), hl, by omega, by omega, zAm_0 (fun q => (eo 26 0 q (by omega)).trans (hF50q 26 0 q rfl)), fun q => (eo 28 0 q (by omega)).trans (hF50q 28 0 q rfl)⟩) (by have qc0 : (0 : Int32).toInt = 0 := (by decide); have qc1 : (1 : Int32).toInt = 1 := (by decide); omega)
      · skip
        have b68x : zB v65 13 24 := by have q1 := b65x; have q2 := (zB.of (x := 12) 12 (by decide)); simp only [z32lt, z32le, z32eq, Int32.reduceToInt, Int32.toInt_zero] at h47_65; constructor <;> omega
        refine z_bipush (pc := 50) (v := -3) C dX10_world_50 (by decide) ?_
        exact z_iret (pc := 52) C hr dX10_world_52 ⟨⟨_, rfl, (zB.wk (a' := (-140)) (b' := 24) (zB.of (x := (-3)) (-3) (by decide)) (by decide) (by decide))⟩, hI55, hF55, (by
                                                                                          intro v hv; cases hv
                                                                                          have eo : ∀ x y z, ¬ (x = 25 ∧ y = 0 ∧ z = 16) → g55 x y z = g50 x y z := fun x y z h => by rw [qm55]; exact zup_ne _ _ h
                                                                                          have hkm : zKm f g55 := ⟨by rw [z32eq]; omega, by rw [z32eq]; omega, fun q => (eo 26 0 q (by omega)).trans (hF50q 26 0 q rfl), fun q => (eo 28 0 q (by omega)).trans (hF50q 28 0 q rfl)⟩
                                                                                          rw [hW]
                                                                                          simp only [zWm]
                                                                                          exact Or.inl ⟨by omega, by first | rfl | trivial, hkm⟩), (by intro v hv; cases hv; have qc0 : ((-3) : Int32).toInt = (-3) := (by decide); have qc1 : (1 : Int32).toInt = 1 := (by decide); omega)⟩
