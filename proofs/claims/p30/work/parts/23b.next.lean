def zsk (T : Nat → Int32) (n : Nat) : Nat → Nat → Nat
  | 0, p => p
  | m + 1, p => if p < n ∧ T p = 32 then zsk T n m (p + 1) else p
/-- the first place from p on that is no blank (or the end) -/
def zsp (T : Nat → Int32) (n p : Nat) : Nat := zsk T n (n - p) p
theorem zsk_le (T : Nat → Int32) (n : Nat) : ∀ m p, p ≤ zsk T n m p ∧ (p ≤ n → zsk T n m p ≤ n) ∧ (n ≤ p → zsk T n m p = p)
  | 0, p => ⟨Nat.le_refl p, fun h => h, fun _ => rfl⟩
  | m + 1, p => by
    unfold zsk
    split
    · rename_i h
      have := zsk_le T n m (p + 1)
      exact ⟨by omega, fun _ => this.2.1 (by omega), fun q => by omega⟩
    · exact ⟨Nat.le_refl p, fun h => h, fun _ => rfl⟩
theorem zsp_ge (T : Nat → Int32) (n p : Nat) : p ≤ zsp T n p := (zsk_le T n _ p).1
theorem zsp_le (T : Nat → Int32) (n p : Nat) : zsp T n p ≤ max n p := by
  have := zsk_le T n (n - p) p
  unfold zsp
  rcases Nat.le_total p n with h | h
  · have := this.2.1 h; omega
  · have := this.2.2 h; omega
theorem zsk_nb (T : Nat → Int32) (n : Nat) : ∀ m p, n ≤ p + m → zsk T n m p < n → ¬ T (zsk T n m p) = 32
  | 0, p, h1, h2 => by unfold zsk at h2; omega
  | m + 1, p, h1, h2 => by
    unfold zsk at h2 ⊢
    split
    · rename_i h
      rw [if_pos h] at h2
      exact zsk_nb T n m (p + 1) (by omega) h2
    · rename_i h
      rw [if_neg h] at h2
      exact fun q => h ⟨h2, q⟩
theorem zsp_nb (T : Nat → Int32) (n p : Nat) : zsp T n p < n → ¬ T (zsp T n p) = 32 := zsk_nb T n (n - p) p (by omega)
theorem zsp_fix (T : Nat → Int32) (n p : Nat) : p < n → ¬ T p = 32 → zsp T n p = p := by
  intro h1 h2
  unfold zsp
  obtain ⟨m, hm⟩ : ∃ m, n - p = m + 1 := ⟨n - p - 1, by omega⟩
  rw [hm, zsk, if_neg (fun q => h2 q.2)]
theorem zup_up (f : zM) (k n j : Nat) (x y : Int32) : zup (zup f k n j x) k n j y = zup f k n j y := by
  funext a b c
  unfold zup
  split <;> rfl
theorem zup_id (f : zM) (k n j : Nat) : zup f k n j (f k n j) = f := by
  funext a b c
  unfold zup
  split
  · rename_i q; obtain ⟨rfl, rfl, rfl⟩ := q; rfl
  · rfl
set_option maxRecDepth 100000 in
set_option maxHeartbeats 4000000 in
theorem nxm_loop {X : zX} {d n : Nat} {f : zM} (C : zC X cX10_next yX10_next.cls d) (hn : znL X = 1) (hT : f 25 0 16 = nI n) (h2 : n ≤ 120) :
    ∀ (m a : Nat), n ≤ a + m → a ≤ 120 → Z X 38 [some (zr 25 0)] [] (zup f 25 0 17 (nI (zsk (f 36 0) n m a))) → Z X 0 [some (zr 25 0)] [] (zup f 25 0 17 (nI a)) := by
  intro m
  induction m with
  | zero =>
    intro a h1 ha kk
    refine z_aload_n (pc := 0) C dX10_next_0 rfl ?_
    refine z_getI (pc := 1) C zf_X10_211 rfl rfl (by decide) dX10_next_1 ?_
    refine z_aload_n (pc := 4) C dX10_next_4 rfl ?_
    refine z_getI (pc := 5) C zf_X10_208 rfl rfl (by decide) dX10_next_5 ?_
    rw [zup_same, zup_ne _ _ (by omega), hT]
    exact z_icmp_ge (pc := 8) 38 C dX10_next_8 (by decide) (fun _ => kk) (fun h => absurd (nI_le (by omega) (by omega)) h)
  | succ m ih =>
    intro a h1 ha kk
    refine z_aload_n (pc := 0) C dX10_next_0 rfl ?_
    refine z_getI (pc := 1) C zf_X10_211 rfl rfl (by decide) dX10_next_1 ?_
    refine z_aload_n (pc := 4) C dX10_next_4 rfl ?_
    refine z_getI (pc := 5) C zf_X10_208 rfl rfl (by decide) dX10_next_5 ?_
    rw [zup_same, zup_ne _ _ (by omega), hT]
    by_cases hlt : a < n
    · refine z_icmp_ge (pc := 8) 38 C dX10_next_8 (by decide) (fun h => absurd h (nI_ge hlt (by omega))) (fun _ => ?_)
      refine z_aload_n (pc := 11) C dX10_next_11 rfl ?_
      refine z_getR (pc := 12) C zf_X10_40 rfl rfl (by decide) dX10_next_12 ?_
      refine z_aload_n (pc := 15) C dX10_next_15 rfl ?_
      refine z_getI (pc := 16) C zf_X10_211 rfl rfl (by decide) dX10_next_16 ?_
      rw [zup_same]
      refine z_iald (pc := 19) C rfl (by decide) (nI_in (N := 120) (by omega) (by omega)) dX10_next_19 ?_
      rw [nI_clamp (by omega), zup_ne _ _ (by omega)]
      refine z_bipush (pc := 20) (v := 32) C dX10_next_20 (by decide) ?_
      refine z_icmp_ne (pc := 22) 38 C dX10_next_22 (by decide) (fun h => ?_) (fun h => ?_)
      · rw [zsk, if_neg (fun q => h q.2)] at kk
        exact kk
      · rw [zsk, if_pos ⟨hlt, h⟩] at kk
        refine z_aload_n (pc := 25) C dX10_next_25 rfl ?_
        refine z_dupr (pc := 26) C dX10_next_26 ?_
        refine z_getI (pc := 27) C zf_X10_211 rfl rfl (by decide) dX10_next_27 ?_
        rw [zup_same]
        refine z_iconst (pc := 30) (v := 1) C dX10_next_30 (by decide) ?_
        refine z_iadd (pc := 31) C dX10_next_31 ?_
        refine z_putI (pc := 32) C zf_X10_211 zp_10_17 rfl rfl (by decide) dX10_next_32 ?_
        rw [zup_up, ← nI_succ]
        refine z_goto (pc := 35) 0 C dX10_next_35 (by decide) ?_
        exact ih (a + 1) (by omega) (by omega) kk
    · rw [zsk, if_neg (fun q => hlt q.1)] at kk
      exact z_icmp_ge (pc := 8) 38 C dX10_next_8 (by decide) (fun _ => kk) (fun h => absurd (nI_le (by omega) (by omega)) h)
set_option maxRecDepth 100000 in
set_option maxHeartbeats 4000000 in
theorem m_X10_next (d : Nat) (f : zM) (a n : Nat) (ha : f 25 0 17 = nI a) (hT : f 25 0 16 = nI n) (h1 : a ≤ 120) (h2 : n ≤ 120) : ZM d yX10_next cX10_next 1 (some .int) [zr 25 0] f (fun r g => r = some (zi (if zsp (f 36 0) n a < n then f 36 0 (zsp (f 36 0) n a) else -1)) ∧ g = zup f 25 0 17 (nI (zsp (f 36 0) n a))) := by
  refine ZM.intro (by decide +kernel) (Nat.le_of_ble_eq_true rfl) ?_
  intro X C hr hn
  show Z X 0 [some (zr 25 0)] [] f
  have hb := zsp_le (f 36 0) n a
  have e0 : f = (zup f 25 0 17 (nI a)) := by rw [← ha]; exact (zup_id f 25 0 17).symm
  have key := nxm_loop (f := f) C hn hT h2 (n - a) a (by omega) h1
  rw [← e0] at key
  refine key ?_
  show Z X 38 [some (zr 25 0)] [] (zup f 25 0 17 (nI (zsp (f 36 0) n a)))
  generalize hbq : zsp (f 36 0) n a = b at hb ⊢
  refine z_aload_n (pc := 38) C dX10_next_38 rfl ?_
  refine z_getI (pc := 39) C zf_X10_211 rfl rfl (by decide) dX10_next_39 ?_
  refine z_aload_n (pc := 42) C dX10_next_42 rfl ?_
  refine z_getI (pc := 43) C zf_X10_208 rfl rfl (by decide) dX10_next_43 ?_
  rw [zup_same, zup_ne _ _ (by omega), hT]
  by_cases hlt : b < n
  · refine z_icmp_ge (pc := 46) 61 C dX10_next_46 (by decide) (fun h => absurd h (nI_ge hlt (by omega))) (fun _ => ?_)
    refine z_aload_n (pc := 49) C dX10_next_49 rfl ?_
    refine z_getR (pc := 50) C zf_X10_40 rfl rfl (by decide) dX10_next_50 ?_
    refine z_aload_n (pc := 53) C dX10_next_53 rfl ?_
    refine z_getI (pc := 54) C zf_X10_211 rfl rfl (by decide) dX10_next_54 ?_
    rw [zup_same]
    refine z_iald (pc := 57) C rfl (by decide) (nI_in (N := 120) (by omega) (by omega)) dX10_next_57 ?_
    rw [nI_clamp (by omega), zup_ne _ _ (by omega)]
    refine z_goto (pc := 58) 62 C dX10_next_58 (by decide) ?_
    exact z_iret (pc := 62) C hr dX10_next_62 ⟨by rw [hbq, if_pos hlt], by rw [hbq]⟩
  · refine z_icmp_ge (pc := 46) 61 C dX10_next_46 (by decide) (fun _ => ?_) (fun h => absurd (nI_le (by omega) (by omega)) h)
    refine z_iconst (pc := 61) (v := -1) C dX10_next_61 (by decide) ?_
    exact z_iret (pc := 62) C hr dX10_next_62 ⟨by rw [hbq, if_neg hlt], by rw [hbq]⟩
set_option maxRecDepth 100000 in
set_option maxHeartbeats 4000000 in
theorem nxx_loop {X : zX} {d n : Nat} {f : zM} (C : zC X cX7_next yX7_next.cls d) (hn : znL X = 1) (hT : f 18 0 3 = nI n) (h2 : n ≤ 120) :
    ∀ (m a : Nat), n ≤ a + m → a ≤ 120 → Z X 38 [some (zr 18 0)] [] (zup f 18 0 6 (nI (zsk (f 19 0) n m a))) → Z X 0 [some (zr 18 0)] [] (zup f 18 0 6 (nI a)) := by
  intro m
  induction m with
  | zero =>
    intro a h1 ha kk
    refine z_aload_n (pc := 0) C dX7_next_0 rfl ?_
    refine z_getI (pc := 1) C zf_X7_33 rfl rfl (by decide) dX7_next_1 ?_
    refine z_aload_n (pc := 4) C dX7_next_4 rfl ?_
    refine z_getI (pc := 5) C zf_X7_29 rfl rfl (by decide) dX7_next_5 ?_
    rw [zup_same, zup_ne _ _ (by omega), hT]
    exact z_icmp_ge (pc := 8) 38 C dX7_next_8 (by decide) (fun _ => kk) (fun h => absurd (nI_le (by omega) (by omega)) h)
  | succ m ih =>
    intro a h1 ha kk
    refine z_aload_n (pc := 0) C dX7_next_0 rfl ?_
    refine z_getI (pc := 1) C zf_X7_33 rfl rfl (by decide) dX7_next_1 ?_
    refine z_aload_n (pc := 4) C dX7_next_4 rfl ?_
    refine z_getI (pc := 5) C zf_X7_29 rfl rfl (by decide) dX7_next_5 ?_
    rw [zup_same, zup_ne _ _ (by omega), hT]
    by_cases hlt : a < n
    · refine z_icmp_ge (pc := 8) 38 C dX7_next_8 (by decide) (fun h => absurd h (nI_ge hlt (by omega))) (fun _ => ?_)
      refine z_aload_n (pc := 11) C dX7_next_11 rfl ?_
      refine z_getR (pc := 12) C zf_X7_9 rfl rfl (by decide) dX7_next_12 ?_
      refine z_aload_n (pc := 15) C dX7_next_15 rfl ?_
      refine z_getI (pc := 16) C zf_X7_33 rfl rfl (by decide) dX7_next_16 ?_
      rw [zup_same]
      refine z_cald (pc := 19) C rfl (by decide) (nI_in (N := 120) (by omega) (by omega)) dX7_next_19 ?_
      rw [nI_clamp (by omega), zup_ne _ _ (by omega)]
      refine z_bipush (pc := 20) (v := 32) C dX7_next_20 (by decide) ?_
      refine z_icmp_ne (pc := 22) 38 C dX7_next_22 (by decide) (fun h => ?_) (fun h => ?_)
      · rw [zsk, if_neg (fun q => h q.2)] at kk
        exact kk
      · rw [zsk, if_pos ⟨hlt, h⟩] at kk
        refine z_aload_n (pc := 25) C dX7_next_25 rfl ?_
        refine z_dupr (pc := 26) C dX7_next_26 ?_
        refine z_getI (pc := 27) C zf_X7_33 rfl rfl (by decide) dX7_next_27 ?_
        rw [zup_same]
        refine z_iconst (pc := 30) (v := 1) C dX7_next_30 (by decide) ?_
        refine z_iadd (pc := 31) C dX7_next_31 ?_
        refine z_putI (pc := 32) C zf_X7_33 zp_7_6 rfl rfl (by decide) dX7_next_32 ?_
        rw [zup_up, ← nI_succ]
        refine z_goto (pc := 35) 0 C dX7_next_35 (by decide) ?_
        exact ih (a + 1) (by omega) (by omega) kk
    · rw [zsk, if_neg (fun q => hlt q.1)] at kk
      exact z_icmp_ge (pc := 8) 38 C dX7_next_8 (by decide) (fun _ => kk) (fun h => absurd (nI_le (by omega) (by omega)) h)
set_option maxRecDepth 100000 in
set_option maxHeartbeats 4000000 in
theorem m_X7_next (d : Nat) (f : zM) (a n : Nat) (ha : f 18 0 6 = nI a) (hT : f 18 0 3 = nI n) (h1 : a ≤ 120) (h2 : n ≤ 120) : ZM d yX7_next cX7_next 1 (some .int) [zr 18 0] f (fun r g => r = some (zi (if zsp (f 19 0) n a < n then f 19 0 (zsp (f 19 0) n a) else -1)) ∧ g = zup f 18 0 6 (nI (zsp (f 19 0) n a))) := by
  refine ZM.intro (by decide +kernel) (Nat.le_of_ble_eq_true rfl) ?_
  intro X C hr hn
  show Z X 0 [some (zr 18 0)] [] f
  have hb := zsp_le (f 19 0) n a
  have e0 : f = (zup f 18 0 6 (nI a)) := by rw [← ha]; exact (zup_id f 18 0 6).symm
  have key := nxx_loop (f := f) C hn hT h2 (n - a) a (by omega) h1
  rw [← e0] at key
  refine key ?_
  show Z X 38 [some (zr 18 0)] [] (zup f 18 0 6 (nI (zsp (f 19 0) n a)))
  generalize hbq : zsp (f 19 0) n a = b at hb ⊢
  refine z_aload_n (pc := 38) C dX7_next_38 rfl ?_
  refine z_getI (pc := 39) C zf_X7_33 rfl rfl (by decide) dX7_next_39 ?_
  refine z_aload_n (pc := 42) C dX7_next_42 rfl ?_
  refine z_getI (pc := 43) C zf_X7_29 rfl rfl (by decide) dX7_next_43 ?_
  rw [zup_same, zup_ne _ _ (by omega), hT]
  by_cases hlt : b < n
  · refine z_icmp_ge (pc := 46) 61 C dX7_next_46 (by decide) (fun h => absurd h (nI_ge hlt (by omega))) (fun _ => ?_)
    refine z_aload_n (pc := 49) C dX7_next_49 rfl ?_
    refine z_getR (pc := 50) C zf_X7_9 rfl rfl (by decide) dX7_next_50 ?_
    refine z_aload_n (pc := 53) C dX7_next_53 rfl ?_
    refine z_getI (pc := 54) C zf_X7_33 rfl rfl (by decide) dX7_next_54 ?_
    rw [zup_same]
    refine z_cald (pc := 57) C rfl (by decide) (nI_in (N := 120) (by omega) (by omega)) dX7_next_57 ?_
    rw [nI_clamp (by omega), zup_ne _ _ (by omega)]
    refine z_goto (pc := 58) 62 C dX7_next_58 (by decide) ?_
    exact z_iret (pc := 62) C hr dX7_next_62 ⟨by rw [hbq, if_pos hlt], by rw [hbq]⟩
  · refine z_icmp_ge (pc := 46) 61 C dX7_next_46 (by decide) (fun _ => ?_) (fun h => absurd (nI_le (by omega) (by omega)) h)
    refine z_iconst (pc := 61) (v := -1) C dX7_next_61 (by decide) ?_
    exact z_iret (pc := 62) C hr dX7_next_62 ⟨by rw [hbq, if_neg hlt], by rw [hbq]⟩
/-- a byte that is no blank stands where it reads -/
def nxx_q (f : zM) : Int := if (f 18 0 6).toInt < (f 18 0 3).toInt ∧ ¬ f 19 0 (f 18 0 6).toNatClampNeg = 32 then 1 else 0
theorem w_X7_next (d : Nat) (f : zM) (hI : zInv f) : ZM d yX7_next cX7_next 1 (some .int) [zr 18 0] f (fun r g => (∃ v, r = some (zi v) ∧ zB v (-1) 255) ∧ zInv g ∧ zFr [(18, some 6)] f g ∧ (∀ v : Int32, r = some (zi v) → (f 18 0 6).toInt ≤ (g 18 0 6).toInt) ∧ (∀ v : Int32, r = some (zi v) → 0 ≤ v.toInt → nxx_q g = 1) ∧ (∀ v : Int32, r = some (zi v) → nxx_q f = 1 → 0 ≤ v.toInt ∧ (g 18 0 6).toInt = (f 18 0 6).toInt) ∧ (∀ v : Int32, r = some (zi v) → 0 ≤ v.toInt → 0 ≤ (g 18 0 6).toInt ∧ (g 18 0 6).toInt ≤ 119)) := by
  have q1 : zB (f 18 0 6) 0 120 := hI 18 0 6
  have q2 : zB (f 18 0 3) 0 120 := hI 18 0 3
  obtain ⟨e1, u1⟩ := nI_ofI (x := f 18 0 6) q1.1
  obtain ⟨e2, u2⟩ := nI_ofI (x := f 18 0 3) q2.1
  generalize ha : (f 18 0 6).toInt.toNat = a at e1 u1
  generalize hn : (f 18 0 3).toInt.toNat = n at e2 u2
  have a120 : a ≤ 120 := by have := q1.2; omega
  have n120 : n ≤ 120 := by have := q2.2; omega
  refine ZM.mono (m_X7_next d f a n e1 e2 a120 n120) ?_
  rintro r g ⟨rfl, rfl⟩
  have hb := zsp_le (f 19 0) n a
  have hb2 := zsp_ge (f 19 0) n a
  have hb3 := zsp_nb (f 19 0) n a
  have hb4 := zsp_fix (f 19 0) n a
  generalize hbq : zsp (f 19 0) n a = b at hb hb2 hb3 hb4 ⊢
  have eb : (nI b).toInt = (b : Int) := nI_toInt (by omega)
  have ea : (f 18 0 6).toInt = (a : Int) := by rw [e1]; exact nI_toInt (by omega)
  have en : (f 18 0 3).toInt = (n : Int) := by rw [e2]; exact nI_toInt (by omega)
  have hv : zB (if b < n then f 19 0 b else -1) (-1) 255 := by
    split
    · have q : zB (f 19 0 b) 0 255 := hI 19 0 b
      exact ⟨by have := q.1; omega, q.2⟩
    · decide
  have hv0 : 0 ≤ (if b < n then f 19 0 b else (-1 : Int32)).toInt → b < n := by
    split
    · intro _; assumption
    · intro h; exact absurd h (by decide)
  have hv1 : b < n → 0 ≤ (if b < n then f 19 0 b else (-1 : Int32)).toInt := by
    intro h
    rw [if_pos h]
    exact (hI 19 0 b).1
  refine ⟨⟨_, rfl, hv⟩, hI.up ⟨by rw [eb]; show (0 : Int) ≤ _; omega, by rw [eb]; show _ ≤ (120 : Int); omega⟩, (zFr.rf _ f).up rfl, ?_, ?_, ?_, ?_⟩
  · intro v hr
    rw [zup_same, eb, ea]; omega
  · intro v hr h0
    cases hr
    have hlt := hv0 h0
    unfold nxx_q
    rw [if_pos]
    rw [zup_same, zup_ne _ _ (by omega), zup_ne _ _ (by omega), eb, en, nI_clamp (by omega)]
    exact ⟨by omega, hb3 hlt⟩
  · intro v hr hq
    cases hr
    unfold nxx_q at hq
    have hq2 : (f 18 0 6).toInt < (f 18 0 3).toInt ∧ ¬ f 19 0 (f 18 0 6).toNatClampNeg = 32 := by
      split at hq
      · assumption
      · exact absurd hq (by decide)
    rw [show (f 18 0 6).toNatClampNeg = a from by rw [e1]; exact nI_clamp (by omega), ea, en] at hq2
    have hab := hb4 (by omega) hq2.2
    refine ⟨hv1 (by omega), ?_⟩
    rw [zup_same, eb, ea]; omega
  · intro v hr h0
    cases hr
    have hlt := hv0 h0
    rw [zup_same, eb]
    constructor <;> omega
