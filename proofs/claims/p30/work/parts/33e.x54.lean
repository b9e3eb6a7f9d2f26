theorem zix_no {i : Nat} (hi : i < 2) {c : Int32} (hc : zB c 0 255) (h : ∀ k, k < zLen.getD i 0 → ¬ (zByt.getD i []).getD k 0 = c.toInt8.toInt32) : zix i c = -1 := by
  have k0 : ∀ q : Fin 256, (∀ k : Fin 5, ¬ (zByt.getD 0 []).getD k.val 0 = (nI q.val).toInt8.toInt32) → zix 0 (nI q.val) = -1 := by decide +kernel
  have k1 : ∀ q : Fin 256, (∀ k : Fin 3, ¬ (zByt.getD 1 []).getD k.val 0 = (nI q.val).toInt8.toInt32) → zix 1 (nI q.val) = -1 := by decide +kernel
  obtain ⟨e1, e2⟩ := nI_ofI (x := c) hc.1
  have h3 : c.toInt.toNat < 256 := by have := hc.2; omega
  generalize c.toInt.toNat = a at e1 h3
  subst e1
  rcases (show i = 0 ∨ i = 1 by omega) with rfl | rfl
  · exact k0 ⟨a, h3⟩ (fun k => h k.val k.isLt)
  · exact k1 ⟨a, h3⟩ (fun k => h k.val k.isLt)
theorem zix_at {i : Nat} (hi : i < 2) {c : Int32} (hc : zB c 0 255) {k : Nat} (hk : k < zLen.getD i 0) (h : (zByt.getD i []).getD k 0 = c.toInt8.toInt32) : zix i c = nI k := by
  have k0 : ∀ (q : Fin 256) (k : Fin 5), (zByt.getD 0 []).getD k.val 0 = (nI q.val).toInt8.toInt32 → zix 0 (nI q.val) = nI k.val := by decide +kernel
  have k1 : ∀ (q : Fin 256) (k : Fin 3), (zByt.getD 1 []).getD k.val 0 = (nI q.val).toInt8.toInt32 → zix 1 (nI q.val) = nI k.val := by decide +kernel
  obtain ⟨e1, e2⟩ := nI_ofI (x := c) hc.1
  have h3 : c.toInt.toNat < 256 := by have := hc.2; omega
  generalize c.toInt.toNat = a at e1 h3
  subst e1
  rcases (show i = 0 ∨ i = 1 by omega) with rfl | rfl
  · exact k0 ⟨a, h3⟩ ⟨k, hk⟩ h
  · exact k1 ⟨a, h3⟩ ⟨k, hk⟩ h
theorem zix_b (i : Nat) (c : Int32) : zB (zix i c) (-1) 4 := by
  unfold zix
  split
  · split
    · decide
    · split
      · decide
      · split
        · decide
        · split
          · decide
          · split <;> decide
  · split
    · decide
    · split
      · decide
      · split <;> decide
theorem zix_b1 (c : Int32) : zB (zix 1 c) (-1) 2 := by
  unfold zix
  rw [if_neg (by decide)]
  split
  · decide
  · split
    · decide
    · split <;> decide
theorem zix_m1 (i : Nat) : zix i (-1) = -1 := by
  unfold zix
  split <;> decide

set_option maxRecDepth 100000 in
set_option maxHeartbeats 4000000 in
theorem ixc_loopx {X : zX} {d i : Nat} {f : zM} {c b : Int32} (hi : i < 2) (C : zC X cJ1_indexOfChar_4cfef yJ1_indexOfChar_4cfef.cls d) (hn : znL X = 6) (hT : zXst X) (kN : ∀ v, (∀ k, k < zLen.getD i 0 → ¬ (zByt.getD i []).getD k 0 = b) → Z X 31 [some (zr 44 (3 + i)), some (zi c), some (zi 0), some (zi (nI (zLen.getD i 0))), some (zi b), some (zi v)] [] f) (kY : ∀ k, k < zLen.getD i 0 → (zByt.getD i []).getD k 0 = b → Z X 22 [some (zr 44 (3 + i)), some (zi c), some (zi 0), some (zi (nI (zLen.getD i 0))), some (zi b), some (zi (nI k))] [] f) :
    ∀ m k : Nat, k + m = zLen.getD i 0 → (∀ j, j < k → ¬ (zByt.getD i []).getD j 0 = b) → Z X 7 [some (zr 44 (3 + i)), some (zi c), some (zi 0), some (zi (nI (zLen.getD i 0))), some (zi b), some (zi (nI k))] [] f := by
  have h8 : zLen.getD i 0 ≤ 5 := by rcases (show i = 0 ∨ i = 1 by omega) with rfl | rfl <;> decide
  intro m
  induction m with
  | zero =>
    intro k hk hj
    refine z_iload (pc := 7) C dJ1_indexOfChar_4cfef_7 rfl ?_
    refine z_iload_n (pc := 9) C dJ1_indexOfChar_4cfef_9 rfl ?_
    exact z_icmp_ge (pc := 10) 31 C dJ1_indexOfChar_4cfef_10 (by decide) (fun _ => kN _ (fun j hj2 => hj j (by omega))) (fun h => absurd (nI_le (by omega) (by omega)) h)
  | succ m ih =>
    intro k hk hj
    refine z_iload (pc := 7) C dJ1_indexOfChar_4cfef_7 rfl ?_
    refine z_iload_n (pc := 9) C dJ1_indexOfChar_4cfef_9 rfl ?_
    refine z_icmp_ge (pc := 10) 31 C dJ1_indexOfChar_4cfef_10 (by decide) (fun h => absurd h (nI_ge (by omega) (by omega))) (fun _ => ?_)
    refine z_aload_n (pc := 13) C dJ1_indexOfChar_4cfef_13 rfl ?_
    refine z_iload (pc := 14) C dJ1_indexOfChar_4cfef_14 rfl ?_
    refine z_bldT (pc := 16) C hT hi (by omega) (by omega) dJ1_indexOfChar_4cfef_16 ?_
    refine z_iload (pc := 17) C dJ1_indexOfChar_4cfef_17 rfl ?_
    refine z_icmp_ne (pc := 19) 25 C dJ1_indexOfChar_4cfef_19 (by decide) (fun hne => ?_) (fun he => kY k (by omega) he)
    refine z_iinc (pc := 25) (v := 1) C dJ1_indexOfChar_4cfef_25 rfl (by decide) (by rw [hn]; decide) rfl ?_
    refine z_goto (pc := 28) 7 C dJ1_indexOfChar_4cfef_28 (by decide) ?_
    rw [← nI_succ]
    exact ih (k + 1) (by omega) (fun j hj2 => by
      by_cases q : j = k
      · subst q; exact hne
      · exact hj j (by omega))
set_option maxRecDepth 100000 in
set_option maxHeartbeats 4000000 in
theorem tx_J1_indexOfChar_4cfef (d : Nat) (f : zM) (i : Nat) (hi : i < 2) (c : Int32) (hc : zB c 0 255) : ZMs d yJ1_indexOfChar_4cfef cJ1_indexOfChar_4cfef 6 (some .int) [zr 44 (3 + i), zi c, zi 0, zi (nI (zLen.getD i 0))] f (fun r g => r = some (zi (zix i c)) ∧ g = f) := by
  refine ZMs.intro (by decide +kernel) (Nat.le_of_ble_eq_true rfl) ?_
  intro X C hr hn hT
  show Z X 0 [some (zr 44 (3 + i)), some (zi c), some (zi 0), some (zi (nI (zLen.getD i 0))), none, none] [] f
  have h8 : 1 ≤ zLen.getD i 0 ∧ zLen.getD i 0 ≤ 5 := by rcases (show i = 0 ∨ i = 1 by omega) with rfl | rfl <;> decide
  refine z_iload_n (pc := 0) C dJ1_indexOfChar_4cfef_0 rfl ?_
  refine z_i2b (pc := 1) C dJ1_indexOfChar_4cfef_1 ?_
  refine z_istore (pc := 2) C dJ1_indexOfChar_4cfef_2 (by rw [hn]; decide) rfl ?_
  refine z_iload_n (pc := 4) C dJ1_indexOfChar_4cfef_4 rfl ?_
  refine z_istore (pc := 5) C dJ1_indexOfChar_4cfef_5 (by rw [hn]; decide) rfl ?_
  refine ixc_loopx (i := i) hi C hn hT (fun v hno => ?_) (fun k hk he => ?_) (zLen.getD i 0) 0 (by omega) (fun j hj => absurd hj (Nat.not_lt_zero j))
  · refine z_iconst (pc := 31) (v := -1) C dJ1_indexOfChar_4cfef_31 (by decide) ?_
    exact z_iret (pc := 32) C hr dJ1_indexOfChar_4cfef_32 ⟨by rw [zix_no hi hc hno], rfl⟩
  · refine z_iload (pc := 22) C dJ1_indexOfChar_4cfef_22 rfl ?_
    exact z_iret (pc := 24) C hr dJ1_indexOfChar_4cfef_24 ⟨by rw [zix_at hi hc hk he], rfl⟩
set_option maxRecDepth 100000 in
set_option maxHeartbeats 4000000 in
theorem tx_J1_canEncode_9a6ad (d : Nat) (f : zM) (x : Int32) (hc : zB x 0 255) : ZM d yJ1_canEncode_9a6ad cJ1_canEncode_9a6ad 1 (some .boolean) [zi x] f (fun r g => r = some (zi 1) ∧ g = f) := by
  refine ZM.intro (by decide +kernel) (Nat.le_of_ble_eq_true rfl) ?_
  intro X C hr hn
  show Z X 0 [some (zi x)] [] f
  have h1 := hc.1
  have h2 := hc.2
  refine z_iload_n (pc := 0) C dJ1_canEncode_9a6ad_0 rfl ?_
  refine z_if_lt (pc := 1) 15 C dJ1_canEncode_9a6ad_1 (by decide) (fun h => absurd h (by simp only [z32lt, Int32.toInt_zero]; omega)) (fun _ => ?_)
  refine z_iload_n (pc := 4) C dJ1_canEncode_9a6ad_4 rfl ?_
  refine z_sipush (pc := 5) (v := 255) C dJ1_canEncode_9a6ad_5 (by decide) ?_
  refine z_icmp_gt (pc := 8) 15 C dJ1_canEncode_9a6ad_8 (by decide) (fun h => absurd h (by simp only [z32lt, Int32.reduceToInt]; omega)) (fun _ => ?_)
  refine z_iconst (pc := 11) (v := 1) C dJ1_canEncode_9a6ad_11 (by decide) ?_
  refine z_goto (pc := 12) 16 C dJ1_canEncode_9a6ad_12 (by decide) ?_
  exact z_zret (pc := 16) C hr (by decide) dJ1_canEncode_9a6ad_16 ⟨rfl, rfl⟩
set_option maxRecDepth 100000 in
set_option maxHeartbeats 4000000 in
theorem tx_J1_indexOf_4cfef (d : Nat) (f : zM) (i : Nat) (hi : i < 2) (c : Int32) (hc : zB c 0 255) : ZMs (d + 1) yJ1_indexOf_4cfef cJ1_indexOf_4cfef 4 (some .int) [zr 44 (3 + i), zi c, zi 0, zi (nI (zLen.getD i 0))] f (fun r g => r = some (zi (zix i c)) ∧ g = f) := by
  refine ZMs.intro (by decide +kernel) (Nat.le_of_ble_eq_true rfl) ?_
  intro X C hr hn hT
  show Z X 0 [some (zr 44 (3 + i)), some (zi c), some (zi 0), some (zi (nI (zLen.getD i 0)))] [] f
  have h8 : 1 ≤ zLen.getD i 0 ∧ zLen.getD i 0 ≤ 5 := by rcases (show i = 0 ∨ i = 1 by omega) with rfl | rfl <;> decide
  refine z_iload_n (pc := 0) C dJ1_indexOf_4cfef_0 rfl ?_
  refine z_callSx (pc := 1) C zk_J1_88 (tx_J1_canEncode_9a6ad _ _ c hc) rfl rfl (Nat.le_of_ble_eq_true rfl) dJ1_indexOf_4cfef_1 ?_
  simp only [Option.toList, List.cons_append, List.nil_append]
  refine z_if_ne (pc := 4) 9 C dJ1_indexOf_4cfef_4 (by decide) (fun _ => ?_) (fun h => absurd h (by decide))
  refine z_iload_n (pc := 9) C dJ1_indexOf_4cfef_9 rfl ?_
  refine z_iconst (pc := 10) (v := 0) C dJ1_indexOf_4cfef_10 (by decide) ?_
  refine z_mmax (pc := 11) C zk_J1_92 (Nat.le_of_ble_eq_true rfl) dJ1_indexOf_4cfef_11 ?_
  rw [show imax 0 0 = 0 from by decide]
  refine z_istore_n (pc := 14) C dJ1_indexOf_4cfef_14 (by rw [hn]; decide) rfl ?_
  refine z_iload_n (pc := 15) C dJ1_indexOf_4cfef_15 rfl ?_
  refine z_aload_n (pc := 16) C dJ1_indexOf_4cfef_16 rfl ?_
  refine z_lenT (pc := 17) C hT hi rfl dJ1_indexOf_4cfef_17 ?_
  refine z_mmin (pc := 18) C zk_J1_38 (Nat.le_of_ble_eq_true rfl) dJ1_indexOf_4cfef_18 ?_
  rw [show imin (nI (zLen.getD i 0)) (nI (zLen.getD i 0)) = nI (zLen.getD i 0) from by unfold imin; split <;> rfl]
  refine z_istore_n (pc := 21) C dJ1_indexOf_4cfef_21 (by rw [hn]; decide) rfl ?_
  refine z_iload_n (pc := 22) C dJ1_indexOf_4cfef_22 rfl ?_
  refine z_iload_n (pc := 23) C dJ1_indexOf_4cfef_23 rfl ?_
  refine z_icmp_lt (pc := 24) 29 C dJ1_indexOf_4cfef_24 (by decide) (fun _ => ?_) (fun h => absurd (show nI 0 < nI (zLen.getD i 0) from nI_lt (by omega) (by omega)) h)
  refine z_aload_n (pc := 29) C dJ1_indexOf_4cfef_29 rfl ?_
  refine z_iload_n (pc := 30) C dJ1_indexOf_4cfef_30 rfl ?_
  refine z_iload_n (pc := 31) C dJ1_indexOf_4cfef_31 rfl ?_
  refine z_iload_n (pc := 32) C dJ1_indexOf_4cfef_32 rfl ?_
  refine z_callSS (pc := 33) C hT zk_J1_95 (tx_J1_indexOfChar_4cfef _ _ i hi c hc) rfl rfl (Nat.le_of_ble_eq_true rfl) dJ1_indexOf_4cfef_33 (fun r g q => ?_)
  obtain ⟨rfl, rfl⟩ := q
  simp only [Option.toList, List.cons_append, List.nil_append]
  exact z_iret (pc := 36) C hr dJ1_indexOf_4cfef_36 ⟨rfl, rfl⟩
set_option maxRecDepth 100000 in
set_option maxHeartbeats 4000000 in
theorem tx_J0_indexOf_7cf53 (d : Nat) (f : zM) (i : Nat) (hi : i < 2) (c : Int32) (hc : zB c 0 255) : ZMs (d + 2) yJ0_indexOf_7cf53 cJ0_indexOf_7cf53 3 (some .int) [zr 44 (1 + i), zi c, zi 0] f (fun r g => r = some (zi (zix i c)) ∧ g = f) := by
  refine ZMs.intro (by decide +kernel) (Nat.le_of_ble_eq_true rfl) ?_
  intro X C hr hn hT
  show Z X 0 [some (zr 44 (1 + i)), some (zi c), some (zi 0)] [] f
  refine z_aload_n (pc := 0) C dJ0_indexOf_7cf53_0 rfl ?_
  refine z_callT (pc := 1) C hT zk_J0_492 (t_J0_isLatin1_aae02 _ _ i hi) hi rfl rfl rfl (Nat.le_of_ble_eq_true rfl) dJ0_indexOf_7cf53_1 (fun r g q => ?_)
  obtain ⟨rfl, rfl⟩ := q
  simp only [Option.toList, List.cons_append, List.nil_append]
  refine z_if_eq (pc := 4) 23 C dJ0_indexOf_7cf53_4 (by decide) (fun h => absurd h (by decide)) (fun _ => ?_)
  refine z_aload_n (pc := 7) C dJ0_indexOf_7cf53_7 rfl ?_
  refine z_getTv (pc := 8) C hT hi zw_1433 dJ0_indexOf_7cf53_8 ?_
  refine z_iload_n (pc := 11) C dJ0_indexOf_7cf53_11 rfl ?_
  refine z_iload_n (pc := 12) C dJ0_indexOf_7cf53_12 rfl ?_
  refine z_aload_n (pc := 13) C dJ0_indexOf_7cf53_13 rfl ?_
  refine z_callT (pc := 14) C hT zk_J0_505 (t_J0_length_8abf5 _ _ i hi) hi rfl rfl rfl (Nat.le_of_ble_eq_true rfl) dJ0_indexOf_7cf53_14 (fun r g q => ?_)
  obtain ⟨rfl, rfl⟩ := q
  simp only [Option.toList, List.cons_append, List.nil_append]
  refine z_callSS (pc := 17) C hT zk_J0_637 (tx_J1_indexOf_4cfef _ _ i hi c hc) rfl rfl (Nat.le_of_ble_eq_true rfl) dJ0_indexOf_7cf53_17 (fun r g q => ?_)
  obtain ⟨rfl, rfl⟩ := q
  simp only [Option.toList, List.cons_append, List.nil_append]
  refine z_goto (pc := 20) 36 C dJ0_indexOf_7cf53_20 (by decide) ?_
  exact z_iret (pc := 36) C hr dJ0_indexOf_7cf53_36 ⟨rfl, rfl⟩
set_option maxRecDepth 100000 in
set_option maxHeartbeats 4000000 in
theorem tx_J0_indexOf_0f7a4 (d : Nat) (f : zM) (i : Nat) (hi : i < 2) (c : Int32) (hc : zB c 0 255) : ZMs (d + 3) yJ0_indexOf_0f7a4 cJ0_indexOf_0f7a4 2 (some .int) [zr 44 (1 + i), zi c] f (fun r g => r = some (zi (zix i c)) ∧ g = f) := by
  refine ZMs.intro (by decide +kernel) (Nat.le_of_ble_eq_true rfl) ?_
  intro X C hr hn hT
  show Z X 0 [some (zr 44 (1 + i)), some (zi c)] [] f
  refine z_aload_n (pc := 0) C dJ0_indexOf_0f7a4_0 rfl ?_
  refine z_iload_n (pc := 1) C dJ0_indexOf_0f7a4_1 rfl ?_
  refine z_iconst (pc := 2) (v := 0) C dJ0_indexOf_0f7a4_2 (by decide) ?_
  refine z_callT (pc := 3) C hT zk_J0_633 (tx_J0_indexOf_7cf53 _ _ i hi c hc) hi rfl rfl rfl (Nat.le_of_ble_eq_true rfl) dJ0_indexOf_0f7a4_3 (fun r g q => ?_)
  obtain ⟨rfl, rfl⟩ := q
  simp only [Option.toList, List.cons_append, List.nil_append]
  exact z_iret (pc := 6) C hr dJ0_indexOf_0f7a4_6 ⟨rfl, rfl⟩
