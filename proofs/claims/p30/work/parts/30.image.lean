/-! ===== the reference: image, restore ===== -/
def zbr (f : zM) (k a i : Nat) : zM := fun x y z => if x = 25 ∧ y = 0 ∧ z = 24 then nI (a + i) else if x = k ∧ y = 0 ∧ z < i then f 39 0 (a + z) else f x y z
theorem zbr_0 {f : zM} {k a : Nat} (h : f 25 0 24 = nI a) : zbr f k a 0 = f := by
  funext x y z
  unfold zbr
  split
  · rename_i hq
    obtain ⟨rfl, rfl, rfl⟩ := hq
    exact h.symm
  · rw [if_neg (by omega)]
theorem zbr_s {f : zM} {k a i : Nat} (h1 : k ≠ 25) (h2 : k ≠ 39) : zup (zup (zbr f k a i) k 0 i (zbr f k a i 39 0 (a + i))) 25 0 24 (nI (a + i) + 1) = zbr f k a (i + 1) := by
  have e : zbr f k a i 39 0 (a + i) = f 39 0 (a + i) := by
    unfold zbr
    rw [if_neg (by omega), if_neg (by omega)]
  rw [e]
  funext x y z
  unfold zup zbr
  by_cases q1 : x = 25 ∧ y = 0 ∧ z = 24
  · rw [if_pos q1, if_pos q1, ← nI_succ]; rfl
  · rw [if_neg q1, if_neg q1]
    by_cases q2 : x = k ∧ y = 0 ∧ z = i
    · rw [if_pos q2, if_neg q1, if_pos (by omega), show z = i by omega]
    · rw [if_neg q2, if_neg q1]
      by_cases q3 : x = k ∧ y = 0 ∧ z < i
      · rw [if_pos q3, if_pos (by omega)]
      · rw [if_neg q3, if_neg (by omega)]
set_option maxRecDepth 100000 in
set_option maxHeartbeats 4000000 in
theorem bring_loop {X : zX} {d : Nat} {f : zM} {k a len : Nat} (C : zC X cX10_bring yX10_bring.cls d) (hn : znL X = 3) (h9 : 0 < zcnt k) (hs : zshp k = .inr (0, len, none)) (h1 : k ≠ 25) (h2 : k ≠ 39) (ha : a + len ≤ 320) (kk : Z X 36 [some (zr 25 0), some (zr k 0), some (zi (nI len))] [] (zbr f k a len)) :
    ∀ m i : Nat, i + m = len → Z X 2 [some (zr 25 0), some (zr k 0), some (zi (nI i))] [] (zbr f k a i) := by
  intro m
  induction m with
  | zero =>
    intro i hi
    obtain rfl : i = len := by omega
    refine z_iload_n (pc := 2) C dX10_bring_2 rfl ?_
    refine z_aload_n (pc := 3) C dX10_bring_3 rfl ?_
    refine z_alenI (pc := 4) C hs h9 rfl dX10_bring_4 ?_
    exact z_icmp_ge (pc := 5) 36 C dX10_bring_5 (by decide) (fun _ => kk) (fun h => absurd (Int32.le_refl _) h)
  | succ m ih =>
    intro i hi
    have e1 : zbr f k a i 25 0 24 = nI (a + i) := by unfold zbr; rw [if_pos ⟨rfl, rfl, rfl⟩]
    refine z_iload_n (pc := 2) C dX10_bring_2 rfl ?_
    refine z_aload_n (pc := 3) C dX10_bring_3 rfl ?_
    refine z_alenI (pc := 4) (v := nI len) C hs h9 rfl dX10_bring_4 ?_
    refine z_icmp_ge (pc := 5) 36 C dX10_bring_5 (by decide) (fun h => absurd h (nI_ge (by omega) (by omega))) (fun _ => ?_)
    refine z_aload_n (pc := 8) C dX10_bring_8 rfl ?_
    refine z_iload_n (pc := 9) C dX10_bring_9 rfl ?_
    refine z_aload_n (pc := 10) C dX10_bring_10 rfl ?_
    refine z_getR (pc := 11) C zf_X10_49 rfl rfl (by decide) dX10_bring_11 ?_
    refine z_aload_n (pc := 14) C dX10_bring_14 rfl ?_
    refine z_getI (pc := 15) C zf_X10_252 rfl rfl (by decide) dX10_bring_15 ?_
    rw [e1]
    refine z_iald (pc := 18) C rfl (by decide) (nI_in (N := 320) (by omega) (by omega)) dX10_bring_18 ?_
    rw [nI_clamp (show a + i < 2 ^ 31 by omega)]
    refine z_iast (pc := 19) C hs h9 (nI_in (by omega) (by omega)) dX10_bring_19 ?_
    rw [nI_clamp (show i < 2 ^ 31 by omega)]
    refine z_aload_n (pc := 20) C dX10_bring_20 rfl ?_
    refine z_dupr (pc := 21) C dX10_bring_21 ?_
    refine z_getI (pc := 22) C zf_X10_252 rfl rfl (by decide) dX10_bring_22 ?_
    refine z_iconst (pc := 25) (v := 1) C dX10_bring_25 (by decide) ?_
    refine z_iadd (pc := 26) C dX10_bring_26 ?_
    refine z_putI (pc := 27) C zf_X10_252 zp_10_24 rfl rfl (by decide) dX10_bring_27 ?_
    rw [zup_ne _ _ (by omega), e1, zbr_s h1 h2]
    refine z_iinc (pc := 30) (v := 1) C dX10_bring_30 rfl (by decide) (by rw [hn]; decide) rfl ?_
    rw [← nI_succ]
    refine z_goto (pc := 33) 2 C dX10_bring_33 (by decide) ?_
    exact ih (i + 1) (by omega)
set_option maxRecDepth 100000 in
set_option maxHeartbeats 4000000 in
theorem m_X10_bring (d : Nat) (f : zM) (k a len : Nat) (h9 : 0 < zcnt k) (hs : zshp k = .inr (0, len, none)) (h1 : k ≠ 25) (h2 : k ≠ 39) (ha : a + len ≤ 320) (h0 : f 25 0 24 = nI a) : ZM d yX10_bring cX10_bring 3 none [zr 25 0, zr k 0] f (fun r g => r = none ∧ g = zbr f k a len) := by
  refine ZM.intro (by decide +kernel) (Nat.le_of_ble_eq_true rfl) ?_
  intro X C hr hn
  show Z X 0 [some (zr 25 0), some (zr k 0), none] [] f
  refine z_iconst (pc := 0) (v := 0) C dX10_bring_0 (by decide) ?_
  refine z_istore_n (pc := 1) C dX10_bring_1 (by rw [hn]; decide) rfl ?_
  have := bring_loop (f := f) C hn h9 hs h1 h2 ha (z_vret (pc := 36) C hr dX10_bring_36 ⟨rfl, rfl⟩) len 0 (by omega)
  rw [zbr_0 h0] at this
  exact this
theorem zkp_inv {f : zM} (hI : zInv f) {k a len : Nat} (ha : a + len ≤ 320) (h : ∀ j, j < len → zrg 39 (a + j) = zrg k j) : zInv (zkp f k a len) := by
  intro x y z
  unfold zkp
  split
  · rename_i q
    obtain ⟨rfl, rfl, rfl⟩ := q
    rw [nI_toInt (by omega)]
    show (0 : Int) ≤ _ ∧ _ ≤ (320 : Int)
    omega
  · split
    · rename_i q
      obtain ⟨rfl, rfl, q3, q4⟩ := q
      have := h (z - a) (by omega)
      rw [show a + (z - a) = z by omega] at this
      rw [this]
      exact hI k 0 (z - a)
    · exact hI x y z
theorem zbr_inv {f : zM} (hI : zInv f) {k a len : Nat} (ha : a + len ≤ 320) (h : ∀ j, j < len → zrg 39 (a + j) = zrg k j) : zInv (zbr f k a len) := by
  intro x y z
  unfold zbr
  split
  · rename_i q
    obtain ⟨rfl, rfl, rfl⟩ := q
    rw [nI_toInt (by omega)]
    show (0 : Int) ≤ _ ∧ _ ≤ (320 : Int)
    omega
  · split
    · rename_i q
      obtain ⟨rfl, rfl, q3⟩ := q
      rw [← h z q3]
      exact hI 39 0 (a + z)
    · exact hI x y z
theorem zr39_40 : ∀ j, j < 4 → zrg 39 (0 + j) = zrg 40 j := fun j h => (by decide +kernel : ∀ q : Fin 4, zrg 39 (0 + q.val) = zrg 40 q.val) ⟨j, h⟩
theorem zr39_26 : ∀ j, j < 144 → zrg 39 (4 + j) = zrg 26 j := fun j h => (by decide +kernel : ∀ q : Fin 144, zrg 39 (4 + q.val) = zrg 26 q.val) ⟨j, h⟩
theorem zr39_27 : ∀ j, j < 40 → zrg 39 (148 + j) = zrg 27 j := fun j h => (by decide +kernel : ∀ q : Fin 40, zrg 39 (148 + q.val) = zrg 27 q.val) ⟨j, h⟩
theorem zr39_28 : ∀ j, j < 96 → zrg 39 (188 + j) = zrg 28 j := fun j h => (by decide +kernel : ∀ q : Fin 96, zrg 39 (188 + q.val) = zrg 28 q.val) ⟨j, h⟩
theorem zr39_29 : ∀ j, j < 24 → zrg 39 (284 + j) = zrg 29 j := fun j h => (by decide +kernel : ∀ q : Fin 24, zrg 39 (284 + q.val) = zrg 29 q.val) ⟨j, h⟩
theorem zr39_30 : ∀ j, j < 7 → zrg 39 (308 + j) = zrg 30 j := fun j h => (by decide +kernel : ∀ q : Fin 7, zrg 39 (308 + q.val) = zrg 30 q.val) ⟨j, h⟩
def zre (f : zM) : zM := zbr (zbr (zbr (zbr (zbr (zup (zup (zup (zup (zbr (zup f 25 0 24 0) 40 0 4) 25 0 0 (f 39 0 0)) 25 0 2 (f 39 0 1)) 25 0 4 (f 39 0 2)) 25 0 6 (f 39 0 3)) 26 4 144) 27 148 40) 28 188 96) 29 284 24) 30 308 7
set_option maxRecDepth 100000 in
set_option maxHeartbeats 4000000 in
theorem m_X10_restore (d : Nat) (f : zM) : ZM (d + 1) yX10_restore cX10_restore 1 (some .int) [zr 25 0] f (fun r g => (f 25 0 22 = 0 ∧ r = some (zi (-4)) ∧ g = f) ∨ (¬ f 25 0 22 = 0 ∧ r = some (zi 1) ∧ g = zre f)) := by
  refine ZM.intro (by decide +kernel) (Nat.le_of_ble_eq_true rfl) ?_
  intro X C hr hn
  show Z X 0 [some (zr 25 0)] [] f
  refine z_aload_n (pc := 0) C dX10_restore_0 rfl ?_
  refine z_getI (pc := 1) C zf_X10_259 rfl rfl (by decide) dX10_restore_1 ?_
  refine z_if_ne (pc := 4) 10 C dX10_restore_4 (by decide) (fun h4 => ?_) (fun h4 => ?_)
  · skip
    refine z_aload_n (pc := 10) C dX10_restore_10 rfl ?_
    refine z_iconst (pc := 11) (v := 0) C dX10_restore_11 (by decide) ?_
    refine z_putI (pc := 12) C zf_X10_252 zp_10_24 rfl rfl (by decide) dX10_restore_12 ?_
    refine z_aload_n (pc := 15) C dX10_restore_15 rfl ?_
    refine z_aload_n (pc := 16) C dX10_restore_16 rfl ?_
    refine z_getR (pc := 17) C zf_X10_52 rfl rfl (by decide) dX10_restore_17 ?_
    refine z_callVx (pc := 20) C zk_X10_263 (m_X10_bring _ _ 40 0 4 (by decide) rfl (by decide) (by decide) (by decide) rfl) rfl rfl (by decide) rfl rfl (Nat.le_of_ble_eq_true rfl) dX10_restore_20 ?_
    simp only [Option.toList, List.cons_append, List.nil_append]
    refine z_aload_n (pc := 23) C dX10_restore_23 rfl ?_
    refine z_aload_n (pc := 24) C dX10_restore_24 rfl ?_
    refine z_getR (pc := 25) C zf_X10_52 rfl rfl (by decide) dX10_restore_25 ?_
    refine z_iconst (pc := 28) (v := 0) C dX10_restore_28 (by decide) ?_
    refine z_iald (pc := 29) C rfl (by decide) (zvp rfl) dX10_restore_29 ?_
    refine z_putI (pc := 30) C zf_X10_80 zp_10_0 rfl rfl (by decide) dX10_restore_30 ?_
    refine z_aload_n (pc := 33) C dX10_restore_33 rfl ?_
    refine z_aload_n (pc := 34) C dX10_restore_34 rfl ?_
    refine z_getR (pc := 35) C zf_X10_52 rfl rfl (by decide) dX10_restore_35 ?_
    refine z_iconst (pc := 38) (v := 1) C dX10_restore_38 (by decide) ?_
    refine z_iald (pc := 39) C rfl (by decide) (zvp rfl) dX10_restore_39 ?_
    refine z_putI (pc := 40) C zf_X10_73 zp_10_2 rfl rfl (by decide) dX10_restore_40 ?_
    refine z_aload_n (pc := 43) C dX10_restore_43 rfl ?_
    refine z_aload_n (pc := 44) C dX10_restore_44 rfl ?_
    refine z_getR (pc := 45) C zf_X10_52 rfl rfl (by decide) dX10_restore_45 ?_
    refine z_iconst (pc := 48) (v := 2) C dX10_restore_48 (by decide) ?_
    refine z_iald (pc := 49) C rfl (by decide) (zvp rfl) dX10_restore_49 ?_
    refine z_putI (pc := 50) C zf_X10_77 zp_10_4 rfl rfl (by decide) dX10_restore_50 ?_
    refine z_aload_n (pc := 53) C dX10_restore_53 rfl ?_
    refine z_aload_n (pc := 54) C dX10_restore_54 rfl ?_
    refine z_getR (pc := 55) C zf_X10_52 rfl rfl (by decide) dX10_restore_55 ?_
    refine z_iconst (pc := 58) (v := 3) C dX10_restore_58 (by decide) ?_
    refine z_iald (pc := 59) C rfl (by decide) (zvp rfl) dX10_restore_59 ?_
    refine z_putI (pc := 60) C zf_X10_126 zp_10_6 rfl rfl (by decide) dX10_restore_60 ?_
    refine z_aload_n (pc := 63) C dX10_restore_63 rfl ?_
    refine z_aload_n (pc := 64) C dX10_restore_64 rfl ?_
    refine z_getR (pc := 65) C zf_X10_7 rfl rfl (by decide) dX10_restore_65 ?_
    refine z_callVx (pc := 68) C zk_X10_263 (m_X10_bring _ _ 26 4 144 (by decide) rfl (by decide) (by decide) (by decide) rfl) rfl rfl (by decide) rfl rfl (Nat.le_of_ble_eq_true rfl) dX10_restore_68 ?_
    simp only [Option.toList, List.cons_append, List.nil_append]
    refine z_aload_n (pc := 71) C dX10_restore_71 rfl ?_
    refine z_aload_n (pc := 72) C dX10_restore_72 rfl ?_
    refine z_getR (pc := 73) C zf_X10_13 rfl rfl (by decide) dX10_restore_73 ?_
    refine z_callVx (pc := 76) C zk_X10_263 (m_X10_bring _ _ 27 148 40 (by decide) rfl (by decide) (by decide) (by decide) rfl) rfl rfl (by decide) rfl rfl (Nat.le_of_ble_eq_true rfl) dX10_restore_76 ?_
    simp only [Option.toList, List.cons_append, List.nil_append]
    refine z_aload_n (pc := 79) C dX10_restore_79 rfl ?_
    refine z_aload_n (pc := 80) C dX10_restore_80 rfl ?_
    refine z_getR (pc := 81) C zf_X10_16 rfl rfl (by decide) dX10_restore_81 ?_
    refine z_callVx (pc := 84) C zk_X10_263 (m_X10_bring _ _ 28 188 96 (by decide) rfl (by decide) (by decide) (by decide) rfl) rfl rfl (by decide) rfl rfl (Nat.le_of_ble_eq_true rfl) dX10_restore_84 ?_
    simp only [Option.toList, List.cons_append, List.nil_append]
    refine z_aload_n (pc := 87) C dX10_restore_87 rfl ?_
    refine z_aload_n (pc := 88) C dX10_restore_88 rfl ?_
    refine z_getR (pc := 89) C zf_X10_19 rfl rfl (by decide) dX10_restore_89 ?_
    refine z_callVx (pc := 92) C zk_X10_263 (m_X10_bring _ _ 29 284 24 (by decide) rfl (by decide) (by decide) (by decide) rfl) rfl rfl (by decide) rfl rfl (Nat.le_of_ble_eq_true rfl) dX10_restore_92 ?_
    simp only [Option.toList, List.cons_append, List.nil_append]
    refine z_aload_n (pc := 95) C dX10_restore_95 rfl ?_
    refine z_aload_n (pc := 96) C dX10_restore_96 rfl ?_
    refine z_getR (pc := 97) C zf_X10_22 rfl rfl (by decide) dX10_restore_97 ?_
    refine z_callVx (pc := 100) C zk_X10_263 (m_X10_bring _ _ 30 308 7 (by decide) rfl (by decide) (by decide) (by decide) rfl) rfl rfl (by decide) rfl rfl (Nat.le_of_ble_eq_true rfl) dX10_restore_100 ?_
    simp only [Option.toList, List.cons_append, List.nil_append]
    refine z_iconst (pc := 103) (v := 1) C dX10_restore_103 (by decide) ?_
    exact z_iret (pc := 104) C hr dX10_restore_104 (Or.inr ⟨h4, rfl, rfl⟩)
  · skip
    refine z_bipush (pc := 7) (v := -4) C dX10_restore_7 (by decide) ?_
    exact z_iret (pc := 9) C hr dX10_restore_9 (Or.inl ⟨h4, rfl, rfl⟩)

theorem zre_inv {f : zM} (hI : zInv f) : zInv (zre f) := by
  unfold zre
  refine zbr_inv (zbr_inv (zbr_inv (zbr_inv (zbr_inv ?_ (by decide) zr39_26) (by decide) zr39_27) (by decide) zr39_28) (by decide) zr39_29) (by decide) zr39_30
  refine zInv.up (k := 25) (n := 0) (j := 6) ?_ (show (0 : Int) ≤ (f 39 0 3).toInt ∧ (f 39 0 3).toInt ≤ 8 from hI 39 0 3)
  refine zInv.up (k := 25) (n := 0) (j := 4) ?_ (show (0 : Int) ≤ (f 39 0 2).toInt ∧ (f 39 0 2).toInt ≤ 12 from hI 39 0 2)
  refine zInv.up (k := 25) (n := 0) (j := 2) ?_ (show (0 : Int) ≤ (f 39 0 1).toInt ∧ (f 39 0 1).toInt ≤ 8 from hI 39 0 1)
  refine zInv.up (k := 25) (n := 0) (j := 0) ?_ (show (0 : Int) ≤ (f 39 0 0).toInt ∧ (f 39 0 0).toInt ≤ 24 from hI 39 0 0)
  exact zbr_inv (zInv.up (k := 25) (n := 0) (j := 24) hI (show (0 : Int) ≤ (0 : Int32).toInt ∧ (0 : Int32).toInt ≤ 320 from by decide)) (by decide) zr39_40
