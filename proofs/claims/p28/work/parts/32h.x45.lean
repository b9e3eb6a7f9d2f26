/-! ===== the tape ===== -/
set_option maxRecDepth 100000 in
set_option maxHeartbeats 4000000 in
theorem type_chk {X : zX} {d : Nat} {w : Int64} {N : Nat} {f : zM} (hN : N ≤ 8) (C : zC X cX9_type yX9_type.cls (d + 1)) (hn : znL X = 6)
    (kbad : ∀ (i : Nat) (o4 o5 : Option zV), i < N → ¬ zbyok w i → Z X 44 [some (zr 0 0), some (zl w), none, some (zi (nI N)), o4, o5] [] f)
    (kk : ∀ (o4 o5 : Option zV), (∀ i, i < N → zbyok w i) → Z X 52 [some (zr 0 0), some (zl w), none, some (zi (nI N)), o4, o5] [] f) :
    ∀ (m i : Nat) (o5 : Option zV), i + m = N → (∀ j, j < i → zbyok w j) → Z X 16 [some (zr 0 0), some (zl w), none, some (zi (nI N)), some (zi (nI i)), o5] [] f := by
  intro m
  induction m with
  | zero =>
    intro i o5 hi hok
    obtain rfl : i = N := by omega
    refine z_iload (pc := 16) C dX9_type_16 rfl ?_
    refine z_iload_n (pc := 18) C dX9_type_18 rfl ?_
    exact z_icmp_ge (pc := 19) 52 C dX9_type_19 (by decide) (fun _ => kk _ o5 hok) (fun h => absurd (Int32.le_refl _) h)
  | succ m ih =>
    intro i o5 hi hok
    refine z_iload (pc := 16) C dX9_type_16 rfl ?_
    refine z_iload_n (pc := 18) C dX9_type_18 rfl ?_
    refine z_icmp_ge (pc := 19) 52 C dX9_type_19 (by decide) (fun h => absurd h (nI_ge (by omega) (by omega))) (fun _ => ?_)
    refine z_lload_n (pc := 22) C dX9_type_22 rfl ?_
    refine z_iload (pc := 23) C dX9_type_23 rfl ?_
    refine z_callSx (pc := 25) C zk_X9_104 (m_X9_byteOf _ _ _ _) rfl rfl (Nat.le_of_ble_eq_true rfl) dX9_type_25 ?_
    simp only [Option.toList, List.cons_append, List.nil_append]
    refine z_istore (pc := 28) C dX9_type_28 (by rw [hn]; decide) rfl ?_
    refine z_iload (pc := 30) C dX9_type_30 rfl ?_
    refine z_bipush (pc := 32) (v := 32) C dX9_type_32 (by decide) ?_
    refine z_icmp_lt (pc := 34) 44 C dX9_type_34 (by decide) (fun h34 => ?_) (fun h34 => ?_)
    · skip
      exact kbad i _ _ (by omega) (by intro hq; unfold zbyok at hq; simp only [z32lt, z32le, z32eq, Int32.reduceToInt, Int32.toInt_zero, Int32.toInt_one] at *; omega)
    · skip
      refine z_iload (pc := 37) C dX9_type_37 rfl ?_
      refine z_bipush (pc := 39) (v := 126) C dX9_type_39 (by decide) ?_
      refine z_icmp_le (pc := 41) 46 C dX9_type_41 (by decide) (fun h41 => ?_) (fun h41 => ?_)
      · skip
        refine z_iinc (pc := 46) (v := 1) C dX9_type_46 rfl (by decide) (by rw [hn]; decide) rfl ?_
        refine z_goto (pc := 49) 16 C dX9_type_49 (by decide) ?_
        rw [← nI_succ]
        exact ih (i + 1) _ (by omega) (fun j hj => by
          by_cases hji : j = i
          · subst hji; unfold zbyok; simp only [z32lt, z32le, z32eq, Int32.reduceToInt, Int32.toInt_zero, Int32.toInt_one] at *; omega
          · exact hok j (by omega))
      · skip
        exact kbad i _ _ (by omega) (by intro hq; unfold zbyok at hq; simp only [z32lt, z32le, z32eq, Int32.reduceToInt, Int32.toInt_zero, Int32.toInt_one] at *; omega)
set_option maxRecDepth 100000 in
set_option maxHeartbeats 4000000 in
theorem typem_chk {X : zX} {d : Nat} {w : Int64} {N : Nat} {f : zM} (hN : N ≤ 8) (C : zC X cX10_type yX10_type.cls (d + 1)) (hn : znL X = 5)
    (kbad : ∀ (i : Nat) (o4 : Option zV), i < N → ¬ zbyok w i → Z X 47 [some (zr 25 0), some (zl w), none, some (zi (nI N)), o4] [] f)
    (kk : ∀ (o4 : Option zV), (∀ i, i < N → zbyok w i) → Z X 55 [some (zr 25 0), some (zl w), none, some (zi (nI N)), o4] [] f) :
    ∀ (m : Nat), m ≤ N → (∀ j, m ≤ j → j < N → zbyok w j) → Z X 19 [some (zr 25 0), some (zl w), none, some (zi (nI N)), some (zi (nI m + (-1)))] [] f := by
  intro m
  induction m with
  | zero =>
    intro hm hok
    refine z_iload (pc := 19) C dX10_type_19 rfl ?_
    exact z_if_lt (pc := 21) 55 C dX10_type_21 (by decide) (fun _ => kk _ (fun i hi => hok i (Nat.zero_le i) hi)) (fun h => absurd (by decide) h)
  | succ m ih =>
    intro hm hok
    rw [nI_dec]
    refine z_iload (pc := 19) C dX10_type_19 rfl ?_
    refine z_if_lt (pc := 21) 55 C dX10_type_21 (by decide) (fun h => absurd h (nI_pos (by omega))) (fun _ => ?_)
    refine z_lload_n (pc := 24) C dX10_type_24 rfl ?_
    refine z_bipush (pc := 25) (v := 8) C dX10_type_25 (by decide) ?_
    refine z_iload (pc := 27) C dX10_type_27 rfl ?_
    refine z_imul (pc := 29) C dX10_type_29 ?_
    refine z_lshr (pc := 30) C dX10_type_30 ?_
    refine z_ldc2 (pc := 31) C zw_1349 dX10_type_31 ?_
    refine z_land (pc := 34) C dX10_type_34 ?_
    refine z_ldc2 (pc := 35) C zw_1350 dX10_type_35 ?_
    refine z_ldc2 (pc := 38) C zw_1351 dX10_type_38 ?_
    refine z_callSb (pc := 41) C zk_X10_69 (m_X10_in _ _ _ _ _) rfl rfl (Nat.le_of_ble_eq_true rfl) dX10_type_41 (fun h41 => ?_) (fun h41 => ?_)
    · skip
      refine z_if_ne (pc := 44) 49 C dX10_type_44 (by decide) (fun h44 => ?_) (fun h44 => absurd h44 (of_decide_eq_true rfl))
      refine z_iinc (pc := 49) (v := -1) C dX10_type_49 rfl (by decide) (by rw [hn]; decide) rfl ?_
      refine z_goto (pc := 52) 19 C dX10_type_52 (by decide) ?_
      exact ih (by omega) (fun j hj hj2 => by
        by_cases hjm : j = m
        · subst hjm; exact (zbm_ok w j (by omega)).mpr h41
        · exact hok j (by omega) hj2)
    · skip
      refine z_if_ne (pc := 44) 49 C dX10_type_44 (by decide) (fun h44 => absurd (of_decide_eq_true rfl) h44) (fun h44 => ?_)
      exact kbad m _ (by omega) (fun hq => h41 ((zbm_ok w m (by omega)).mp hq))
/-- a tape (kind k, length in cell (kl, 0, jl)), c bytes of w written behind l -/
def ztp (k kl jl : Nat) (f : zM) (w : Int64) (l N c : Nat) : zM := fun x y z => if x = kl ∧ y = 0 ∧ z = jl then nI (l + c) else if x = k ∧ y = 0 ∧ l ≤ z ∧ z < l + c then zby w (nI (N - 1 - (z - l))) else f x y z
theorem ztp_0 {k kl jl : Nat} {f : zM} {w : Int64} {l N : Nat} (h : f kl 0 jl = nI l) : ztp k kl jl f w l N 0 = f := by
  funext x y z
  unfold ztp
  split
  · rename_i q
    obtain ⟨rfl, rfl, rfl⟩ := q
    exact h.symm
  · rw [if_neg (by omega)]
theorem ztp_len {k kl jl : Nat} {f : zM} {w : Int64} {l N c : Nat} : ztp k kl jl f w l N c kl 0 jl = nI (l + c) := by
  unfold ztp
  rw [if_pos ⟨rfl, rfl, rfl⟩]
theorem ztp_s {k kl jl : Nat} {f : zM} {w : Int64} {l N c : Nat} (hk : k ≠ kl) (x : Int32) (hx : x = zby w (nI (N - 1 - c))) : zup (zup (ztp k kl jl f w l N c) k 0 (l + c) x) kl 0 jl (nI (l + c) + 1) = ztp k kl jl f w l N (c + 1) := by
  subst hx
  funext a b d
  unfold zup ztp
  by_cases q1 : a = kl ∧ b = 0 ∧ d = jl
  · rw [if_pos q1, if_pos q1, ← nI_succ]; rfl
  · rw [if_neg q1, if_neg q1]
    by_cases q2 : a = k ∧ b = 0 ∧ d = l + c
    · rw [if_pos q2, if_neg q1, if_pos (by omega), show d - l = c by omega]
    · rw [if_neg q2, if_neg q1]
      by_cases q3 : a = k ∧ b = 0 ∧ l ≤ d ∧ d < l + c
      · rw [if_pos q3, if_pos (by omega)]
      · rw [if_neg q3, if_neg (by omega)]
theorem zby_B (w : Int64) (i : Int32) : zB (zby w i) 0 255 := zand_b (zB_any _) (zB.of (x := 255) 255 (by decide)) (by decide)
theorem zby_c (w : Int64) (i : Int32) : vp_nar .char (((zby w i).toUInt32 % 65536).toInt32) = zby w i := by
  rw [zu16 (zby_B w i) (by decide) (by decide)]
  exact zu16 (zby_B w i) (by decide) (by decide)
theorem zbm_y (w : Int64) (i : Nat) (hi : i < 8) : (zbm w (nI i)).toInt32 = zby w (nI i) := by
  rw [z32eq, zby_int w i hi, Int64.toInt_toInt32, zbm_int w i hi]
  exact z_bmod (by omega) (by omega)
set_option maxRecDepth 100000 in
set_option maxHeartbeats 4000000 in
theorem type_putx {X : zX} {d : Nat} {w : Int64} {N l : Nat} {f : zM} (hN : N ≤ 8) (hl : l + N ≤ 120) (C : zC X cX9_type yX9_type.cls (d + 1)) (hn : znL X = 6)
    (kk : ∀ (o4 o5 : Option zV), Z X 99 [some (zr 0 0), some (zl w), none, some (zi (nI N)), o4, o5] [] (ztp 19 18 3 f w l N N)) :
    ∀ (m : Nat) (o5 : Option zV), m ≤ N → Z X 74 [some (zr 0 0), some (zl w), none, some (zi (nI N)), some (zi (nI m + (-1))), o5] [] (ztp 19 18 3 f w l N (N - m)) := by
  intro m
  induction m with
  | zero =>
    intro o5 hm
    refine z_iload (pc := 74) C dX9_type_74 rfl ?_
    exact z_if_lt (pc := 76) 99 C dX9_type_76 (by decide) (fun _ => kk _ o5) (fun h => absurd (by decide) h)
  | succ m ih =>
    intro o5 hm
    rw [nI_dec]
    have hlen : ztp 19 18 3 f w l N (N - (m + 1)) 18 0 3 = nI (l + (N - (m + 1))) := ztp_len
    refine z_iload (pc := 74) C dX9_type_74 rfl ?_
    refine z_if_lt (pc := 76) 99 C dX9_type_76 (by decide) (fun h => absurd h (nI_pos (by omega))) (fun _ => ?_)
    refine z_aload_n (pc := 79) C dX9_type_79 rfl ?_
    refine z_getR (pc := 80) C zf_X9_31 rfl rfl (by decide) dX9_type_80 ?_
    refine z_lload_n (pc := 83) C dX9_type_83 rfl ?_
    refine z_iload (pc := 84) C dX9_type_84 rfl ?_
    refine z_callSx (pc := 86) C zk_X9_104 (m_X9_byteOf _ _ _ _) rfl rfl (Nat.le_of_ble_eq_true rfl) dX9_type_86 ?_
    simp only [Option.toList, List.cons_append, List.nil_append]
    refine z_i2c (pc := 89) C dX9_type_89 ?_
    refine z_callVx (pc := 90) C zk_X9_111 (m_X7_write _ _ _ (by rw [hlen]; exact nI_ge (a := l + (N - (m + 1))) (b := 120) (by omega) (by omega)) (by rw [hlen]; exact nI_in (by omega) (by omega))) rfl rfl (by decide) rfl rfl (Nat.le_of_ble_eq_true rfl) dX9_type_90 ?_
    simp only [Option.toList, List.cons_append, List.nil_append]
    rw [hlen, nI_clamp (by omega), zby_c, ztp_s (by decide) _ (by rw [show N - 1 - (N - (m + 1)) = m by omega])]
    refine z_iinc (pc := 93) (v := -1) C dX9_type_93 rfl (by decide) (by rw [hn]; decide) rfl ?_
    refine z_goto (pc := 96) 74 C dX9_type_96 (by decide) ?_
    have := ih (some (zi (nI m))) (by omega)
    rw [show N - (m + 1) + 1 = N - m by omega]
    exact ih _ (by omega)
def ztyok (w : Int64) (a2 : Int32) : Prop := (1 ≤ a2.toInt ∧ a2.toInt ≤ 8) ∧ ∀ i, i < a2.toInt.toNat → zbyok w i
theorem x_X9_type (d : Nat) (f : zM) (w : Int64) (a2 : Int32) (l : Nat) (hl : f 18 0 3 = nI l) (h120 : l ≤ 120) : ZM (d + 1) yX9_type cX9_type 6 (some .int) [zr 0 0, zl w, zi a2] f (fun r g => (¬ ztyok w a2 ∧ r = some (zi (-1)) ∧ g = f) ∨ (ztyok w a2 ∧ 120 < l + a2.toInt.toNat ∧ r = some (zi (-3)) ∧ g = f) ∨ (ztyok w a2 ∧ l + a2.toInt.toNat ≤ 120 ∧ r = some (zi (nI (l + a2.toInt.toNat))) ∧ g = ztp 19 18 3 f w l a2.toInt.toNat a2.toInt.toNat)) := by
  refine ZM.intro (by decide +kernel) (Nat.le_of_ble_eq_true rfl) ?_
  intro X C hr hn
  show Z X 0 [some (zr 0 0), some (zl w), none, some (zi a2), none, none] [] f
  refine z_iload_n (pc := 0) C dX9_type_0 rfl ?_
  refine z_iconst (pc := 1) (v := 1) C dX9_type_1 (by decide) ?_
  refine z_icmp_lt (pc := 2) 11 C dX9_type_2 (by decide) (fun h2 => ?_) (fun h2 => ?_)
  · refine z_iconst (pc := 11) (v := -1) C dX9_type_11 (by decide) ?_
    exact z_iret (pc := 12) C hr dX9_type_12 (Or.inl ⟨fun q => by have q := q.1; simp only [z32lt, z32le, z32eq, Int32.reduceToInt, Int32.toInt_zero, Int32.toInt_one] at *; omega, rfl, rfl⟩)
  · refine z_iload_n (pc := 5) C dX9_type_5 rfl ?_
    refine z_bipush (pc := 6) (v := 8) C dX9_type_6 (by decide) ?_
    refine z_icmp_le (pc := 8) 13 C dX9_type_8 (by decide) (fun h8 => ?_) (fun h8 => ?_)
    · have hb : 1 ≤ a2.toInt ∧ a2.toInt ≤ 8 := by simp only [z32lt, z32le, z32eq, Int32.reduceToInt, Int32.toInt_zero, Int32.toInt_one] at *; omega
      obtain ⟨e1, e2⟩ := nI_ofI (x := a2) (by omega)
      unfold ztyok at hr
      generalize hNd : a2.toInt.toNat = N at e1 e2 hr
      have hN : N ≤ 8 := by omega
      subst e1
      refine z_iconst (pc := 13) (v := 0) C dX9_type_13 (by decide) ?_
      refine z_istore (pc := 14) C dX9_type_14 (by rw [hn]; decide) rfl ?_
      refine type_chk (w := w) (f := f) hN C hn (fun i o4 o5 hi hbad => ?_) (fun o4 o5 hok => ?_) N 0 none (by omega) (fun j hj => absurd hj (Nat.not_lt_zero j))
      · refine z_iconst (pc := 44) (v := -1) C dX9_type_44 (by decide) ?_
        exact z_iret (pc := 45) C hr dX9_type_45 (Or.inl ⟨fun hq => hbad (hq.2 i hi), rfl, rfl⟩)
      · refine z_aload_n (pc := 52) C dX9_type_52 rfl ?_
        refine z_getR (pc := 53) C zf_X9_31 rfl rfl (by decide) dX9_type_53 ?_
        refine z_getI (pc := 56) C zf_X9_108 rfl rfl (by decide) dX9_type_56 ?_
        refine z_iload_n (pc := 59) C dX9_type_59 rfl ?_
        refine z_iadd (pc := 60) C dX9_type_60 ?_
        refine z_bipush (pc := 61) (v := 120) C dX9_type_61 (by decide) ?_
        rw [hl, nI_add]
        by_cases hfit : l + N ≤ 120
        · refine z_icmp_le (pc := 63) 69 C dX9_type_63 (by decide) (fun _ => ?_) (fun h => absurd (show nI (l + N) ≤ nI 120 from nI_le hfit (by omega)) h)
          refine z_iload_n (pc := 69) C dX9_type_69 rfl ?_
          refine z_iconst (pc := 70) (v := 1) C dX9_type_70 (by decide) ?_
          refine z_isub (pc := 71) C dX9_type_71 ?_
          refine z_istore (pc := 72) C dX9_type_72 (by rw [hn]; decide) rfl ?_
          rw [show nI N - 1 = nI N + (-1) from by rw [Int32.sub_eq_add_neg]]
          have key := type_putx (w := w) (f := f) (l := l) hN hfit C hn (fun o4 o5 => ?_) N o5 (Nat.le_refl N)
          · rw [Nat.sub_self, ztp_0 hl] at key
            exact key
          · refine z_aload_n (pc := 99) C dX9_type_99 rfl ?_
            refine z_getR (pc := 100) C zf_X9_31 rfl rfl (by decide) dX9_type_100 ?_
            refine z_getI (pc := 103) C zf_X9_108 rfl rfl (by decide) dX9_type_103 ?_
            exact z_iret (pc := 106) C hr dX9_type_106 (Or.inr (Or.inr ⟨⟨hb, hok⟩, hfit, by rw [ztp_len], rfl⟩))
        · refine z_icmp_le (pc := 63) 69 C dX9_type_63 (by decide) (fun h => absurd (show nI (l + N) ≤ nI 120 from h) (nI_ge (a := 120) (b := l + N) (by omega) (by omega))) (fun _ => ?_)
          refine z_bipush (pc := 66) (v := -3) C dX9_type_66 (by decide) ?_
          exact z_iret (pc := 68) C hr dX9_type_68 (Or.inr (Or.inl ⟨⟨hb, hok⟩, by omega, rfl, rfl⟩))
    · refine z_iconst (pc := 11) (v := -1) C dX9_type_11 (by decide) ?_
      exact z_iret (pc := 12) C hr dX9_type_12 (Or.inl ⟨fun q => by have q := q.1; simp only [z32lt, z32le, z32eq, Int32.reduceToInt, Int32.toInt_zero, Int32.toInt_one] at *; omega, rfl, rfl⟩)

set_option maxRecDepth 100000 in
set_option maxHeartbeats 4000000 in
theorem typem_putx {X : zX} {d : Nat} {w : Int64} {N l : Nat} {f : zM} (hN : N ≤ 8) (hl : l + N ≤ 120) (C : zC X cX10_type yX10_type.cls (d + 1)) (hn : znL X = 5)
    (kk : ∀ (o4 : Option zV), Z X 116 [some (zr 25 0), some (zl w), none, some (zi (nI N)), o4] [] (ztp 36 25 16 f w l N N)) :
    ∀ (m : Nat), m ≤ N → Z X 74 [some (zr 25 0), some (zl w), none, some (zi (nI N)), some (zi (nI m + (-1)))] [] (ztp 36 25 16 f w l N (N - m)) := by
  intro m
  induction m with
  | zero =>
    intro hm
    refine z_iload (pc := 74) C dX10_type_74 rfl ?_
    exact z_if_lt (pc := 76) 116 C dX10_type_76 (by decide) (fun _ => kk _) (fun h => absurd (by decide) h)
  | succ m ih =>
    intro hm
    rw [nI_dec]
    have hlen : ztp 36 25 16 f w l N (N - (m + 1)) 25 0 16 = nI (l + (N - (m + 1))) := ztp_len
    refine z_iload (pc := 74) C dX10_type_74 rfl ?_
    refine z_if_lt (pc := 76) 116 C dX10_type_76 (by decide) (fun h => absurd h (nI_pos (by omega))) (fun _ => ?_)
    refine z_aload_n (pc := 79) C dX10_type_79 rfl ?_
    refine z_getR (pc := 80) C zf_X10_40 rfl rfl (by decide) dX10_type_80 ?_
    refine z_aload_n (pc := 83) C dX10_type_83 rfl ?_
    refine z_getI (pc := 84) C zf_X10_208 rfl rfl (by decide) dX10_type_84 ?_
    refine z_lload_n (pc := 87) C dX10_type_87 rfl ?_
    refine z_bipush (pc := 88) (v := 8) C dX10_type_88 (by decide) ?_
    refine z_iload (pc := 90) C dX10_type_90 rfl ?_
    refine z_imul (pc := 92) C dX10_type_92 ?_
    refine z_lshr (pc := 93) C dX10_type_93 ?_
    refine z_ldc2 (pc := 94) C zw_1349 dX10_type_94 ?_
    refine z_land (pc := 97) C dX10_type_97 ?_
    refine z_l2i (pc := 98) C dX10_type_98 ?_
    rw [hlen]
    refine z_iast (pc := 99) C rfl (by decide) (nI_in (N := 120) (by omega) (by omega)) dX10_type_99 ?_
    rw [nI_clamp (by omega)]
    refine z_aload_n (pc := 100) C dX10_type_100 rfl ?_
    refine z_dupr (pc := 101) C dX10_type_101 ?_
    refine z_getI (pc := 102) C zf_X10_208 rfl rfl (by decide) dX10_type_102 ?_
    refine z_iconst (pc := 105) (v := 1) C dX10_type_105 (by decide) ?_
    refine z_iadd (pc := 106) C dX10_type_106 ?_
    refine z_putI (pc := 107) C zf_X10_208 zp_10_16 rfl rfl (by decide) dX10_type_107 ?_
    rw [zup_ne _ _ (by omega), hlen, ztp_s (by decide) _ (by rw [show N - 1 - (N - (m + 1)) = m by omega]; exact zbm_y w m (by omega))]
    refine z_iinc (pc := 110) (v := -1) C dX10_type_110 rfl (by decide) (by rw [hn]; decide) rfl ?_
    refine z_goto (pc := 113) 74 C dX10_type_113 (by decide) ?_
    rw [show N - (m + 1) + 1 = N - m by omega]
    exact ih (by omega)
set_option maxRecDepth 100000 in
set_option maxHeartbeats 4000000 in
theorem x_X10_type (d : Nat) (f : zM) (w : Int64) (a2 : Int32) (l : Nat) (hl : f 25 0 16 = nI l) (h120 : l ≤ 120) : ZM (d + 1) yX10_type cX10_type 5 (some .int) [zr 25 0, zl w, zi a2] f (fun r g => (¬ ztyok w a2 ∧ r = some (zi (-1)) ∧ g = f) ∨ (ztyok w a2 ∧ 120 < l + a2.toInt.toNat ∧ r = some (zi (-3)) ∧ g = f) ∨ (ztyok w a2 ∧ l + a2.toInt.toNat ≤ 120 ∧ r = some (zi (nI (l + a2.toInt.toNat))) ∧ g = ztp 36 25 16 f w l a2.toInt.toNat a2.toInt.toNat)) := by
  refine ZM.intro (by decide +kernel) (Nat.le_of_ble_eq_true rfl) ?_
  intro X C hr hn
  show Z X 0 [some (zr 25 0), some (zl w), none, some (zi a2), none] [] f
  refine z_iload_n (pc := 0) C dX10_type_0 rfl ?_
  refine z_i2l (pc := 1) C dX10_type_1 ?_
  refine z_lconst (pc := 2) (v := 1) C dX10_type_2 (by decide) ?_
  refine z_ldc2 (pc := 3) C zw_1348 dX10_type_3 ?_
  refine z_callSb (pc := 6) C zk_X10_69 (m_X10_in _ _ _ _ _) rfl rfl (Nat.le_of_ble_eq_true rfl) dX10_type_6 (fun h6 => ?_) (fun h6 => ?_)
  · skip
    refine z_if_ne (pc := 9) 14 C dX10_type_9 (by decide) (fun h9 => ?_) (fun h9 => absurd h9 (of_decide_eq_true rfl))
    have hb : 1 ≤ a2.toInt ∧ a2.toInt ≤ 8 := by rw [z64] at h6; exact h6
    obtain ⟨e1, e2⟩ := nI_ofI (x := a2) (by omega)
    unfold ztyok at hr
    generalize hNd : a2.toInt.toNat = N at e1 e2 hr
    have hN : N ≤ 8 := by omega
    subst e1
    refine z_iload_n (pc := 14) C dX10_type_14 rfl ?_
    refine z_iconst (pc := 15) (v := 1) C dX10_type_15 (by decide) ?_
    refine z_isub (pc := 16) C dX10_type_16 ?_
    refine z_istore (pc := 17) C dX10_type_17 (by rw [hn]; decide) rfl ?_
    rw [show nI N - 1 = nI N + (-1) from by rw [Int32.sub_eq_add_neg]]
    refine typem_chk (w := w) (f := f) hN C hn (fun i o4 hi hbad => ?_) (fun o4 hok => ?_) N (Nat.le_refl N) (fun j hj hj2 => absurd hj2 (by omega))
    · refine z_iconst (pc := 47) (v := -1) C dX10_type_47 (by decide) ?_
      exact z_iret (pc := 48) C hr dX10_type_48 (Or.inl ⟨fun hq => hbad (hq.2 i hi), rfl, rfl⟩)
    · refine z_aload_n (pc := 55) C dX10_type_55 rfl ?_
      refine z_getI (pc := 56) C zf_X10_208 rfl rfl (by decide) dX10_type_56 ?_
      refine z_iload_n (pc := 59) C dX10_type_59 rfl ?_
      refine z_iadd (pc := 60) C dX10_type_60 ?_
      refine z_bipush (pc := 61) (v := 120) C dX10_type_61 (by decide) ?_
      rw [hl, nI_add]
      by_cases hfit : l + N ≤ 120
      · refine z_icmp_le (pc := 63) 69 C dX10_type_63 (by decide) (fun _ => ?_) (fun h => absurd (show nI (l + N) ≤ nI 120 from nI_le hfit (by omega)) h)
        refine z_iload_n (pc := 69) C dX10_type_69 rfl ?_
        refine z_iconst (pc := 70) (v := 1) C dX10_type_70 (by decide) ?_
        refine z_isub (pc := 71) C dX10_type_71 ?_
        refine z_istore (pc := 72) C dX10_type_72 (by rw [hn]; decide) rfl ?_
        rw [show nI N - 1 = nI N + (-1) from by rw [Int32.sub_eq_add_neg]]
        have key := typem_putx (w := w) (f := f) (l := l) hN hfit C hn (fun o4 => ?_) N (Nat.le_refl N)
        · rw [Nat.sub_self, ztp_0 hl] at key
          exact key
        · refine z_aload_n (pc := 116) C dX10_type_116 rfl ?_
          refine z_getI (pc := 117) C zf_X10_208 rfl rfl (by decide) dX10_type_117 ?_
          exact z_iret (pc := 120) C hr dX10_type_120 (Or.inr (Or.inr ⟨⟨hb, hok⟩, hfit, by rw [ztp_len], rfl⟩))
      · refine z_icmp_le (pc := 63) 69 C dX10_type_63 (by decide) (fun h => absurd (show nI (l + N) ≤ nI 120 from h) (nI_ge (a := 120) (b := l + N) (by omega) (by omega))) (fun _ => ?_)
        refine z_bipush (pc := 66) (v := -3) C dX10_type_66 (by decide) ?_
        exact z_iret (pc := 68) C hr dX10_type_68 (Or.inr (Or.inl ⟨⟨hb, hok⟩, by omega, rfl, rfl⟩))
  · skip
    refine z_if_ne (pc := 9) 14 C dX10_type_9 (by decide) (fun h9 => absurd (of_decide_eq_true rfl) h9) (fun h9 => ?_)
    refine z_iconst (pc := 12) (v := -1) C dX10_type_12 (by decide) ?_
    exact z_iret (pc := 13) C hr dX10_type_13 (Or.inl ⟨fun hq => h6 (by rw [z64]; exact hq.1), rfl, rfl⟩)
theorem ztp_inv {f : zM} (hI : zInv f) {w : Int64} {k kl jl l N c : Nat} (h : l + c ≤ 120) (h1 : zrg kl jl = (0, 120)) (h2 : ∀ j, zrg k j = (0, 255)) : zInv (ztp k kl jl f w l N c) := by
  intro x y z
  unfold ztp
  split
  · rename_i q
    obtain ⟨rfl, rfl, rfl⟩ := q
    rw [h1, nI_toInt (by omega)]
    show (0 : Int) ≤ _ ∧ _ ≤ (120 : Int)
    omega
  · split
    · rename_i q
      obtain ⟨rfl, rfl, q3⟩ := q
      rw [h2]
      exact zby_B w _
    · exact hI x y z

set_option maxRecDepth 100000 in
set_option maxHeartbeats 4000000 in
theorem w_X9_worldL (d : Nat) (f : zM)  (hI : zInv f) : ZMs (d + 9) yX9_world cX9_world 3 (some .int) [zr 0 0] f (fun r g => (∃ v, r = some (zi v) ∧ zB v (-140) 12) ∧ zInv g ∧ zFr [(1, some 5), (1, some 7), (7, some 0), (7, some 1), (7, some 2), (7, some 3), (7, some 4), (7, some 5), (8, some 5), (8, some 6), (8, some 7), (9, none), (10, none), (11, some 0), (11, some 1), (11, some 2), (11, some 3), (11, some 4), (11, some 5), (11, some 6), (11, some 7), (18, some 3), (18, some 4), (18, some 5), (18, some 6), (18, some 7)] f g ∧ (∀ v : Int32, r = some (zi v) → (g 18 0 3).toInt = 0)) := by
  refine ZMs.intro (by decide +kernel) (Nat.le_of_ble_eq_true rfl) ?_
  intro X C hr hn hT
  have hF : zFr [(1, some 5), (1, some 7), (7, some 0), (7, some 1), (7, some 2), (7, some 3), (7, some 4), (7, some 5), (8, some 5), (8, some 6), (8, some 7), (9, none), (10, none), (11, some 0), (11, some 1), (11, some 2), (11, some 3), (11, some 4), (11, some 5), (11, some 6), (11, some 7), (18, some 3), (18, some 4), (18, some 5), (18, some 6), (18, some 7)] f f := zFr.rf _ _
  have ct1_0_5 : zB (f 1 0 5) 0 24 := hI 1 0 5
  have ct18_0_4 : zB (f 18 0 4) 0 12 := hI 18 0 4
  have ct1_0_7 : zB (f 1 0 7) 0 12 := hI 1 0 7
  have ct18_0_5 : zB (f 18 0 5) 0 12 := hI 18 0 5
  have ct18_0_3 : zB (f 18 0 3) 0 120 := hI 18 0 3
  have J : ∀ t : Nat, (∀ a62_1 : Int32, zB a62_1 0 12 → ∀ g : zM, zInv g → zFr [(1, some 5), (1, some 7), (7, some 0), (7, some 1), (7, some 2), (7, some 3), (7, some 4), (7, some 5), (8, some 5), (8, some 6), (8, some 7), (9, none), (10, none), (11, some 0), (11, some 1), (11, some 2), (11, some 3), (11, some 4), (11, some 5), (11, some 6), (11, some 7), (18, some 3), (18, some 4), (18, some 5), (18, some 6), (18, some 7)] f g → zB (g 1 0 5) 0 24 → zB (g 1 0 7) 0 12 → zB (g 18 0 3) 0 0 → zB (g 18 0 4) 0 12 → zB (g 18 0 5) 0 12 → ((g 18 0 3).toInt = 0) → (977 : Int) < t → Z X 62 [some (zr 0 0), some (zi a62_1), none] [] g) ∧ (∀ a67_1 : Int32, zB a67_1 0 12 → ∀ a67_2 : Int32, zB a67_2 0 12 → ∀ g : zM, zInv g → zFr [(1, some 5), (1, some 7), (7, some 0), (7, some 1), (7, some 2), (7, some 3), (7, some 4), (7, some 5), (8, some 5), (8, some 6), (8, some 7), (9, none), (10, none), (11, some 0), (11, some 1), (11, some 2), (11, some 3), (11, some 4), (11, some 5), (11, some 6), (11, some 7), (18, some 3), (18, some 4), (18, some 5), (18, some 6), (18, some 7)] f g → zB (g 1 0 5) 0 24 → zB (g 1 0 7) 0 12 → zB (g 18 0 3) 0 0 → zB (g 18 0 4) 0 12 → zB (g 18 0 5) 0 12 → ((g 1 0 5).toInt + (g 18 0 4).toInt - a67_2.toInt ≤ 24) → ((g 1 0 7).toInt + (g 18 0 5).toInt ≤ 12) → ((g 18 0 3).toInt = 0) → (66 + 70 * (12 - a67_2.toInt) : Int) < t → Z X 67 [some (zr 0 0), some (zi a67_1), some (zi a67_2)] [] g) ∧ (∀ a121_1 : Int32, zB a121_1 0 12 → ∀ a121_2 : Int32, zB a121_2 0 12 → ∀ g : zM, zInv g → zFr [(1, some 5), (1, some 7), (7, some 0), (7, some 1), (7, some 2), (7, some 3), (7, some 4), (7, some 5), (8, some 5), (8, some 6), (8, some 7), (9, none), (10, none), (11, some 0), (11, some 1), (11, some 2), (11, some 3), (11, some 4), (11, some 5), (11, some 6), (11, some 7), (18, some 3), (18, some 4), (18, some 5), (18, some 6), (18, some 7)] f g → zB (g 1 0 5) 0 24 → zB (g 1 0 7) 0 12 → zB (g 18 0 3) 0 0 → zB (g 18 0 4) 0 12 → zB (g 18 0 5) 0 12 → ((g 1 0 7).toInt + (g 18 0 5).toInt - a121_2.toInt ≤ 12) → ((g 18 0 3).toInt = 0) → (0 + 5 * (12 - a121_2.toInt) : Int) < t → Z X 121 [some (zr 0 0), some (zi a121_1), some (zi a121_2)] [] g) := by
    intro t
    induction t with
    | zero =>
      refine ⟨?_, ?_, ?_⟩ <;> (intros; exfalso; omega)
    | succ t ih =>
      obtain ⟨ih0, ih1, ih2⟩ := ih
      refine ⟨?_, ?_, ?_⟩
      · skip
        intro a62_1 b62_1 g62_ hI62_ hF62_ f62_1_0_5 f62_1_0_7 f62_18_0_3 f62_18_0_4 f62_18_0_5 hR62_0 hM62_
        refine z_bipush (pc := 62) (v := -3) C dX9_world_62 (by decide) ?_
        exact z_iret (pc := 64) C hr dX9_world_64 ⟨⟨_, rfl, (zB.wk (a' := (-140)) (b' := 12) (zB.of (x := (-3)) (-3) (by decide)) (by decide) (by decide))⟩, hI62_, hF62_, (by intro v hv; cases hv; have qc0 : ((-3) : Int32).toInt = (-3) := (by decide); omega)⟩
      · skip
        intro a67_1 b67_1 a67_2 b67_2 g67_ hI67_ hF67_ f67_1_0_5 f67_1_0_7 f67_18_0_3 f67_18_0_4 f67_18_0_5 hR67_0 hR67_1 hR67_2 hM67_
        refine z_iload_n (pc := 67) C dX9_world_67 rfl ?_
        refine z_aload_n (pc := 68) C dX9_world_68 rfl ?_
        refine z_getR (pc := 69) C zf_X9_31 rfl rfl (by decide) dX9_world_69 ?_
        refine z_getI (pc := 72) C zf_X9_118 rfl rfl (by decide) dX9_world_72 ?_
        refine w_gp (fun v => v.toInt = (g67_ 18 0 4).toInt) rfl (fun v1 e1 => ?_)
        have b1x : zB v1 0 12 := by have q9 : zB (g67_ 18 0 4) 0 12 := f67_18_0_4; constructor <;> omega
        refine z_icmp_ge (pc := 75) 119 C dX9_world_75 (by decide) (fun h75_1 => ?_) (fun h75_1 => ?_)
        · skip
          have rr3 : a67_2.toInt ≥ v1.toInt := by simp only [z32lt, z32le, z32eq] at h75_1; omega
          refine z_iconst (pc := 119) (v := 0) C dX9_world_119 (by decide) ?_
          refine z_istore_n (pc := 120) C dX9_world_120 (by rw [hn]; decide) rfl ?_
          exact ih2 a67_1 b67_1 0 (zB.wk (a' := 0) (b' := 12) (zB.of (x := 0) 0 (by decide)) (by decide) (by decide)) g67_ hI67_ hF67_ f67_1_0_5 f67_1_0_7 f67_18_0_3 f67_18_0_4 f67_18_0_5 (by have qc0 : (0 : Int32).toInt = 0 := (by decide); omega) (by have qc0 : (0 : Int32).toInt = 0 := (by decide); omega) (by have qc0 : (0 : Int32).toInt = 0 := (by decide); omega)
        · skip
          have rr4 : a67_2.toInt < v1.toInt := by simp only [z32lt, z32le, z32eq] at h75_1; omega
          have b5x : zB a67_2 0 11 := by have q1 := b67_2; have q2 := b1x; simp only [z32lt, z32le, z32eq, Int32.reduceToInt, Int32.toInt_zero] at h75_1; constructor <;> omega
          have b6x : zB v1 1 12 := by have q1 := b67_2; have q2 := b1x; simp only [z32lt, z32le, z32eq, Int32.reduceToInt, Int32.toInt_zero] at h75_1; constructor <;> omega
          have c7x : zB (g67_ 18 0 4) 1 12 := by constructor <;> omega
          have c8x : zB (g67_ 1 0 5) 0 23 := by constructor <;> omega
          refine z_aload_n (pc := 78) C dX9_world_78 rfl ?_
          refine z_getR (pc := 79) C zf_X9_10 rfl rfl (by decide) dX9_world_79 ?_
          refine z_getR (pc := 82) C zf_X9_54 rfl rfl (by decide) dX9_world_82 ?_
          refine z_aload_n (pc := 85) C dX9_world_85 rfl ?_
          refine z_getR (pc := 86) C zf_X9_10 rfl rfl (by decide) dX9_world_86 ?_
          refine z_getI (pc := 89) C zf_X9_50 rfl rfl (by decide) dX9_world_89 ?_
          refine w_gp (fun v => v.toInt = (g67_ 1 0 5).toInt) rfl (fun v9 e9 => ?_)
          have b9x : zB v9 0 23 := by have q9 : zB (g67_ 1 0 5) 0 23 := c8x; constructor <;> omega
          refine z_aald (pc := 92) C rfl ⟨rfl, by decide⟩ (by decide) (zIx b9x (by decide) (by decide)) dX9_world_92 ?_
          refine w_gr (by have hq := zN b9x (by decide); show 24 * 0 + v9.toNatClampNeg < 60; omega) (fun m10 h10x => ?_)
          refine z_aload_n (pc := 93) C dX9_world_93 rfl ?_
          refine z_getR (pc := 94) C zf_X9_31 rfl rfl (by decide) dX9_world_94 ?_
          refine z_getR (pc := 97) C zf_X9_123 rfl rfl (by decide) dX9_world_97 ?_
          refine z_iload_n (pc := 100) C dX9_world_100 rfl ?_
          refine z_aald (pc := 101) C rfl ⟨rfl, by decide⟩ (by decide) (zIx b5x (by decide) (by decide)) dX9_world_101 ?_
          refine w_gr (by have hq := zN b5x (by decide); show 48 + a67_2.toNatClampNeg < 60; omega) (fun m11 h11x => ?_)
          refine z_callV (pc := 102) C zk_X9_124 (w_X0_copy _ _ m10 h10x m11 h11x hI67_) rfl rfl h10x rfl rfl (Nat.le_of_ble_eq_true rfl) dX9_world_102 (fun r12 g12 q12 => ?_)
          obtain ⟨rfl, hI12, hF12q⟩ := q12
          have hF12 := zFr.tr hF67_ hF12q (by decide)
          simp only [Option.toList, List.cons_append, List.nil_append]
          have ek12_1_0_5 : (g12 1 0 5).toInt = (g67_ 1 0 5).toInt := by rw [hF12q 1 0 5 rfl]
          have c12_1_0_5x : zB (g12 1 0 5) 0 23 := by have q9 := c8x; constructor <;> omega
          have ek12_18_0_4 : (g12 18 0 4).toInt = (g67_ 18 0 4).toInt := by rw [hF12q 18 0 4 rfl]
          have c12_18_0_4x : zB (g12 18 0 4) 1 12 := by have q9 := c7x; constructor <;> omega
          have ek12_1_0_7 : (g12 1 0 7).toInt = (g67_ 1 0 7).toInt := by rw [hF12q 1 0 7 rfl]
          have c12_1_0_7x : zB (g12 1 0 7) 0 12 := by have q9 := f67_1_0_7; constructor <;> omega
          have ek12_18_0_5 : (g12 18 0 5).toInt = (g67_ 18 0 5).toInt := by rw [hF12q 18 0 5 rfl]
          have c12_18_0_5x : zB (g12 18 0 5) 0 12 := by have q9 := f67_18_0_5; constructor <;> omega
          have ek12_18_0_3 : (g12 18 0 3).toInt = (g67_ 18 0 3).toInt := by rw [hF12q 18 0 3 rfl]
          have c12_18_0_3x : zB (g12 18 0 3) 0 0 := by have q9 := f67_18_0_3; constructor <;> omega
          refine z_aload_n (pc := 105) C dX9_world_105 rfl ?_
          refine z_getR (pc := 106) C zf_X9_10 rfl rfl (by decide) dX9_world_106 ?_
          refine z_callV (pc := 109) C zk_X9_64 (w_X8_takeCrime _ _ c12_1_0_5x hI12) rfl rfl (by decide) rfl rfl (Nat.le_of_ble_eq_true rfl) dX9_world_109 (fun r13 g13 q13 => ?_)
          obtain ⟨⟨v13, rfl, b13x⟩, hI13, hF13q, hp13_0⟩ := q13
          have hp13_0 := hp13_0 _ rfl
          have hF13 := zFr.tr hF12 hF13q (by decide)
          simp only [Option.toList, List.cons_append, List.nil_append]
          have cr13_1_0_5 : zB (g13 1 0 5) 0 24 := hI13 1 0 5
          have ek13_18_0_4 : (g13 18 0 4).toInt = (g12 18 0 4).toInt := by rw [hF13q 18 0 4 rfl]
          have c13_18_0_4x : zB (g13 18 0 4) 1 12 := by have q9 := c12_18_0_4x; constructor <;> omega
          have ek13_1_0_7 : (g13 1 0 7).toInt = (g12 1 0 7).toInt := by rw [hF13q 1 0 7 rfl]
          have c13_1_0_7x : zB (g13 1 0 7) 0 12 := by have q9 := c12_1_0_7x; constructor <;> omega
          have ek13_18_0_5 : (g13 18 0 5).toInt = (g12 18 0 5).toInt := by rw [hF13q 18 0 5 rfl]
          have c13_18_0_5x : zB (g13 18 0 5) 0 12 := by have q9 := c12_18_0_5x; constructor <;> omega
          have ek13_18_0_3 : (g13 18 0 3).toInt = (g12 18 0 3).toInt := by rw [hF13q 18 0 3 rfl]
          have c13_18_0_3x : zB (g13 18 0 3) 0 0 := by have q9 := c12_18_0_3x; constructor <;> omega
          refine z_pop (pc := 112) C dX9_world_112 ?_
          refine z_iinc (pc := 113) (v := 1) C dX9_world_113 rfl (by decide) (by rw [hn]; decide) rfl ?_
          obtain ⟨v14, hv14, e14⟩ : ∃ v : Int32, v = a67_2 + 1 ∧ v.toInt = a67_2.toInt + 1 := ⟨_, rfl, zadd_eb b5x (zB.of (x := 1) 1 (by decide)) (by decide) (by decide)⟩
          rw [← hv14]
          have b14x : zB v14 1 12 := by have q9 := b5x; constructor <;> omega
          refine z_goto (pc := 116) 67 C dX9_world_116 (by decide) ?_
          exact ih1 a67_1 b67_1 v14 (zB.wk (a' := 0) (b' := 12) b14x (by decide) (by decide)) g13 hI13 hF13 cr13_1_0_5 c13_1_0_7x c13_18_0_3x (zB.wk c13_18_0_4x (by decide) (by decide)) c13_18_0_5x (by omega) (by omega) (by omega) (by omega)
      · skip
        intro a121_1 b121_1 a121_2 b121_2 g121_ hI121_ hF121_ f121_1_0_5 f121_1_0_7 f121_18_0_3 f121_18_0_4 f121_18_0_5 hR121_0 hR121_1 hM121_
        refine z_iload_n (pc := 121) C dX9_world_121 rfl ?_
        refine z_aload_n (pc := 122) C dX9_world_122 rfl ?_
        refine z_getR (pc := 123) C zf_X9_31 rfl rfl (by decide) dX9_world_123 ?_
        refine z_getI (pc := 126) C zf_X9_122 rfl rfl (by decide) dX9_world_126 ?_
        refine w_gp (fun v => v.toInt = (g121_ 18 0 5).toInt) rfl (fun v15 e15 => ?_)
        have b15x : zB v15 0 12 := by have q9 : zB (g121_ 18 0 5) 0 12 := f121_18_0_5; constructor <;> omega
        refine z_icmp_ge (pc := 129) 173 C dX9_world_129 (by decide) (fun h129_15 => ?_) (fun h129_15 => ?_)
        · skip
          have rr17 : a121_2.toInt ≥ v15.toInt := by simp only [z32lt, z32le, z32eq] at h129_15; omega
          refine z_iload_n (pc := 173) C dX9_world_173 rfl ?_
          exact z_iret (pc := 174) C hr dX9_world_174 ⟨⟨_, rfl, (zB.wk (a' := (-140)) (b' := 12) b121_1 (by decide) (by decide))⟩, hI121_, hF121_, (by intro v hv; cases hv; omega)⟩
        · skip
          have rr18 : a121_2.toInt < v15.toInt := by simp only [z32lt, z32le, z32eq] at h129_15; omega
          have b19x : zB a121_2 0 11 := by have q1 := b121_2; have q2 := b15x; simp only [z32lt, z32le, z32eq, Int32.reduceToInt, Int32.toInt_zero] at h129_15; constructor <;> omega
          have b20x : zB v15 1 12 := by have q1 := b121_2; have q2 := b15x; simp only [z32lt, z32le, z32eq, Int32.reduceToInt, Int32.toInt_zero] at h129_15; constructor <;> omega
          have c21x : zB (g121_ 18 0 5) 1 12 := by constructor <;> omega
          have c22x : zB (g121_ 1 0 7) 0 11 := by constructor <;> omega
          refine z_aload_n (pc := 132) C dX9_world_132 rfl ?_
          refine z_getR (pc := 133) C zf_X9_10 rfl rfl (by decide) dX9_world_133 ?_
          refine z_getR (pc := 136) C zf_X9_90 rfl rfl (by decide) dX9_world_136 ?_
          refine z_aload_n (pc := 139) C dX9_world_139 rfl ?_
          refine z_getR (pc := 140) C zf_X9_10 rfl rfl (by decide) dX9_world_140 ?_
          refine z_getI (pc := 143) C zf_X9_119 rfl rfl (by decide) dX9_world_143 ?_
          refine w_gp (fun v => v.toInt = (g121_ 1 0 7).toInt) rfl (fun v23 e23 => ?_)
          have b23x : zB v23 0 11 := by have q9 : zB (g121_ 1 0 7) 0 11 := c22x; constructor <;> omega
          refine z_aald (pc := 146) C rfl ⟨rfl, by decide⟩ (by decide) (zIx b23x (by decide) (by decide)) dX9_world_146 ?_
          refine w_gr (by have hq := zN b23x (by decide); show 12 * 0 + v23.toNatClampNeg < 36; omega) (fun m24 h24x => ?_)
          refine z_aload_n (pc := 147) C dX9_world_147 rfl ?_
          refine z_getR (pc := 148) C zf_X9_31 rfl rfl (by decide) dX9_world_148 ?_
          refine z_getR (pc := 151) C zf_X9_128 rfl rfl (by decide) dX9_world_151 ?_
          refine z_iload_n (pc := 154) C dX9_world_154 rfl ?_
          refine z_aald (pc := 155) C rfl ⟨rfl, by decide⟩ (by decide) (zIx b19x (by decide) (by decide)) dX9_world_155 ?_
          refine w_gr (by have hq := zN b19x (by decide); show 24 + a121_2.toNatClampNeg < 36; omega) (fun m25 h25x => ?_)
          refine z_callV (pc := 156) C zk_X9_129 (w_X4_copy _ _ m24 h24x m25 h25x hI121_) rfl rfl h24x rfl rfl (Nat.le_of_ble_eq_true rfl) dX9_world_156 (fun r26 g26 q26 => ?_)
          obtain ⟨rfl, hI26, hF26q⟩ := q26
          have hF26 := zFr.tr hF121_ hF26q (by decide)
          simp only [Option.toList, List.cons_append, List.nil_append]
          have ek26_1_0_5 : (g26 1 0 5).toInt = (g121_ 1 0 5).toInt := by rw [hF26q 1 0 5 rfl]
          have c26_1_0_5x : zB (g26 1 0 5) 0 24 := by have q9 := f121_1_0_5; constructor <;> omega
          have ek26_18_0_4 : (g26 18 0 4).toInt = (g121_ 18 0 4).toInt := by rw [hF26q 18 0 4 rfl]
          have c26_18_0_4x : zB (g26 18 0 4) 0 12 := by have q9 := f121_18_0_4; constructor <;> omega
          have ek26_1_0_7 : (g26 1 0 7).toInt = (g121_ 1 0 7).toInt := by rw [hF26q 1 0 7 rfl]
          have c26_1_0_7x : zB (g26 1 0 7) 0 11 := by have q9 := c22x; constructor <;> omega
          have ek26_18_0_5 : (g26 18 0 5).toInt = (g121_ 18 0 5).toInt := by rw [hF26q 18 0 5 rfl]
          have c26_18_0_5x : zB (g26 18 0 5) 1 12 := by have q9 := c21x; constructor <;> omega
          have ek26_18_0_3 : (g26 18 0 3).toInt = (g121_ 18 0 3).toInt := by rw [hF26q 18 0 3 rfl]
          have c26_18_0_3x : zB (g26 18 0 3) 0 0 := by have q9 := f121_18_0_3; constructor <;> omega
          refine z_aload_n (pc := 159) C dX9_world_159 rfl ?_
          refine z_getR (pc := 160) C zf_X9_10 rfl rfl (by decide) dX9_world_160 ?_
          refine z_callV (pc := 163) C zk_X9_132 (w_X8_takePaper _ _ c26_1_0_7x hI26) rfl rfl (by decide) rfl rfl (Nat.le_of_ble_eq_true rfl) dX9_world_163 (fun r27 g27 q27 => ?_)
          obtain ⟨⟨v27, rfl, b27x⟩, hI27, hF27q, hp27_0⟩ := q27
          have hp27_0 := hp27_0 _ rfl
          have hF27 := zFr.tr hF26 hF27q (by decide)
          simp only [Option.toList, List.cons_append, List.nil_append]
          have ek27_1_0_5 : (g27 1 0 5).toInt = (g26 1 0 5).toInt := by rw [hF27q 1 0 5 rfl]
          have c27_1_0_5x : zB (g27 1 0 5) 0 24 := by have q9 := c26_1_0_5x; constructor <;> omega
          have ek27_18_0_4 : (g27 18 0 4).toInt = (g26 18 0 4).toInt := by rw [hF27q 18 0 4 rfl]
          have c27_18_0_4x : zB (g27 18 0 4) 0 12 := by have q9 := c26_18_0_4x; constructor <;> omega
          have cr27_1_0_7 : zB (g27 1 0 7) 0 12 := hI27 1 0 7
          have ek27_18_0_5 : (g27 18 0 5).toInt = (g26 18 0 5).toInt := by rw [hF27q 18 0 5 rfl]
          have c27_18_0_5x : zB (g27 18 0 5) 1 12 := by have q9 := c26_18_0_5x; constructor <;> omega
          have ek27_18_0_3 : (g27 18 0 3).toInt = (g26 18 0 3).toInt := by rw [hF27q 18 0 3 rfl]
          have c27_18_0_3x : zB (g27 18 0 3) 0 0 := by have q9 := c26_18_0_3x; constructor <;> omega
          refine z_pop (pc := 166) C dX9_world_166 ?_
          refine z_iinc (pc := 167) (v := 1) C dX9_world_167 rfl (by decide) (by rw [hn]; decide) rfl ?_
          obtain ⟨v28, hv28, e28⟩ : ∃ v : Int32, v = a121_2 + 1 ∧ v.toInt = a121_2.toInt + 1 := ⟨_, rfl, zadd_eb b19x (zB.of (x := 1) 1 (by decide)) (by decide) (by decide)⟩
          rw [← hv28]
          have b28x : zB v28 1 12 := by have q9 := b19x; constructor <;> omega
          refine z_goto (pc := 170) 121 C dX9_world_170 (by decide) ?_
          exact ih2 a121_1 b121_1 v28 (zB.wk (a' := 0) (b' := 12) b28x (by decide) (by decide)) g27 hI27 hF27 c27_1_0_5x cr27_1_0_7 c27_18_0_3x c27_18_0_4x (zB.wk c27_18_0_5x (by decide) (by decide)) (by omega) (by omega) (by omega)
  obtain ⟨J0, J1, J2⟩ := J 989
  show Z X 0 [some (zr 0 0), none, none] [] f
  refine z_aload_n (pc := 0) C dX9_world_0 rfl ?_
  refine z_getR (pc := 1) C zf_X9_31 rfl rfl (by decide) dX9_world_1 ?_
  refine z_callVS (pc := 4) C hT zk_X9_115 (w_X7_parse _ _  hI) rfl rfl (by decide) rfl rfl (Nat.le_of_ble_eq_true rfl) dX9_world_4 (fun r29 g29 q29 => ?_)
  obtain ⟨⟨v29, rfl, b29x⟩, hI29, hF29q⟩ := q29
  have hF29 := zFr.tr hF hF29q (by decide)
  simp only [Option.toList, List.cons_append, List.nil_append]
  have ek29_1_0_5 : (g29 1 0 5).toInt = (f 1 0 5).toInt := by rw [hF29q 1 0 5 rfl]
  have c29_1_0_5x : zB (g29 1 0 5) 0 24 := by have q9 := ct1_0_5; constructor <;> omega
  have cr29_18_0_4 : zB (g29 18 0 4) 0 12 := hI29 18 0 4
  have ek29_1_0_7 : (g29 1 0 7).toInt = (f 1 0 7).toInt := by rw [hF29q 1 0 7 rfl]
  have c29_1_0_7x : zB (g29 1 0 7) 0 12 := by have q9 := ct1_0_7; constructor <;> omega
  have cr29_18_0_5 : zB (g29 18 0 5) 0 12 := hI29 18 0 5
  have ek29_18_0_3 : (g29 18 0 3).toInt = (f 18 0 3).toInt := by rw [hF29q 18 0 3 rfl]
  have c29_18_0_3x : zB (g29 18 0 3) 0 120 := by have q9 := ct18_0_3; constructor <;> omega
  refine z_istore_n (pc := 7) C dX9_world_7 (by rw [hn]; decide) rfl ?_
  refine z_aload_n (pc := 8) C dX9_world_8 rfl ?_
  refine z_getR (pc := 9) C zf_X9_31 rfl rfl (by decide) dX9_world_9 ?_
  refine z_iconst (pc := 12) (v := 0) C dX9_world_12 (by decide) ?_
  refine z_putI (pc := 13) C zf_X9_108 zp_7_3 rfl rfl (by decide) dX9_world_13 ?_
  refine w_mem2 hI29 hF29 (zB.wk (a' := 0) (b' := 120) (zB.of (x := 0) 0 (by decide)) (by decide) (by decide)) rfl (fun g30 hI30 hF30 hq30 hx30 => ?_)
  have ek30_1_0_5 : (g30 1 0 5).toInt = (g29 1 0 5).toInt := by rw [hq30 1 0 5 (by omega)]
  have c30_1_0_5x : zB (g30 1 0 5) 0 24 := by have q9 := c29_1_0_5x; constructor <;> omega
  have ek30_18_0_4 : (g30 18 0 4).toInt = (g29 18 0 4).toInt := by rw [hq30 18 0 4 (by omega)]
  have c30_18_0_4x : zB (g30 18 0 4) 0 12 := by have q9 := cr29_18_0_4; constructor <;> omega
  have ek30_1_0_7 : (g30 1 0 7).toInt = (g29 1 0 7).toInt := by rw [hq30 1 0 7 (by omega)]
  have c30_1_0_7x : zB (g30 1 0 7) 0 12 := by have q9 := c29_1_0_7x; constructor <;> omega
  have ek30_18_0_5 : (g30 18 0 5).toInt = (g29 18 0 5).toInt := by rw [hq30 18 0 5 (by omega)]
  have c30_18_0_5x : zB (g30 18 0 5) 0 12 := by have q9 := cr29_18_0_5; constructor <;> omega
  have ec30 : (g30 18 0 3).toInt = (0 : Int32).toInt := by rw [hx30]
  have c30x : zB (g30 18 0 3) 0 0 := by have q9 := (zB.of (x := 0) 0 (by decide)); constructor <;> omega
  refine z_iload_n (pc := 16) C dX9_world_16 rfl ?_
  refine z_if_ge (pc := 17) 22 C dX9_world_17 (by decide) (fun h17_30 => ?_) (fun h17_30 => ?_)
  · skip
    have b32x : zB v29 0 12 := by have q1 := b29x; have q2 := (zB.of (x := 0) 0 (by decide)); simp only [z32lt, z32le, z32eq, Int32.reduceToInt, Int32.toInt_zero] at h17_30; constructor <;> omega
    refine z_aload_n (pc := 22) C dX9_world_22 rfl ?_
    refine z_getR (pc := 23) C zf_X9_10 rfl rfl (by decide) dX9_world_23 ?_
    refine z_getI (pc := 26) C zf_X9_50 rfl rfl (by decide) dX9_world_26 ?_
    refine w_gp (fun v => v.toInt = (g30 1 0 5).toInt) rfl (fun v33 e33 => ?_)
    have b33x : zB v33 0 24 := by have q9 : zB (g30 1 0 5) 0 24 := c30_1_0_5x; constructor <;> omega
    refine z_aload_n (pc := 29) C dX9_world_29 rfl ?_
    refine z_getR (pc := 30) C zf_X9_31 rfl rfl (by decide) dX9_world_30 ?_
    refine z_getI (pc := 33) C zf_X9_118 rfl rfl (by decide) dX9_world_33 ?_
    refine w_gp (fun v => v.toInt = (g30 18 0 4).toInt) rfl (fun v34 e34 => ?_)
    have b34x : zB v34 0 12 := by have q9 : zB (g30 18 0 4) 0 12 := c30_18_0_4x; constructor <;> omega
    refine z_iadd (pc := 36) C dX9_world_36 ?_
    refine w_gp (fun v => v.toInt = v33.toInt + v34.toInt) (zadd_eb b33x b34x (by decide) (by decide)) (fun v35 e35 => ?_)
    have b35x : zB v35 0 36 := by have q1 := b33x; have q2 := b34x; constructor <;> omega
    refine z_bipush (pc := 37) (v := 24) C dX9_world_37 (by decide) ?_
    refine z_icmp_gt (pc := 39) 62 C dX9_world_39 (by decide) (fun h39_35 => ?_) (fun h39_35 => ?_)
    · skip
      have b37x : zB v35 25 36 := by have q1 := b35x; have q2 := (zB.of (x := 24) 24 (by decide)); simp only [z32lt, z32le, z32eq, Int32.reduceToInt, Int32.toInt_zero] at h39_35; constructor <;> omega
      exact J0 v29 b32x g30 hI30 hF30 c30_1_0_5x c30_1_0_7x c30x c30_18_0_4x c30_18_0_5x (by omega) (by omega)
    · skip
      have b38x : zB v35 0 24 := by have q1 := b35x; have q2 := (zB.of (x := 24) 24 (by decide)); simp only [z32lt, z32le, z32eq, Int32.reduceToInt, Int32.toInt_zero] at h39_35; constructor <;> omega
      refine z_aload_n (pc := 42) C dX9_world_42 rfl ?_
      refine z_getR (pc := 43) C zf_X9_10 rfl rfl (by decide) dX9_world_43 ?_
      refine z_getI (pc := 46) C zf_X9_119 rfl rfl (by decide) dX9_world_46 ?_
      refine w_gp (fun v => v.toInt = (g30 1 0 7).toInt) rfl (fun v39 e39 => ?_)
      have b39x : zB v39 0 12 := by have q9 : zB (g30 1 0 7) 0 12 := c30_1_0_7x; constructor <;> omega
      refine z_aload_n (pc := 49) C dX9_world_49 rfl ?_
      refine z_getR (pc := 50) C zf_X9_31 rfl rfl (by decide) dX9_world_50 ?_
      refine z_getI (pc := 53) C zf_X9_122 rfl rfl (by decide) dX9_world_53 ?_
      refine w_gp (fun v => v.toInt = (g30 18 0 5).toInt) rfl (fun v40 e40 => ?_)
      have b40x : zB v40 0 12 := by have q9 : zB (g30 18 0 5) 0 12 := c30_18_0_5x; constructor <;> omega
      refine z_iadd (pc := 56) C dX9_world_56 ?_
      refine w_gp (fun v => v.toInt = v39.toInt + v40.toInt) (zadd_eb b39x b40x (by decide) (by decide)) (fun v41 e41 => ?_)
      have b41x : zB v41 0 24 := by have q1 := b39x; have q2 := b40x; constructor <;> omega
      refine z_bipush (pc := 57) (v := 12) C dX9_world_57 (by decide) ?_
      refine z_icmp_le (pc := 59) 65 C dX9_world_59 (by decide) (fun h59_41 => ?_) (fun h59_41 => ?_)
      · skip
        have b43x : zB v41 0 12 := by have q1 := b41x; have q2 := (zB.of (x := 12) 12 (by decide)); simp only [z32lt, z32le, z32eq, Int32.reduceToInt, Int32.toInt_zero] at h59_41; constructor <;> omega
        refine z_iconst (pc := 65) (v := 0) C dX9_world_65 (by decide) ?_
        refine z_istore_n (pc := 66) C dX9_world_66 (by rw [hn]; decide) rfl ?_
        exact J1 v29 b32x 0 (zB.wk (a' := 0) (b' := 12) (zB.of (x := 0) 0 (by decide)) (by decide) (by decide)) g30 hI30 hF30 c30_1_0_5x c30_1_0_7x c30x c30_18_0_4x c30_18_0_5x (by have qc0 : (0 : Int32).toInt = 0 := (by decide); omega) (by have qc0 : (0 : Int32).toInt = 0 := (by decide); omega) (by have qc0 : (0 : Int32).toInt = 0 := (by decide); omega) (by have qc0 : (0 : Int32).toInt = 0 := (by decide); omega)
      · skip
        have b44x : zB v41 13 24 := by have q1 := b41x; have q2 := (zB.of (x := 12) 12 (by decide)); simp only [z32lt, z32le, z32eq, Int32.reduceToInt, Int32.toInt_zero] at h59_41; constructor <;> omega
        exact J0 v29 b32x g30 hI30 hF30 c30_1_0_5x c30_1_0_7x c30x c30_18_0_4x c30_18_0_5x (by omega) (by omega)
  · skip
    have b45x : zB v29 (-140) (-1) := by have q1 := b29x; have q2 := (zB.of (x := 0) 0 (by decide)); simp only [z32lt, z32le, z32eq, Int32.reduceToInt, Int32.toInt_zero] at h17_30; constructor <;> omega
    refine z_iload_n (pc := 20) C dX9_world_20 rfl ?_
    exact z_iret (pc := 21) C hr dX9_world_21 ⟨⟨_, rfl, (zB.wk (a' := (-140)) (b' := 12) b45x (by decide) (by decide))⟩, hI30, hF30, (by intro v hv; cases hv; omega)⟩

set_option maxRecDepth 100000 in
set_option maxHeartbeats 4000000 in
theorem w_X10_worldL (d : Nat) (f : zM)  (hI : zInv f) : ZM (d + 4) yX10_world cX10_world 4 (some .int) [zr 25 0] f (fun r g => (∃ v, r = some (zi v) ∧ zB v (-140) 24) ∧ zInv g ∧ zFr [(25, some 0), (25, some 4), (25, some 16), (25, some 17), (25, some 18), (25, some 20), (26, none), (28, none), (37, none), (38, none)] f g ∧ (∀ v : Int32, r = some (zi v) → (g 25 0 16).toInt = 0)) := by
  refine ZM.intro (by decide +kernel) (Nat.le_of_ble_eq_true rfl) ?_
  intro X C hr hn
  have hF : zFr [(25, some 0), (25, some 4), (25, some 16), (25, some 17), (25, some 18), (25, some 20), (26, none), (28, none), (37, none), (38, none)] f f := zFr.rf _ _
  have ct25_0_0 : zB (f 25 0 0) 0 24 := hI 25 0 0
  have ct25_0_18 : zB (f 25 0 18) 0 12 := hI 25 0 18
  have ct25_0_16 : zB (f 25 0 16) 0 120 := hI 25 0 16
  have J : ∀ t : Nat, (∀ a50_1 : Int32, zB a50_1 1 1 → ∀ g : zM, zInv g → zFr [(25, some 0), (25, some 4), (25, some 16), (25, some 17), (25, some 18), (25, some 20), (26, none), (28, none), (37, none), (38, none)] f g → zB (g 25 0 0) 0 24 → zB (g 25 0 16) 0 0 → zB (g 25 0 18) 0 12 → ((g 25 0 16).toInt = 0) → (977 : Int) < t → Z X 50 [some (zr 25 0), some (zi a50_1), none, none] [] g) ∧ (∀ a55_1 : Int32, zB a55_1 1 1 → ∀ a55_2 : Int32, zB a55_2 0 12 → ∀ g : zM, zInv g → zFr [(25, some 0), (25, some 4), (25, some 16), (25, some 17), (25, some 18), (25, some 20), (26, none), (28, none), (37, none), (38, none)] f g → zB (g 25 0 0) 0 24 → zB (g 25 0 16) 0 0 → zB (g 25 0 18) 0 12 → ((g 25 0 0).toInt + (g 25 0 18).toInt - a55_2.toInt ≤ 24) → ((g 25 0 16).toInt = 0) → (66 + 70 * (12 - a55_2.toInt) : Int) < t → Z X 55 [some (zr 25 0), some (zi a55_1), some (zi a55_2), none] [] g) ∧ (∀ a126_1 : Int32, zB a126_1 1 1 → ∀ a126_2 : Int32, zB a126_2 0 12 → ∀ g : zM, zInv g → zFr [(25, some 0), (25, some 4), (25, some 16), (25, some 17), (25, some 18), (25, some 20), (26, none), (28, none), (37, none), (38, none)] f g → zB (g 25 0 0) 0 24 → zB (g 25 0 16) 0 0 → zB (g 25 0 18) 0 12 → ((g 25 0 16).toInt = 0) → (0 + 5 * (12 - a126_2.toInt) : Int) < t → Z X 126 [some (zr 25 0), some (zi a126_1), some (zi a126_2), none] [] g) := by
    intro t
    induction t with
    | zero =>
      refine ⟨?_, ?_, ?_⟩ <;> (intros; exfalso; omega)
    | succ t ih =>
      obtain ⟨ih0, ih1, ih2⟩ := ih
      refine ⟨?_, ?_, ?_⟩
      · skip
        intro a50_1 b50_1 g50_ hI50_ hF50_ f50_25_0_0 f50_25_0_16 f50_25_0_18 hR50_0 hM50_
        refine z_bipush (pc := 50) (v := -3) C dX10_world_50 (by decide) ?_
        exact z_iret (pc := 52) C hr dX10_world_52 ⟨⟨_, rfl, (zB.wk (a' := (-140)) (b' := 24) (zB.of (x := (-3)) (-3) (by decide)) (by decide) (by decide))⟩, hI50_, hF50_, (by intro v hv; cases hv; have qc0 : ((-3) : Int32).toInt = (-3) := (by decide); omega)⟩
      · skip
        intro a55_1 b55_1 a55_2 b55_2 g55_ hI55_ hF55_ f55_25_0_0 f55_25_0_16 f55_25_0_18 hR55_0 hR55_1 hM55_
        refine z_iload_n (pc := 55) C dX10_world_55 rfl ?_
        refine z_aload_n (pc := 56) C dX10_world_56 rfl ?_
        refine z_getI (pc := 57) C zf_X10_221 rfl rfl (by decide) dX10_world_57 ?_
        refine w_gp (fun v => v.toInt = (g55_ 25 0 18).toInt) rfl (fun v1 e1 => ?_)
        have b1x : zB v1 0 12 := by have q9 : zB (g55_ 25 0 18) 0 12 := f55_25_0_18; constructor <;> omega
        refine z_icmp_ge (pc := 60) 124 C dX10_world_60 (by decide) (fun h60_1 => ?_) (fun h60_1 => ?_)
        · skip
          have rr3 : a55_2.toInt ≥ v1.toInt := by simp only [z32lt, z32le, z32eq] at h60_1; omega
          refine z_iconst (pc := 124) (v := 0) C dX10_world_124 (by decide) ?_
          refine z_istore_n (pc := 125) C dX10_world_125 (by rw [hn]; decide) rfl ?_
          exact ih2 a55_1 b55_1 0 (zB.wk (a' := 0) (b' := 12) (zB.of (x := 0) 0 (by decide)) (by decide) (by decide)) g55_ hI55_ hF55_ f55_25_0_0 f55_25_0_16 f55_25_0_18 (by have qc0 : (0 : Int32).toInt = 0 := (by decide); omega) (by have qc0 : (0 : Int32).toInt = 0 := (by decide); omega)
        · skip
          have rr4 : a55_2.toInt < v1.toInt := by simp only [z32lt, z32le, z32eq] at h60_1; omega
          have b5x : zB a55_2 0 11 := by have q1 := b55_2; have q2 := b1x; simp only [z32lt, z32le, z32eq, Int32.reduceToInt, Int32.toInt_zero] at h60_1; constructor <;> omega
          have b6x : zB v1 1 12 := by have q1 := b55_2; have q2 := b1x; simp only [z32lt, z32le, z32eq, Int32.reduceToInt, Int32.toInt_zero] at h60_1; constructor <;> omega
          have c7x : zB (g55_ 25 0 18) 1 12 := by constructor <;> omega
          refine z_bipush (pc := 63) (v := 6) C dX10_world_63 (by decide) ?_
          refine z_iload_n (pc := 65) C dX10_world_65 rfl ?_
          refine z_imul (pc := 66) C dX10_world_66 ?_
          refine w_gp (fun v => v.toInt = 6 * a55_2.toInt) (zmul_kb 6 (by decide) (by decide) b5x (by decide) (by decide)) (fun v8 e8 => ?_)
          have b8x : zB v8 0 66 := zmul_bb e8 (by decide) b5x
          refine z_istore_n (pc := 67) C dX10_world_67 (by rw [hn]; decide) rfl ?_
          have c9x : zB (g55_ 25 0 0) 0 23 := by constructor <;> omega
          refine z_aload_n (pc := 68) C dX10_world_68 rfl ?_
          refine z_aload_n (pc := 69) C dX10_world_69 rfl ?_
          refine z_getR (pc := 70) C zf_X10_43 rfl rfl (by decide) dX10_world_70 ?_
          refine z_iload_n (pc := 73) C dX10_world_73 rfl ?_
          refine z_iald (pc := 74) C rfl (by decide) (zIx b8x (by decide) (by decide)) dX10_world_74 ?_
          refine w_gb 0 5 (by have hq9 := hI55_ 37 0 v8.toNatClampNeg; rw [zrg37 (r := 0) (by have hq : v8.toNatClampNeg = v8.toInt.toNat := rfl; have hq2 := b8x; omega)] at hq9; exact hq9) (fun v10 b10x => ?_)
          refine z_aload_n (pc := 75) C dX10_world_75 rfl ?_
          refine z_getR (pc := 76) C zf_X10_43 rfl rfl (by decide) dX10_world_76 ?_
          refine z_iload_n (pc := 79) C dX10_world_79 rfl ?_
          refine z_iconst (pc := 80) (v := 1) C dX10_world_80 (by decide) ?_
          refine z_iadd (pc := 81) C dX10_world_81 ?_
          refine w_gp (fun v => v.toInt = v8.toInt + 1) (zadd_eb b8x (zB.of (x := 1) 1 (by decide)) (by decide) (by decide)) (fun v11 e11 => ?_)
          have b11x : zB v11 1 67 := by have q1 := b8x; have q2 := (zB.of (x := 1) 1 (by decide)); constructor <;> omega
          refine z_iald (pc := 82) C rfl (by decide) (zIx b11x (by decide) (by decide)) dX10_world_82 ?_
          refine w_gb 0 63 (by have hq9 := hI55_ 37 0 v11.toNatClampNeg; rw [zrg37 (r := 1) (by have hq : v11.toNatClampNeg = v11.toInt.toNat := rfl; have hq2 := b11x; omega)] at hq9; exact hq9) (fun v12 b12x => ?_)
          refine z_aload_n (pc := 83) C dX10_world_83 rfl ?_
          refine z_getR (pc := 84) C zf_X10_43 rfl rfl (by decide) dX10_world_84 ?_
          refine z_iload_n (pc := 87) C dX10_world_87 rfl ?_
          refine z_iconst (pc := 88) (v := 2) C dX10_world_88 (by decide) ?_
          refine z_iadd (pc := 89) C dX10_world_89 ?_
          refine w_gp (fun v => v.toInt = v8.toInt + 2) (zadd_eb b8x (zB.of (x := 2) 2 (by decide)) (by decide) (by decide)) (fun v13 e13 => ?_)
          have b13x : zB v13 2 68 := by have q1 := b8x; have q2 := (zB.of (x := 2) 2 (by decide)); constructor <;> omega
          refine z_iald (pc := 90) C rfl (by decide) (zIx b13x (by decide) (by decide)) dX10_world_90 ?_
          refine w_gb 0 63 (by have hq9 := hI55_ 37 0 v13.toNatClampNeg; rw [zrg37 (r := 2) (by have hq : v13.toNatClampNeg = v13.toInt.toNat := rfl; have hq2 := b13x; omega)] at hq9; exact hq9) (fun v14 b14x => ?_)
          refine z_aload_n (pc := 91) C dX10_world_91 rfl ?_
          refine z_getR (pc := 92) C zf_X10_43 rfl rfl (by decide) dX10_world_92 ?_
          refine z_iload_n (pc := 95) C dX10_world_95 rfl ?_
          refine z_iconst (pc := 96) (v := 3) C dX10_world_96 (by decide) ?_
          refine z_iadd (pc := 97) C dX10_world_97 ?_
          refine w_gp (fun v => v.toInt = v8.toInt + 3) (zadd_eb b8x (zB.of (x := 3) 3 (by decide)) (by decide) (by decide)) (fun v15 e15 => ?_)
          have b15x : zB v15 3 69 := by have q1 := b8x; have q2 := (zB.of (x := 3) 3 (by decide)); constructor <;> omega
          refine z_iald (pc := 98) C rfl (by decide) (zIx b15x (by decide) (by decide)) dX10_world_98 ?_
          refine w_gb 0 40 (by have hq9 := hI55_ 37 0 v15.toNatClampNeg; rw [zrg37 (r := 3) (by have hq : v15.toNatClampNeg = v15.toInt.toNat := rfl; have hq2 := b15x; omega)] at hq9; exact hq9) (fun v16 b16x => ?_)
          refine z_aload_n (pc := 99) C dX10_world_99 rfl ?_
          refine z_getR (pc := 100) C zf_X10_43 rfl rfl (by decide) dX10_world_100 ?_
          refine z_iload_n (pc := 103) C dX10_world_103 rfl ?_
          refine z_iconst (pc := 104) (v := 4) C dX10_world_104 (by decide) ?_
          refine z_iadd (pc := 105) C dX10_world_105 ?_
          refine w_gp (fun v => v.toInt = v8.toInt + 4) (zadd_eb b8x (zB.of (x := 4) 4 (by decide)) (by decide) (by decide)) (fun v17 e17 => ?_)
          have b17x : zB v17 4 70 := by have q1 := b8x; have q2 := (zB.of (x := 4) 4 (by decide)); constructor <;> omega
          refine z_iald (pc := 106) C rfl (by decide) (zIx b17x (by decide) (by decide)) dX10_world_106 ?_
          refine w_gb 0 40 (by have hq9 := hI55_ 37 0 v17.toNatClampNeg; rw [zrg37 (r := 4) (by have hq : v17.toNatClampNeg = v17.toInt.toNat := rfl; have hq2 := b17x; omega)] at hq9; exact hq9) (fun v18 b18x => ?_)
          refine z_aload_n (pc := 107) C dX10_world_107 rfl ?_
          refine z_getR (pc := 108) C zf_X10_43 rfl rfl (by decide) dX10_world_108 ?_
          refine z_iload_n (pc := 111) C dX10_world_111 rfl ?_
          refine z_iconst (pc := 112) (v := 5) C dX10_world_112 (by decide) ?_
          refine z_iadd (pc := 113) C dX10_world_113 ?_
          refine w_gp (fun v => v.toInt = v8.toInt + 5) (zadd_eb b8x (zB.of (x := 5) 5 (by decide)) (by decide) (by decide)) (fun v19 e19 => ?_)
          have b19x : zB v19 5 71 := by have q1 := b8x; have q2 := (zB.of (x := 5) 5 (by decide)); constructor <;> omega
          refine z_iald (pc := 114) C rfl (by decide) (zIx b19x (by decide) (by decide)) dX10_world_114 ?_
          refine w_gb 0 1 (by have hq9 := hI55_ 37 0 v19.toNatClampNeg; rw [zrg37 (r := 5) (by have hq : v19.toNatClampNeg = v19.toInt.toNat := rfl; have hq2 := b19x; omega)] at hq9; exact hq9) (fun v20 b20x => ?_)
          refine z_callV (pc := 115) C zk_X10_91 (w_X10_addCrime _ _ v10 b10x v12 b12x v14 b14x v16 b16x v18 b18x v20 b20x c9x hI55_) rfl rfl (by decide) rfl rfl (Nat.le_of_ble_eq_true rfl) dX10_world_115 (fun r21 g21 q21 => ?_)
          obtain ⟨rfl, hI21, hF21q, hp21_0⟩ := q21
          have hF21 := zFr.tr hF55_ hF21q (by decide)
          simp only [Option.toList, List.cons_append, List.nil_append]
          have cr21_25_0_0 : zB (g21 25 0 0) 0 24 := hI21 25 0 0
          have ek21_25_0_18 : (g21 25 0 18).toInt = (g55_ 25 0 18).toInt := by rw [hF21q 25 0 18 rfl]
          have c21_25_0_18x : zB (g21 25 0 18) 1 12 := by have q9 := c7x; constructor <;> omega
          have ek21_25_0_16 : (g21 25 0 16).toInt = (g55_ 25 0 16).toInt := by rw [hF21q 25 0 16 rfl]
          have c21_25_0_16x : zB (g21 25 0 16) 0 0 := by have q9 := f55_25_0_16; constructor <;> omega
          refine z_iinc (pc := 118) (v := 1) C dX10_world_118 rfl (by decide) (by rw [hn]; decide) rfl ?_
          obtain ⟨v22, hv22, e22⟩ : ∃ v : Int32, v = a55_2 + 1 ∧ v.toInt = a55_2.toInt + 1 := ⟨_, rfl, zadd_eb b5x (zB.of (x := 1) 1 (by decide)) (by decide) (by decide)⟩
          rw [← hv22]
          have b22x : zB v22 1 12 := by have q9 := b5x; constructor <;> omega
          refine z_goto (pc := 121) 55 C dX10_world_121 (by decide) ?_
          refine w_mask [3] ?_
          exact ih1 a55_1 b55_1 v22 (zB.wk (a' := 0) (b' := 12) b22x (by decide) (by decide)) g21 hI21 hF21 cr21_25_0_0 c21_25_0_16x (zB.wk c21_25_0_18x (by decide) (by decide)) (by omega) (by omega) (by omega)
      · skip
        intro a126_1 b126_1 a126_2 b126_2 g126_ hI126_ hF126_ f126_25_0_0 f126_25_0_16 f126_25_0_18 hR126_0 hM126_
        refine z_iload_n (pc := 126) C dX10_world_126 rfl ?_
        refine z_aload_n (pc := 127) C dX10_world_127 rfl ?_
        refine z_getI (pc := 128) C zf_X10_233 rfl rfl (by decide) dX10_world_128 ?_
        refine w_gb 0 12 (hI126_ 25 _ 20) (fun v23 b23x => ?_)
        refine z_icmp_ge (pc := 131) 207 C dX10_world_131 (by decide) (fun h131_23 => ?_) (fun h131_23 => ?_)
        · skip
          have rr25 : a126_2.toInt ≥ v23.toInt := by simp only [z32lt, z32le, z32eq] at h131_23; omega
          refine z_aload_n (pc := 207) C dX10_world_207 rfl ?_
          refine z_getI (pc := 208) C zf_X10_221 rfl rfl (by decide) dX10_world_208 ?_
          refine w_gp (fun v => v.toInt = (g126_ 25 0 18).toInt) rfl (fun v26 e26 => ?_)
          have b26x : zB v26 0 12 := by have q9 : zB (g126_ 25 0 18) 0 12 := f126_25_0_18; constructor <;> omega
          refine z_aload_n (pc := 211) C dX10_world_211 rfl ?_
          refine z_getI (pc := 212) C zf_X10_233 rfl rfl (by decide) dX10_world_212 ?_
          refine w_gb 0 12 (hI126_ 25 _ 20) (fun v27 b27x => ?_)
          refine z_iadd (pc := 215) C dX10_world_215 ?_
          refine w_gp (fun v => v.toInt = v26.toInt + v27.toInt) (zadd_eb b26x b27x (by decide) (by decide)) (fun v28 e28 => ?_)
          have b28x : zB v28 0 24 := by have q1 := b26x; have q2 := b27x; constructor <;> omega
          exact z_iret (pc := 216) C hr dX10_world_216 ⟨⟨_, rfl, (zB.wk (a' := (-140)) (b' := 24) b28x (by decide) (by decide))⟩, hI126_, hF126_, (by intro v hv; cases hv; omega)⟩
        · skip
          have rr29 : a126_2.toInt < v23.toInt := by simp only [z32lt, z32le, z32eq] at h131_23; omega
          have b30x : zB a126_2 0 11 := by have q1 := b126_2; have q2 := b23x; simp only [z32lt, z32le, z32eq, Int32.reduceToInt, Int32.toInt_zero] at h131_23; constructor <;> omega
          have b31x : zB v23 1 12 := by have q1 := b126_2; have q2 := b23x; simp only [z32lt, z32le, z32eq, Int32.reduceToInt, Int32.toInt_zero] at h131_23; constructor <;> omega
          refine z_bipush (pc := 134) (v := 8) C dX10_world_134 (by decide) ?_
          refine z_iload_n (pc := 136) C dX10_world_136 rfl ?_
          refine z_imul (pc := 137) C dX10_world_137 ?_
          refine w_gp (fun v => v.toInt = 8 * a126_2.toInt) (zmul_kb 8 (by decide) (by decide) b30x (by decide) (by decide)) (fun v32 e32 => ?_)
          have b32x : zB v32 0 88 := zmul_bb e32 (by decide) b30x
          refine z_istore_n (pc := 138) C dX10_world_138 (by rw [hn]; decide) rfl ?_
          refine z_aload_n (pc := 139) C dX10_world_139 rfl ?_
          refine z_aload_n (pc := 140) C dX10_world_140 rfl ?_
          refine z_getR (pc := 141) C zf_X10_46 rfl rfl (by decide) dX10_world_141 ?_
          refine z_iload_n (pc := 144) C dX10_world_144 rfl ?_
          refine z_iald (pc := 145) C rfl (by decide) (zIx b32x (by decide) (by decide)) dX10_world_145 ?_
          refine w_gb 0 2 (by have hq9 := hI126_ 38 0 v32.toNatClampNeg; rw [zrg38 (r := 0) (by have hq : v32.toNatClampNeg = v32.toInt.toNat := rfl; have hq2 := b32x; omega)] at hq9; exact hq9) (fun v33 b33x => ?_)
          refine z_aload_n (pc := 146) C dX10_world_146 rfl ?_
          refine z_getR (pc := 147) C zf_X10_46 rfl rfl (by decide) dX10_world_147 ?_
          refine z_iload_n (pc := 150) C dX10_world_150 rfl ?_
          refine z_iconst (pc := 151) (v := 1) C dX10_world_151 (by decide) ?_
          refine z_iadd (pc := 152) C dX10_world_152 ?_
          refine w_gp (fun v => v.toInt = v32.toInt + 1) (zadd_eb b32x (zB.of (x := 1) 1 (by decide)) (by decide) (by decide)) (fun v34 e34 => ?_)
          have b34x : zB v34 1 89 := by have q1 := b32x; have q2 := (zB.of (x := 1) 1 (by decide)); constructor <;> omega
          refine z_iald (pc := 153) C rfl (by decide) (zIx b34x (by decide) (by decide)) dX10_world_153 ?_
          refine w_gb 0 5 (by have hq9 := hI126_ 38 0 v34.toNatClampNeg; rw [zrg38 (r := 1) (by have hq : v34.toNatClampNeg = v34.toInt.toNat := rfl; have hq2 := b34x; omega)] at hq9; exact hq9) (fun v35 b35x => ?_)
          refine z_aload_n (pc := 154) C dX10_world_154 rfl ?_
          refine z_getR (pc := 155) C zf_X10_46 rfl rfl (by decide) dX10_world_155 ?_
          refine z_iload_n (pc := 158) C dX10_world_158 rfl ?_
          refine z_iconst (pc := 159) (v := 2) C dX10_world_159 (by decide) ?_
          refine z_iadd (pc := 160) C dX10_world_160 ?_
          refine w_gp (fun v => v.toInt = v32.toInt + 2) (zadd_eb b32x (zB.of (x := 2) 2 (by decide)) (by decide) (by decide)) (fun v36 e36 => ?_)
          have b36x : zB v36 2 90 := by have q1 := b32x; have q2 := (zB.of (x := 2) 2 (by decide)); constructor <;> omega
          refine z_iald (pc := 161) C rfl (by decide) (zIx b36x (by decide) (by decide)) dX10_world_161 ?_
          refine w_gb 0 5 (by have hq9 := hI126_ 38 0 v36.toNatClampNeg; rw [zrg38 (r := 2) (by have hq : v36.toNatClampNeg = v36.toInt.toNat := rfl; have hq2 := b36x; omega)] at hq9; exact hq9) (fun v37 b37x => ?_)
          refine z_aload_n (pc := 162) C dX10_world_162 rfl ?_
          refine z_getR (pc := 163) C zf_X10_46 rfl rfl (by decide) dX10_world_163 ?_
          refine z_iload_n (pc := 166) C dX10_world_166 rfl ?_
          refine z_iconst (pc := 167) (v := 3) C dX10_world_167 (by decide) ?_
          refine z_iadd (pc := 168) C dX10_world_168 ?_
          refine w_gp (fun v => v.toInt = v32.toInt + 3) (zadd_eb b32x (zB.of (x := 3) 3 (by decide)) (by decide) (by decide)) (fun v38 e38 => ?_)
          have b38x : zB v38 3 91 := by have q1 := b32x; have q2 := (zB.of (x := 3) 3 (by decide)); constructor <;> omega
          refine z_iald (pc := 169) C rfl (by decide) (zIx b38x (by decide) (by decide)) dX10_world_169 ?_
          refine w_gb 0 40 (by have hq9 := hI126_ 38 0 v38.toNatClampNeg; rw [zrg38 (r := 3) (by have hq : v38.toNatClampNeg = v38.toInt.toNat := rfl; have hq2 := b38x; omega)] at hq9; exact hq9) (fun v39 b39x => ?_)
          refine z_iconst (pc := 170) (v := 0) C dX10_world_170 (by decide) ?_
          refine z_aload_n (pc := 171) C dX10_world_171 rfl ?_
          refine z_getR (pc := 172) C zf_X10_46 rfl rfl (by decide) dX10_world_172 ?_
          refine z_iload_n (pc := 175) C dX10_world_175 rfl ?_
          refine z_iconst (pc := 176) (v := 5) C dX10_world_176 (by decide) ?_
          refine z_iadd (pc := 177) C dX10_world_177 ?_
          refine w_gp (fun v => v.toInt = v32.toInt + 5) (zadd_eb b32x (zB.of (x := 5) 5 (by decide)) (by decide) (by decide)) (fun v40 e40 => ?_)
          have b40x : zB v40 5 93 := by have q1 := b32x; have q2 := (zB.of (x := 5) 5 (by decide)); constructor <;> omega
          refine z_iald (pc := 178) C rfl (by decide) (zIx b40x (by decide) (by decide)) dX10_world_178 ?_
          refine w_gb 0 31 (by have hq9 := hI126_ 38 0 v40.toNatClampNeg; rw [zrg38 (r := 5) (by have hq : v40.toNatClampNeg = v40.toInt.toNat := rfl; have hq2 := b40x; omega)] at hq9; exact hq9) (fun v41 b41x => ?_)
          refine z_aload_n (pc := 179) C dX10_world_179 rfl ?_
          refine z_getR (pc := 180) C zf_X10_46 rfl rfl (by decide) dX10_world_180 ?_
          refine z_iload_n (pc := 183) C dX10_world_183 rfl ?_
          refine z_bipush (pc := 184) (v := 6) C dX10_world_184 (by decide) ?_
          refine z_iadd (pc := 186) C dX10_world_186 ?_
          refine w_gp (fun v => v.toInt = v32.toInt + 6) (zadd_eb b32x (zB.of (x := 6) 6 (by decide)) (by decide) (by decide)) (fun v42 e42 => ?_)
          have b42x : zB v42 6 94 := by have q1 := b32x; have q2 := (zB.of (x := 6) 6 (by decide)); constructor <;> omega
          refine z_iald (pc := 187) C rfl (by decide) (zIx b42x (by decide) (by decide)) dX10_world_187 ?_
          refine w_gb 0 99 (by have hq9 := hI126_ 38 0 v42.toNatClampNeg; rw [zrg38 (r := 6) (by have hq : v42.toNatClampNeg = v42.toInt.toNat := rfl; have hq2 := b42x; omega)] at hq9; exact hq9) (fun v43 b43x => ?_)
          refine z_aload_n (pc := 188) C dX10_world_188 rfl ?_
          refine z_getR (pc := 189) C zf_X10_46 rfl rfl (by decide) dX10_world_189 ?_
          refine z_iload_n (pc := 192) C dX10_world_192 rfl ?_
          refine z_bipush (pc := 193) (v := 7) C dX10_world_193 (by decide) ?_
          refine z_iadd (pc := 195) C dX10_world_195 ?_
          refine w_gp (fun v => v.toInt = v32.toInt + 7) (zadd_eb b32x (zB.of (x := 7) 7 (by decide)) (by decide) (by decide)) (fun v44 e44 => ?_)
          have b44x : zB v44 7 95 := by have q1 := b32x; have q2 := (zB.of (x := 7) 7 (by decide)); constructor <;> omega
          refine z_iald (pc := 196) C rfl (by decide) (zIx b44x (by decide) (by decide)) dX10_world_196 ?_
          refine w_gb 0 7 (by have hq9 := hI126_ 38 0 v44.toNatClampNeg; rw [zrg38 (r := 7) (by have hq : v44.toNatClampNeg = v44.toInt.toNat := rfl; have hq2 := b44x; omega)] at hq9; exact hq9) (fun v45 b45x => ?_)
          refine z_callV (pc := 197) C zk_X10_105 (w_X10_addPaper _ _ v33 b33x v35 b35x v37 b37x v39 b39x 0 (zB.wk (a' := (-2147483648)) (b' := 2147483647) (zB.of (x := 0) 0 (by decide)) (by decide) (by decide)) v41 b41x v43 b43x v45 b45x hI126_) rfl rfl (by decide) rfl rfl (Nat.le_of_ble_eq_true rfl) dX10_world_197 (fun r46 g46 q46 => ?_)
          obtain ⟨⟨v46, rfl, b46x⟩, hI46, hF46q⟩ := q46
          have hF46 := zFr.tr hF126_ hF46q (by decide)
          simp only [Option.toList, List.cons_append, List.nil_append]
          have ek46_25_0_0 : (g46 25 0 0).toInt = (g126_ 25 0 0).toInt := by rw [hF46q 25 0 0 rfl]
          have c46_25_0_0x : zB (g46 25 0 0) 0 24 := by have q9 := f126_25_0_0; constructor <;> omega
          have ek46_25_0_18 : (g46 25 0 18).toInt = (g126_ 25 0 18).toInt := by rw [hF46q 25 0 18 rfl]
          have c46_25_0_18x : zB (g46 25 0 18) 0 12 := by have q9 := f126_25_0_18; constructor <;> omega
          have ek46_25_0_16 : (g46 25 0 16).toInt = (g126_ 25 0 16).toInt := by rw [hF46q 25 0 16 rfl]
          have c46_25_0_16x : zB (g46 25 0 16) 0 0 := by have q9 := f126_25_0_16; constructor <;> omega
          refine z_pop (pc := 200) C dX10_world_200 ?_
          refine z_iinc (pc := 201) (v := 1) C dX10_world_201 rfl (by decide) (by rw [hn]; decide) rfl ?_
          obtain ⟨v47, hv47, e47⟩ : ∃ v : Int32, v = a126_2 + 1 ∧ v.toInt = a126_2.toInt + 1 := ⟨_, rfl, zadd_eb b30x (zB.of (x := 1) 1 (by decide)) (by decide) (by decide)⟩
          rw [← hv47]
          have b47x : zB v47 1 12 := by have q9 := b30x; constructor <;> omega
          refine z_goto (pc := 204) 126 C dX10_world_204 (by decide) ?_
          refine w_mask [3] ?_
          exact ih2 a126_1 b126_1 v47 (zB.wk (a' := 0) (b' := 12) b47x (by decide) (by decide)) g46 hI46 hF46 c46_25_0_0x c46_25_0_16x c46_25_0_18x (by omega) (by omega)
  obtain ⟨J0, J1, J2⟩ := J 989
  show Z X 0 [some (zr 25 0), none, none, none] [] f
  refine z_aload_n (pc := 0) C dX10_world_0 rfl ?_
  refine z_callV (pc := 1) C zk_X10_248 (w_X10_readWorld _ _  hI) rfl rfl (by decide) rfl rfl (Nat.le_of_ble_eq_true rfl) dX10_world_1 (fun r48 g48 q48 => ?_)
  obtain ⟨⟨v48, rfl, b48x⟩, hI48, hF48q⟩ := q48
  have hF48 := zFr.tr hF hF48q (by decide)
  simp only [Option.toList, List.cons_append, List.nil_append]
  have ek48_25_0_0 : (g48 25 0 0).toInt = (f 25 0 0).toInt := by rw [hF48q 25 0 0 rfl]
  have c48_25_0_0x : zB (g48 25 0 0) 0 24 := by have q9 := ct25_0_0; constructor <;> omega
  have cr48_25_0_18 : zB (g48 25 0 18) 0 12 := hI48 25 0 18
  have ek48_25_0_16 : (g48 25 0 16).toInt = (f 25 0 16).toInt := by rw [hF48q 25 0 16 rfl]
  have c48_25_0_16x : zB (g48 25 0 16) 0 120 := by have q9 := ct25_0_16; constructor <;> omega
  refine z_istore_n (pc := 4) C dX10_world_4 (by rw [hn]; decide) rfl ?_
  refine z_aload_n (pc := 5) C dX10_world_5 rfl ?_
  refine z_iconst (pc := 6) (v := 0) C dX10_world_6 (by decide) ?_
  refine z_putI (pc := 7) C zf_X10_208 zp_10_16 rfl rfl (by decide) dX10_world_7 ?_
  refine w_mem2 hI48 hF48 (zB.wk (a' := 0) (b' := 120) (zB.of (x := 0) 0 (by decide)) (by decide) (by decide)) rfl (fun g49 hI49 hF49 hq49 hx49 => ?_)
  have ek49_25_0_0 : (g49 25 0 0).toInt = (g48 25 0 0).toInt := by rw [hq49 25 0 0 (by omega)]
  have c49_25_0_0x : zB (g49 25 0 0) 0 24 := by have q9 := c48_25_0_0x; constructor <;> omega
  have ek49_25_0_18 : (g49 25 0 18).toInt = (g48 25 0 18).toInt := by rw [hq49 25 0 18 (by omega)]
  have c49_25_0_18x : zB (g49 25 0 18) 0 12 := by have q9 := cr48_25_0_18; constructor <;> omega
  have ec49 : (g49 25 0 16).toInt = (0 : Int32).toInt := by rw [hx49]
  have c49x : zB (g49 25 0 16) 0 0 := by have q9 := (zB.of (x := 0) 0 (by decide)); constructor <;> omega
  refine z_iload_n (pc := 10) C dX10_world_10 rfl ?_
  refine z_if_ne (pc := 11) 22 C dX10_world_11 (by decide) (fun h11_49 => ?_) (fun h11_49 => ?_)
  · skip
    have b51x : zB v48 1 1 := by have q1 := b48x; have q2 := (zB.of (x := 0) 0 (by decide)); simp only [z32lt, z32le, z32eq, Int32.reduceToInt, Int32.toInt_zero] at h11_49; constructor <;> omega
    refine z_aload_n (pc := 22) C dX10_world_22 rfl ?_
    refine z_getI (pc := 23) C zf_X10_80 rfl rfl (by decide) dX10_world_23 ?_
    refine w_gp (fun v => v.toInt = (g49 25 0 0).toInt) rfl (fun v52 e52 => ?_)
    have b52x : zB v52 0 24 := by have q9 : zB (g49 25 0 0) 0 24 := c49_25_0_0x; constructor <;> omega
    refine z_aload_n (pc := 26) C dX10_world_26 rfl ?_
    refine z_getI (pc := 27) C zf_X10_221 rfl rfl (by decide) dX10_world_27 ?_
    refine w_gp (fun v => v.toInt = (g49 25 0 18).toInt) rfl (fun v53 e53 => ?_)
    have b53x : zB v53 0 12 := by have q9 : zB (g49 25 0 18) 0 12 := c49_25_0_18x; constructor <;> omega
    refine z_iadd (pc := 30) C dX10_world_30 ?_
    refine w_gp (fun v => v.toInt = v52.toInt + v53.toInt) (zadd_eb b52x b53x (by decide) (by decide)) (fun v54 e54 => ?_)
    have b54x : zB v54 0 36 := by have q1 := b52x; have q2 := b53x; constructor <;> omega
    refine z_bipush (pc := 31) (v := 24) C dX10_world_31 (by decide) ?_
    refine z_icmp_gt (pc := 33) 50 C dX10_world_33 (by decide) (fun h33_54 => ?_) (fun h33_54 => ?_)
    · skip
      have b56x : zB v54 25 36 := by have q1 := b54x; have q2 := (zB.of (x := 24) 24 (by decide)); simp only [z32lt, z32le, z32eq, Int32.reduceToInt, Int32.toInt_zero] at h33_54; constructor <;> omega
      exact J0 v48 b51x g49 hI49 hF49 c49_25_0_0x c49x c49_25_0_18x (by omega) (by omega)
    · skip
      have b57x : zB v54 0 24 := by have q1 := b54x; have q2 := (zB.of (x := 24) 24 (by decide)); simp only [z32lt, z32le, z32eq, Int32.reduceToInt, Int32.toInt_zero] at h33_54; constructor <;> omega
      refine z_aload_n (pc := 36) C dX10_world_36 rfl ?_
      refine z_getI (pc := 37) C zf_X10_77 rfl rfl (by decide) dX10_world_37 ?_
      refine w_gb 0 12 (hI49 25 _ 4) (fun v58 b58x => ?_)
      refine z_aload_n (pc := 40) C dX10_world_40 rfl ?_
      refine z_getI (pc := 41) C zf_X10_233 rfl rfl (by decide) dX10_world_41 ?_
      refine w_gb 0 12 (hI49 25 _ 20) (fun v59 b59x => ?_)
      refine z_iadd (pc := 44) C dX10_world_44 ?_
      refine w_gp (fun v => v.toInt = v58.toInt + v59.toInt) (zadd_eb b58x b59x (by decide) (by decide)) (fun v60 e60 => ?_)
      have b60x : zB v60 0 24 := by have q1 := b58x; have q2 := b59x; constructor <;> omega
      refine z_bipush (pc := 45) (v := 12) C dX10_world_45 (by decide) ?_
      refine z_icmp_le (pc := 47) 53 C dX10_world_47 (by decide) (fun h47_60 => ?_) (fun h47_60 => ?_)
      · skip
        have b62x : zB v60 0 12 := by have q1 := b60x; have q2 := (zB.of (x := 12) 12 (by decide)); simp only [z32lt, z32le, z32eq, Int32.reduceToInt, Int32.toInt_zero] at h47_60; constructor <;> omega
        refine z_iconst (pc := 53) (v := 0) C dX10_world_53 (by decide) ?_
        refine z_istore_n (pc := 54) C dX10_world_54 (by rw [hn]; decide) rfl ?_
        exact J1 v48 b51x 0 (zB.wk (a' := 0) (b' := 12) (zB.of (x := 0) 0 (by decide)) (by decide) (by decide)) g49 hI49 hF49 c49_25_0_0x c49x c49_25_0_18x (by have qc0 : (0 : Int32).toInt = 0 := (by decide); omega) (by have qc0 : (0 : Int32).toInt = 0 := (by decide); omega) (by have qc0 : (0 : Int32).toInt = 0 := (by decide); omega)
      · skip
        have b63x : zB v60 13 24 := by have q1 := b60x; have q2 := (zB.of (x := 12) 12 (by decide)); simp only [z32lt, z32le, z32eq, Int32.reduceToInt, Int32.toInt_zero] at h47_60; constructor <;> omega
        exact J0 v48 b51x g49 hI49 hF49 c49_25_0_0x c49x c49_25_0_18x (by omega) (by omega)
  · skip
    have b64x : zB v48 0 0 := by have q1 := b48x; have q2 := (zB.of (x := 0) 0 (by decide)); simp only [z32lt, z32le, z32eq, Int32.reduceToInt, Int32.toInt_zero] at h11_49; constructor <;> omega
    refine z_bipush (pc := 14) (v := -20) C dX10_world_14 (by decide) ?_
    refine z_aload_n (pc := 16) C dX10_world_16 rfl ?_
    refine z_getI (pc := 17) C zf_X10_211 rfl rfl (by decide) dX10_world_17 ?_
    refine w_gb 0 120 (hI49 25 _ 17) (fun v65 b65x => ?_)
    refine z_isub (pc := 20) C dX10_world_20 ?_
    refine w_gp (fun v => v.toInt = (-20) - v65.toInt) (zsub_eb (zB.of (x := (-20)) (-20) (by decide)) b65x (by decide) (by decide)) (fun v66 e66 => ?_)
    have b66x : zB v66 (-140) (-20) := by have q1 := (zB.of (x := (-20)) (-20) (by decide)); have q2 := b65x; constructor <;> omega
    exact z_iret (pc := 21) C hr dX10_world_21 ⟨⟨_, rfl, (zB.wk (a' := (-140)) (b' := 24) b66x (by decide) (by decide))⟩, hI49, hF49, (by intro v hv; cases hv; omega)⟩

