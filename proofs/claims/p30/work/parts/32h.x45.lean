/-! ===== the tape ===== -/
set_option maxRecDepth 100000 in
set_option maxHeartbeats 4000000 in
theorem type_chk {X : zX} {d : Nat} {w : Int64} {N : Nat} {f : zM} (hN : N ≤ 8) (C : zC X cX9_type yX9_type.cls (d + 1)) (hn : znL X = 6)
    (kbad : ∀ (i : Nat) (o4 o5 : Option zV), i < N → ¬ zbyok w i → Z X 44 [some (zr 0 0), some (zl w), none, some (zi (nI N)), o4, o5] [] f)
    (kk : ∀ (o4 o5 : Option zV), (∀ i, i < N → zbyok w i) → Z X 52 [some (zr 0 0), some (zl w), none, some (zi (nI N)), o4, o5] [] f) :
    ∀ (m i : Nat) (o5 : Option zV), i + m = N → (∀ j, j < i → zbyok w j) → Z X 16 [some (zr 0 0), some (zl w), none, some (zi (nI N)), some (zi (nI i)), o5] [] f := by
  intro m
  induction m with
  | zero =>
    intro i o5 hi hok
    obtain rfl : i = N := by omega
    refine z_iload (pc := 16) C dX9_type_16 rfl ?_
    refine z_iload_n (pc := 18) C dX9_type_18 rfl ?_
    exact z_icmp_ge (pc := 19) 52 C dX9_type_19 (by decide) (fun _ => kk _ o5 hok) (fun h => absurd (Int32.le_refl _) h)
  | succ m ih =>
    intro i o5 hi hok
    refine z_iload (pc := 16) C dX9_type_16 rfl ?_
    refine z_iload_n (pc := 18) C dX9_type_18 rfl ?_
    refine z_icmp_ge (pc := 19) 52 C dX9_type_19 (by decide) (fun h => absurd h (nI_ge (by omega) (by omega))) (fun _ => ?_)
    refine z_lload_n (pc := 22) C dX9_type_22 rfl ?_
    refine z_iload (pc := 23) C dX9_type_23 rfl ?_
    refine z_callSx (pc := 25) C zk_X9_104 (m_X9_byteOf _ _ _ _) rfl rfl (Nat.le_of_ble_eq_true rfl) dX9_type_25 ?_
    simp only [Option.toList, List.cons_append, List.nil_append]
    refine z_istore (pc := 28) C dX9_type_28 (by rw [hn]; decide) rfl ?_
    refine z_iload (pc := 30) C dX9_type_30 rfl ?_
    refine z_bipush (pc := 32) (v := 32) C dX9_type_32 (by decide) ?_
    refine z_icmp_lt (pc := 34) 44 C dX9_type_34 (by decide) (fun h34 => ?_) (fun h34 => ?_)
    · skip
      exact kbad i _ _ (by omega) (by intro hq; unfold zbyok at hq; simp only [z32lt, z32le, z32eq, Int32.reduceToInt, Int32.toInt_zero, Int32.toInt_one] at *; omega)
    · skip
      refine z_iload (pc := 37) C dX9_type_37 rfl ?_
      refine z_bipush (pc := 39) (v := 126) C dX9_type_39 (by decide) ?_
      refine z_icmp_le (pc := 41) 46 C dX9_type_41 (by decide) (fun h41 => ?_) (fun h41 => ?_)
      · skip
        refine z_iinc (pc := 46) (v := 1) C dX9_type_46 rfl (by decide) (by rw [hn]; decide) rfl ?_
        refine z_goto (pc := 49) 16 C dX9_type_49 (by decide) ?_
        rw [← nI_succ]
        exact ih (i + 1) _ (by omega) (fun j hj => by
          by_cases hji : j = i
          · subst hji; unfold zbyok; simp only [z32lt, z32le, z32eq, Int32.reduceToInt, Int32.toInt_zero, Int32.toInt_one] at *; omega
          · exact hok j (by omega))
      · skip
        exact kbad i _ _ (by omega) (by intro hq; unfold zbyok at hq; simp only [z32lt, z32le, z32eq, Int32.reduceToInt, Int32.toInt_zero, Int32.toInt_one] at *; omega)
set_option maxRecDepth 100000 in
set_option maxHeartbeats 4000000 in
theorem typem_chk {X : zX} {d : Nat} {w : Int64} {N : Nat} {f : zM} (hN : N ≤ 8) (C : zC X cX10_type yX10_type.cls (d + 1)) (hn : znL X = 5)
    (kbad : ∀ (i : Nat) (o4 : Option zV), i < N → ¬ zbyok w i → Z X 47 [some (zr 25 0), some (zl w), none, some (zi (nI N)), o4] [] f)
    (kk : ∀ (o4 : Option zV), (∀ i, i < N → zbyok w i) → Z X 55 [some (zr 25 0), some (zl w), none, some (zi (nI N)), o4] [] f) :
    ∀ (m : Nat), m ≤ N → (∀ j, m ≤ j → j < N → zbyok w j) → Z X 19 [some (zr 25 0), some (zl w), none, some (zi (nI N)), some (zi (nI m + (-1)))] [] f := by
  intro m
  induction m with
  | zero =>
    intro hm hok
    refine z_iload (pc := 19) C dX10_type_19 rfl ?_
    exact z_if_lt (pc := 21) 55 C dX10_type_21 (by decide) (fun _ => kk _ (fun i hi => hok i (Nat.zero_le i) hi)) (fun h => absurd (by decide) h)
  | succ m ih =>
    intro hm hok
    rw [nI_dec]
    refine z_iload (pc := 19) C dX10_type_19 rfl ?_
    refine z_if_lt (pc := 21) 55 C dX10_type_21 (by decide) (fun h => absurd h (nI_pos (by omega))) (fun _ => ?_)
    refine z_lload_n (pc := 24) C dX10_type_24 rfl ?_
    refine z_bipush (pc := 25) (v := 8) C dX10_type_25 (by decide) ?_
    refine z_iload (pc := 27) C dX10_type_27 rfl ?_
    refine z_imul (pc := 29) C dX10_type_29 ?_
    refine z_lshr (pc := 30) C dX10_type_30 ?_
    refine z_ldc2 (pc := 31) C zw_1349 dX10_type_31 ?_
    refine z_land (pc := 34) C dX10_type_34 ?_
    refine z_ldc2 (pc := 35) C zw_1350 dX10_type_35 ?_
    refine z_ldc2 (pc := 38) C zw_1351 dX10_type_38 ?_
    refine z_callSb (pc := 41) C zk_X10_69 (m_X10_in _ _ _ _ _) rfl rfl (Nat.le_of_ble_eq_true rfl) dX10_type_41 (fun h41 => ?_) (fun h41 => ?_)
    · skip
      refine z_if_ne (pc := 44) 49 C dX10_type_44 (by decide) (fun h44 => ?_) (fun h44 => absurd h44 (of_decide_eq_true rfl))
      refine z_iinc (pc := 49) (v := -1) C dX10_type_49 rfl (by decide) (by rw [hn]; decide) rfl ?_
      refine z_goto (pc := 52) 19 C dX10_type_52 (by decide) ?_
      exact ih (by omega) (fun j hj hj2 => by
        by_cases hjm : j = m
        · subst hjm; exact (zbm_ok w j (by omega)).mpr h41
        · exact hok j (by omega) hj2)
    · skip
      refine z_if_ne (pc := 44) 49 C dX10_type_44 (by decide) (fun h44 => absurd (of_decide_eq_true rfl) h44) (fun h44 => ?_)
      exact kbad m _ (by omega) (fun hq => h41 ((zbm_ok w m (by omega)).mp hq))
/-- a tape (kind k, length in cell (kl, 0, jl)), c bytes of w written behind l -/
def ztp (k kl jl : Nat) (f : zM) (w : Int64) (l N c : Nat) : zM := fun x y z => if x = kl ∧ y = 0 ∧ z = jl then nI (l + c) else if x = k ∧ y = 0 ∧ l ≤ z ∧ z < l + c then zby w (nI (N - 1 - (z - l))) else f x y z
theorem ztp_0 {k kl jl : Nat} {f : zM} {w : Int64} {l N : Nat} (h : f kl 0 jl = nI l) : ztp k kl jl f w l N 0 = f := by
  funext x y z
  unfold ztp
  split
  · rename_i q
    obtain ⟨rfl, rfl, rfl⟩ := q
    exact h.symm
  · rw [if_neg (by omega)]
theorem ztp_len {k kl jl : Nat} {f : zM} {w : Int64} {l N c : Nat} : ztp k kl jl f w l N c kl 0 jl = nI (l + c) := by
  unfold ztp
  rw [if_pos ⟨rfl, rfl, rfl⟩]
theorem ztp_s {k kl jl : Nat} {f : zM} {w : Int64} {l N c : Nat} (hk : k ≠ kl) (x : Int32) (hx : x = zby w (nI (N - 1 - c))) : zup (zup (ztp k kl jl f w l N c) k 0 (l + c) x) kl 0 jl (nI (l + c) + 1) = ztp k kl jl f w l N (c + 1) := by
  subst hx
  funext a b d
  unfold zup ztp
  by_cases q1 : a = kl ∧ b = 0 ∧ d = jl
  · rw [if_pos q1, if_pos q1, ← nI_succ]; rfl
  · rw [if_neg q1, if_neg q1]
    by_cases q2 : a = k ∧ b = 0 ∧ d = l + c
    · rw [if_pos q2, if_neg q1, if_pos (by omega), show d - l = c by omega]
    · rw [if_neg q2, if_neg q1]
      by_cases q3 : a = k ∧ b = 0 ∧ l ≤ d ∧ d < l + c
      · rw [if_pos q3, if_pos (by omega)]
      · rw [if_neg q3, if_neg (by omega)]
theorem zby_B (w : Int64) (i : Int32) : zB (zby w i) 0 255 := zand_b (zB_any _) (zB.of (x := 255) 255 (by decide)) (by decide)
theorem zby_c (w : Int64) (i : Int32) : vp_nar .char (((zby w i).toUInt32 % 65536).toInt32) = zby w i := by
  rw [zu16 (zby_B w i) (by decide) (by decide)]
  exact zu16 (zby_B w i) (by decide) (by decide)
theorem zbm_y (w : Int64) (i : Nat) (hi : i < 8) : (zbm w (nI i)).toInt32 = zby w (nI i) := by
  rw [z32eq, zby_int w i hi, Int64.toInt_toInt32, zbm_int w i hi]
  exact z_bmod (by omega) (by omega)
set_option maxRecDepth 100000 in
set_option maxHeartbeats 4000000 in
theorem type_putx {X : zX} {d : Nat} {w : Int64} {N l : Nat} {f : zM} (hN : N ≤ 8) (hl : l + N ≤ 120) (C : zC X cX9_type yX9_type.cls (d + 1)) (hn : znL X = 6)
    (kk : ∀ (o4 o5 : Option zV), Z X 99 [some (zr 0 0), some (zl w), none, some (zi (nI N)), o4, o5] [] (ztp 19 18 3 f w l N N)) :
    ∀ (m : Nat) (o5 : Option zV), m ≤ N → Z X 74 [some (zr 0 0), some (zl w), none, some (zi (nI N)), some (zi (nI m + (-1))), o5] [] (ztp 19 18 3 f w l N (N - m)) := by
  intro m
  induction m with
  | zero =>
    intro o5 hm
    refine z_iload (pc := 74) C dX9_type_74 rfl ?_
    exact z_if_lt (pc := 76) 99 C dX9_type_76 (by decide) (fun _ => kk _ o5) (fun h => absurd (by decide) h)
  | succ m ih =>
    intro o5 hm
    rw [nI_dec]
    have hlen : ztp 19 18 3 f w l N (N - (m + 1)) 18 0 3 = nI (l + (N - (m + 1))) := ztp_len
    refine z_iload (pc := 74) C dX9_type_74 rfl ?_
    refine z_if_lt (pc := 76) 99 C dX9_type_76 (by decide) (fun h => absurd h (nI_pos (by omega))) (fun _ => ?_)
    refine z_aload_n (pc := 79) C dX9_type_79 rfl ?_
    refine z_getR (pc := 80) C zf_X9_31 rfl rfl (by decide) dX9_type_80 ?_
    refine z_lload_n (pc := 83) C dX9_type_83 rfl ?_
    refine z_iload (pc := 84) C dX9_type_84 rfl ?_
    refine z_callSx (pc := 86) C zk_X9_104 (m_X9_byteOf _ _ _ _) rfl rfl (Nat.le_of_ble_eq_true rfl) dX9_type_86 ?_
    simp only [Option.toList, List.cons_append, List.nil_append]
    refine z_i2c (pc := 89) C dX9_type_89 ?_
    refine z_callVx (pc := 90) C zk_X9_111 (m_X7_write _ _ _ (by rw [hlen]; exact nI_ge (a := l + (N - (m + 1))) (b := 120) (by omega) (by omega)) (by rw [hlen]; exact nI_in (by omega) (by omega))) rfl rfl (by decide) rfl rfl (Nat.le_of_ble_eq_true rfl) dX9_type_90 ?_
    simp only [Option.toList, List.cons_append, List.nil_append]
    rw [hlen, nI_clamp (by omega), zby_c, ztp_s (by decide) _ (by rw [show N - 1 - (N - (m + 1)) = m by omega])]
    refine z_iinc (pc := 93) (v := -1) C dX9_type_93 rfl (by decide) (by rw [hn]; decide) rfl ?_
    refine z_goto (pc := 96) 74 C dX9_type_96 (by decide) ?_
    have := ih (some (zi (nI m))) (by omega)
    rw [show N - (m + 1) + 1 = N - m by omega]
    exact ih _ (by omega)
def ztyok (w : Int64) (a2 : Int32) : Prop := (1 ≤ a2.toInt ∧ a2.toInt ≤ 8) ∧ ∀ i, i < a2.toInt.toNat → zbyok w i
theorem x_X9_type (d : Nat) (f : zM) (w : Int64) (a2 : Int32) (l : Nat) (hl : f 18 0 3 = nI l) (h120 : l ≤ 120) : ZM (d + 1) yX9_type cX9_type 6 (some .int) [zr 0 0, zl w, zi a2] f (fun r g => (¬ ztyok w a2 ∧ r = some (zi (-1)) ∧ g = f) ∨ (ztyok w a2 ∧ 120 < l + a2.toInt.toNat ∧ r = some (zi (-3)) ∧ g = f) ∨ (ztyok w a2 ∧ l + a2.toInt.toNat ≤ 120 ∧ r = some (zi (nI (l + a2.toInt.toNat))) ∧ g = ztp 19 18 3 f w l a2.toInt.toNat a2.toInt.toNat)) := by
  refine ZM.intro (by decide +kernel) (Nat.le_of_ble_eq_true rfl) ?_
  intro X C hr hn
  show Z X 0 [some (zr 0 0), some (zl w), none, some (zi a2), none, none] [] f
  refine z_iload_n (pc := 0) C dX9_type_0 rfl ?_
  refine z_iconst (pc := 1) (v := 1) C dX9_type_1 (by decide) ?_
  refine z_icmp_lt (pc := 2) 11 C dX9_type_2 (by decide) (fun h2 => ?_) (fun h2 => ?_)
  · refine z_iconst (pc := 11) (v := -1) C dX9_type_11 (by decide) ?_
    exact z_iret (pc := 12) C hr dX9_type_12 (Or.inl ⟨fun q => by have q := q.1; simp only [z32lt, z32le, z32eq, Int32.reduceToInt, Int32.toInt_zero, Int32.toInt_one] at *; omega, rfl, rfl⟩)
  · refine z_iload_n (pc := 5) C dX9_type_5 rfl ?_
    refine z_bipush (pc := 6) (v := 8) C dX9_type_6 (by decide) ?_
    refine z_icmp_le (pc := 8) 13 C dX9_type_8 (by decide) (fun h8 => ?_) (fun h8 => ?_)
    · have hb : 1 ≤ a2.toInt ∧ a2.toInt ≤ 8 := by simp only [z32lt, z32le, z32eq, Int32.reduceToInt, Int32.toInt_zero, Int32.toInt_one] at *; omega
      obtain ⟨e1, e2⟩ := nI_ofI (x := a2) (by omega)
      unfold ztyok at hr
      generalize hNd : a2.toInt.toNat = N at e1 e2 hr
      have hN : N ≤ 8 := by omega
      subst e1
      refine z_iconst (pc := 13) (v := 0) C dX9_type_13 (by decide) ?_
      refine z_istore (pc := 14) C dX9_type_14 (by rw [hn]; decide) rfl ?_
      refine type_chk (w := w) (f := f) hN C hn (fun i o4 o5 hi hbad => ?_) (fun o4 o5 hok => ?_) N 0 none (by omega) (fun j hj => absurd hj (Nat.not_lt_zero j))
      · refine z_iconst (pc := 44) (v := -1) C dX9_type_44 (by decide) ?_
        exact z_iret (pc := 45) C hr dX9_type_45 (Or.inl ⟨fun hq => hbad (hq.2 i hi), rfl, rfl⟩)
      · refine z_aload_n (pc := 52) C dX9_type_52 rfl ?_
        refine z_getR (pc := 53) C zf_X9_31 rfl rfl (by decide) dX9_type_53 ?_
        refine z_getI (pc := 56) C zf_X9_108 rfl rfl (by decide) dX9_type_56 ?_
        refine z_iload_n (pc := 59) C dX9_type_59 rfl ?_
        refine z_iadd (pc := 60) C dX9_type_60 ?_
        refine z_bipush (pc := 61) (v := 120) C dX9_type_61 (by decide) ?_
        rw [hl, nI_add]
        by_cases hfit : l + N ≤ 120
        · refine z_icmp_le (pc := 63) 69 C dX9_type_63 (by decide) (fun _ => ?_) (fun h => absurd (show nI (l + N) ≤ nI 120 from nI_le hfit (by omega)) h)
          refine z_iload_n (pc := 69) C dX9_type_69 rfl ?_
          refine z_iconst (pc := 70) (v := 1) C dX9_type_70 (by decide) ?_
          refine z_isub (pc := 71) C dX9_type_71 ?_
          refine z_istore (pc := 72) C dX9_type_72 (by rw [hn]; decide) rfl ?_
          rw [show nI N - 1 = nI N + (-1) from by rw [Int32.sub_eq_add_neg]]
          have key := type_putx (w := w) (f := f) (l := l) hN hfit C hn (fun o4 o5 => ?_) N o5 (Nat.le_refl N)
          · rw [Nat.sub_self, ztp_0 hl] at key
            exact key
          · refine z_aload_n (pc := 99) C dX9_type_99 rfl ?_
            refine z_getR (pc := 100) C zf_X9_31 rfl rfl (by decide) dX9_type_100 ?_
            refine z_getI (pc := 103) C zf_X9_108 rfl rfl (by decide) dX9_type_103 ?_
            exact z_iret (pc := 106) C hr dX9_type_106 (Or.inr (Or.inr ⟨⟨hb, hok⟩, hfit, by rw [ztp_len], rfl⟩))
        · refine z_icmp_le (pc := 63) 69 C dX9_type_63 (by decide) (fun h => absurd (show nI (l + N) ≤ nI 120 from h) (nI_ge (a := 120) (b := l + N) (by omega) (by omega))) (fun _ => ?_)
          refine z_bipush (pc := 66) (v := -3) C dX9_type_66 (by decide) ?_
          exact z_iret (pc := 68) C hr dX9_type_68 (Or.inr (Or.inl ⟨⟨hb, hok⟩, by omega, rfl, rfl⟩))
    · refine z_iconst (pc := 11) (v := -1) C dX9_type_11 (by decide) ?_
      exact z_iret (pc := 12) C hr dX9_type_12 (Or.inl ⟨fun q => by have q := q.1; simp only [z32lt, z32le, z32eq, Int32.reduceToInt, Int32.toInt_zero, Int32.toInt_one] at *; omega, rfl, rfl⟩)

set_option maxRecDepth 100000 in
set_option maxHeartbeats 4000000 in
theorem typem_putx {X : zX} {d : Nat} {w : Int64} {N l : Nat} {f : zM} (hN : N ≤ 8) (hl : l + N ≤ 120) (C : zC X cX10_type yX10_type.cls (d + 1)) (hn : znL X = 5)
    (kk : ∀ (o4 : Option zV), Z X 116 [some (zr 25 0), some (zl w), none, some (zi (nI N)), o4] [] (ztp 36 25 16 f w l N N)) :
    ∀ (m : Nat), m ≤ N → Z X 74 [some (zr 25 0), some (zl w), none, some (zi (nI N)), some (zi (nI m + (-1)))] [] (ztp 36 25 16 f w l N (N - m)) := by
  intro m
  induction m with
  | zero =>
    intro hm
    refine z_iload (pc := 74) C dX10_type_74 rfl ?_
    exact z_if_lt (pc := 76) 116 C dX10_type_76 (by decide) (fun _ => kk _) (fun h => absurd (by decide) h)
  | succ m ih =>
    intro hm
    rw [nI_dec]
    have hlen : ztp 36 25 16 f w l N (N - (m + 1)) 25 0 16 = nI (l + (N - (m + 1))) := ztp_len
    refine z_iload (pc := 74) C dX10_type_74 rfl ?_
    refine z_if_lt (pc := 76) 116 C dX10_type_76 (by decide) (fun h => absurd h (nI_pos (by omega))) (fun _ => ?_)
    refine z_aload_n (pc := 79) C dX10_type_79 rfl ?_
    refine z_getR (pc := 80) C zf_X10_40 rfl rfl (by decide) dX10_type_80 ?_
    refine z_aload_n (pc := 83) C dX10_type_83 rfl ?_
    refine z_getI (pc := 84) C zf_X10_208 rfl rfl (by decide) dX10_type_84 ?_
    refine z_lload_n (pc := 87) C dX10_type_87 rfl ?_
    refine z_bipush (pc := 88) (v := 8) C dX10_type_88 (by decide) ?_
    refine z_iload (pc := 90) C dX10_type_90 rfl ?_
    refine z_imul (pc := 92) C dX10_type_92 ?_
    refine z_lshr (pc := 93) C dX10_type_93 ?_
    refine z_ldc2 (pc := 94) C zw_1349 dX10_type_94 ?_
    refine z_land (pc := 97) C dX10_type_97 ?_
    refine z_l2i (pc := 98) C dX10_type_98 ?_
    rw [hlen]
    refine z_iast (pc := 99) C rfl (by decide) (nI_in (N := 120) (by omega) (by omega)) dX10_type_99 ?_
    rw [nI_clamp (by omega)]
    refine z_aload_n (pc := 100) C dX10_type_100 rfl ?_
    refine z_dupr (pc := 101) C dX10_type_101 ?_
    refine z_getI (pc := 102) C zf_X10_208 rfl rfl (by decide) dX10_type_102 ?_
    refine z_iconst (pc := 105) (v := 1) C dX10_type_105 (by decide) ?_
    refine z_iadd (pc := 106) C dX10_type_106 ?_
    refine z_putI (pc := 107) C zf_X10_208 zp_10_16 rfl rfl (by decide) dX10_type_107 ?_
    rw [zup_ne _ _ (by omega), hlen, ztp_s (by decide) _ (by rw [show N - 1 - (N - (m + 1)) = m by omega]; exact zbm_y w m (by omega))]
    refine z_iinc (pc := 110) (v := -1) C dX10_type_110 rfl (by decide) (by rw [hn]; decide) rfl ?_
    refine z_goto (pc := 113) 74 C dX10_type_113 (by decide) ?_
    rw [show N - (m + 1) + 1 = N - m by omega]
    exact ih (by omega)
set_option maxRecDepth 100000 in
set_option maxHeartbeats 4000000 in
theorem x_X10_type (d : Nat) (f : zM) (w : Int64) (a2 : Int32) (l : Nat) (hl : f 25 0 16 = nI l) (h120 : l ≤ 120) : ZM (d + 1) yX10_type cX10_type 5 (some .int) [zr 25 0, zl w, zi a2] f (fun r g => (¬ ztyok w a2 ∧ r = some (zi (-1)) ∧ g = f) ∨ (ztyok w a2 ∧ 120 < l + a2.toInt.toNat ∧ r = some (zi (-3)) ∧ g = f) ∨ (ztyok w a2 ∧ l + a2.toInt.toNat ≤ 120 ∧ r = some (zi (nI (l + a2.toInt.toNat))) ∧ g = ztp 36 25 16 f w l a2.toInt.toNat a2.toInt.toNat)) := by
  refine ZM.intro (by decide +kernel) (Nat.le_of_ble_eq_true rfl) ?_
  intro X C hr hn
  show Z X 0 [some (zr 25 0), some (zl w), none, some (zi a2), none] [] f
  refine z_iload_n (pc := 0) C dX10_type_0 rfl ?_
  refine z_i2l (pc := 1) C dX10_type_1 ?_
  refine z_lconst (pc := 2) (v := 1) C dX10_type_2 (by decide) ?_
  refine z_ldc2 (pc := 3) C zw_1348 dX10_type_3 ?_
  refine z_callSb (pc := 6) C zk_X10_69 (m_X10_in _ _ _ _ _) rfl rfl (Nat.le_of_ble_eq_true rfl) dX10_type_6 (fun h6 => ?_) (fun h6 => ?_)
  · skip
    refine z_if_ne (pc := 9) 14 C dX10_type_9 (by decide) (fun h9 => ?_) (fun h9 => absurd h9 (of_decide_eq_true rfl))
    have hb : 1 ≤ a2.toInt ∧ a2.toInt ≤ 8 := by rw [z64] at h6; exact h6
    obtain ⟨e1, e2⟩ := nI_ofI (x := a2) (by omega)
    unfold ztyok at hr
    generalize hNd : a2.toInt.toNat = N at e1 e2 hr
    have hN : N ≤ 8 := by omega
    subst e1
    refine z_iload_n (pc := 14) C dX10_type_14 rfl ?_
    refine z_iconst (pc := 15) (v := 1) C dX10_type_15 (by decide) ?_
    refine z_isub (pc := 16) C dX10_type_16 ?_
    refine z_istore (pc := 17) C dX10_type_17 (by rw [hn]; decide) rfl ?_
    rw [show nI N - 1 = nI N + (-1) from by rw [Int32.sub_eq_add_neg]]
    refine typem_chk (w := w) (f := f) hN C hn (fun i o4 hi hbad => ?_) (fun o4 hok => ?_) N (Nat.le_refl N) (fun j hj hj2 => absurd hj2 (by omega))
    · refine z_iconst (pc := 47) (v := -1) C dX10_type_47 (by decide) ?_
      exact z_iret (pc := 48) C hr dX10_type_48 (Or.inl ⟨fun hq => hbad (hq.2 i hi), rfl, rfl⟩)
    · refine z_aload_n (pc := 55) C dX10_type_55 rfl ?_
      refine z_getI (pc := 56) C zf_X10_208 rfl rfl (by decide) dX10_type_56 ?_
      refine z_iload_n (pc := 59) C dX10_type_59 rfl ?_
      refine z_iadd (pc := 60) C dX10_type_60 ?_
      refine z_bipush (pc := 61) (v := 120) C dX10_type_61 (by decide) ?_
      rw [hl, nI_add]
      by_cases hfit : l + N ≤ 120
      · refine z_icmp_le (pc := 63) 69 C dX10_type_63 (by decide) (fun _ => ?_) (fun h => absurd (show nI (l + N) ≤ nI 120 from nI_le hfit (by omega)) h)
        refine z_iload_n (pc := 69) C dX10_type_69 rfl ?_
        refine z_iconst (pc := 70) (v := 1) C dX10_type_70 (by decide) ?_
        refine z_isub (pc := 71) C dX10_type_71 ?_
        refine z_istore (pc := 72) C dX10_type_72 (by rw [hn]; decide) rfl ?_
        rw [show nI N - 1 = nI N + (-1) from by rw [Int32.sub_eq_add_neg]]
        have key := typem_putx (w := w) (f := f) (l := l) hN hfit C hn (fun o4 => ?_) N (Nat.le_refl N)
        · rw [Nat.sub_self, ztp_0 hl] at key
          exact key
        · refine z_aload_n (pc := 116) C dX10_type_116 rfl ?_
          refine z_getI (pc := 117) C zf_X10_208 rfl rfl (by decide) dX10_type_117 ?_
          exact z_iret (pc := 120) C hr dX10_type_120 (Or.inr (Or.inr ⟨⟨hb, hok⟩, hfit, by rw [ztp_len], rfl⟩))
      · refine z_icmp_le (pc := 63) 69 C dX10_type_63 (by decide) (fun h => absurd (show nI (l + N) ≤ nI 120 from h) (nI_ge (a := 120) (b := l + N) (by omega) (by omega))) (fun _ => ?_)
        refine z_bipush (pc := 66) (v := -3) C dX10_type_66 (by decide) ?_
        exact z_iret (pc := 68) C hr dX10_type_68 (Or.inr (Or.inl ⟨⟨hb, hok⟩, by omega, rfl, rfl⟩))
  · skip
    refine z_if_ne (pc := 9) 14 C dX10_type_9 (by decide) (fun h9 => absurd (of_decide_eq_true rfl) h9) (fun h9 => ?_)
    refine z_iconst (pc := 12) (v := -1) C dX10_type_12 (by decide) ?_
    exact z_iret (pc := 13) C hr dX10_type_13 (Or.inl ⟨fun hq => h6 (by rw [z64]; exact hq.1), rfl, rfl⟩)
theorem ztp_inv {f : zM} (hI : zInv f) {w : Int64} {k kl jl l N c : Nat} (h : l + c ≤ 120) (h1 : zrg kl jl = (0, 120)) (h2 : ∀ j, zrg k j = (0, 255)) : zInv (ztp k kl jl f w l N c) := by
  intro x y z
  unfold ztp
  split
  · rename_i q
    obtain ⟨rfl, rfl, rfl⟩ := q
    rw [h1, nI_toInt (by omega)]
    show (0 : Int) ≤ _ ∧ _ ≤ (120 : Int)
    omega
  · split
    · rename_i q
      obtain ⟨rfl, rfl, q3⟩ := q
      rw [h2]
      exact zby_B w _
    · exact hI x y z
