def bt (x : Int32) (i : Nat) : Bool := x.toBitVec.getLsbD i
theorem b_ext {x y : Int32} (h : ∀ i, i < 32 → bt x i = bt y i) : x = y := Int32.toBitVec_inj.mp (BitVec.eq_of_getLsbD_eq (fun i hi => h i hi))
theorem b_or (x y : Int32) (i : Nat) : bt (x ||| y) i = (bt x i || bt y i) := by unfold bt; rw [Int32.toBitVec_or, BitVec.getLsbD_or]
theorem b_and (x y : Int32) (i : Nat) : bt (x &&& y) i = (bt x i && bt y i) := by unfold bt; rw [Int32.toBitVec_and, BitVec.getLsbD_and]
theorem b_xor (x y : Int32) (i : Nat) : bt (x ^^^ y) i = (bt x i ^^ bt y i) := by unfold bt; rw [Int32.toBitVec_xor, BitVec.getLsbD_xor]
theorem b_m1 : ∀ i, i < 32 → bt (-1) i = true := by decide +kernel
theorem b_0 (i : Nat) : bt 0 i = false := BitVec.getLsbD_zero
theorem s_l : ∀ n, n < 32 → ((nI n &&& 31).toBitVec.smod 32).toNat = n := by decide +kernel
theorem b_sshr (n : Nat) (hn : n < 32) (x : Int32) {i : Nat} (hi : i < 32) : bt (x >>> (nI n &&& 31)) i = if n + i < 32 then bt x (n + i) else bt x 31 := by
  unfold bt
  rw [Int32.toBitVec_shiftRight]
  show (x.toBitVec.sshiftRight ((nI n &&& 31).toBitVec.smod 32).toNat).getLsbD i = _
  rw [s_l n hn, BitVec.getLsbD_sshiftRight, BitVec.msb_eq_getLsbD_last]
  simp [hi]
/-- the CRIMES of a land as bits -/
def zcf (T : Nat → Int32) (l : Int32) : Nat → Int32
  | 0 => 0
  | k + 1 => zcf T l k ||| (if T k = l then 1 <<< (nI k &&& 31) else 0)
theorem b_one : ∀ n, n < 32 → ∀ i, i < 32 → bt ((1 : Int32) <<< (nI n &&& 31)) i = decide (i = n) := by decide +kernel
theorem zcf_bit {T : Nat → Int32} {l : Int32} {i : Nat} (hi : i < 32) : ∀ n : Nat, n ≤ 32 → (bt (zcf T l n) i = true ↔ i < n ∧ T i = l)
  | 0, _ => by rw [zcf, b_0]; constructor
               · intro h; cases h
               · intro h; exact absurd h.1 (Nat.not_lt_zero i)
  | n + 1, hn => by
    rw [zcf, b_or, Bool.or_eq_true, zcf_bit hi n (by omega)]
    by_cases h : T n = l
    · rw [if_pos h, b_one n (by omega) i hi, decide_eq_true_iff]
      constructor
      · rintro (q | q)
        · exact ⟨by omega, q.2⟩
        · subst q; exact ⟨by omega, h⟩
      · intro q
        by_cases e : i = n
        · exact Or.inr e
        · exact Or.inl ⟨by omega, q.2⟩
    · rw [if_neg h, b_0]
      constructor
      · rintro (q | q)
        · exact ⟨by omega, q.2⟩
        · cases q
      · intro q
        refine Or.inl ⟨?_, q.2⟩
        by_cases e : i = n
        · subst e; exact absurd q.2 h
        · omega
theorem zmkb {x w : Int32} : x &&& (w ^^^ -1) = 0 ↔ ∀ i, i < 32 → bt x i = true → bt w i = true := by
  constructor
  · intro h i hi hx
    have e : bt (x &&& (w ^^^ -1)) i = false := by rw [h, b_0]
    rw [b_and, b_xor, b_m1 i hi, hx] at e
    cases hw : bt w i
    · rw [hw] at e; cases e
    · rfl
  · intro h
    apply b_ext
    intro i hi
    rw [b_and, b_xor, b_m1 i hi, b_0]
    cases hx : bt x i
    · rfl
    · rw [h i hi hx]; rfl
theorem zshr1 {x : Int32} {c : Nat} (hc : c < 32) : x >>> (nI c &&& 31) &&& 1 = 0 ↔ bt x c = false := by
  have e0 : bt (x >>> (nI c &&& 31) &&& 1) 0 = bt x c := by
    rw [b_and, b_sshr c hc x (by decide), if_pos (by omega), Nat.add_zero, show bt 1 0 = true by decide, Bool.and_true]
  constructor
  · intro h; rw [h, b_0] at e0; exact e0.symm
  · intro h
    apply b_ext
    intro i hi
    rw [b_0]
    by_cases q : i = 0
    · subst q; rw [e0]; exact h
    · have q1 : ∀ i, i < 32 → i ≠ 0 → bt 1 i = false := by decide +kernel
      rw [b_and, q1 i hi q, Bool.and_false]
theorem zmax_n : ∀ k, k < 25 → ((1 : Int32) <<< (nI k &&& 31) - 1).toInt = 2 ^ k - 1 := by decide +kernel
theorem zbits_lt {x : Int32} {k : Nat} (hk : k < 31) : (0 ≤ x.toInt ∧ x.toInt ≤ 2 ^ k - 1) ↔ ∀ i, i < 32 → k ≤ i → bt x i = false := by
  have p1 : (2 : Nat) ^ k < 2 ^ 31 := Nat.pow_lt_pow_right (by decide) hk
  have hx : x.toInt = (x.toBitVec).toInt := rfl
  have hl : x.toBitVec.toNat < 2 ^ 32 := x.toBitVec.isLt
  have pc : ((2 : Int) ^ k) = ((2 ^ k : Nat) : Int) := by simp
  rw [hx, BitVec.toInt_eq_toNat_cond, pc]
  constructor
  · intro h i hi hki
    have hn : x.toBitVec.toNat < 2 ^ k := by
      split at h <;> omega
    show x.toBitVec.toNat.testBit i = false
    exact Nat.testBit_lt_two_pow (Nat.lt_of_lt_of_le hn (Nat.pow_le_pow_right (by decide) hki))
  · intro h
    have hn : x.toBitVec.toNat < 2 ^ k := by
      apply Nat.lt_pow_two_of_testBit
      intro i hi
      by_cases q : i < 32
      · exact h i q hi
      · exact Nat.testBit_lt_two_pow (Nat.lt_of_lt_of_le hl (Nat.pow_le_pow_right (by decide) (by omega)))
    rw [if_pos (by omega)]
    omega
/-- the two ways to ask whether every CRIME of a mask is of a land -/
theorem znamed {T : Nat → Int32} {l x : Int32} {k : Nat} (hk : k < 25) : (¬ x = 0 ∧ x &&& (zcf T l k ^^^ -1) = 0) ↔ ((1 ≤ x.toInt ∧ x.toInt ≤ ((1 : Int32) <<< (nI k &&& 31) - 1).toInt) ∧ ∀ c, c < k → (x >>> (nI c &&& 31) &&& 1 = 0 ∨ T c = l)) := by
  rw [zmax_n k hk, zmkb]
  have e0 : x = 0 ↔ x.toInt = 0 := z32eq x 0
  constructor
  · rintro ⟨h0, h1⟩
    have hb : 0 ≤ x.toInt ∧ x.toInt ≤ 2 ^ k - 1 := (zbits_lt (by omega)).mpr (fun i hi hki => by
      cases q : bt x i
      · rfl
      · have := ((zcf_bit hi k (by omega)).mp (h1 i hi q)).1
        omega)
    refine ⟨⟨by rw [e0] at h0; omega, hb.2⟩, fun c hc => ?_⟩
    rw [zshr1 (by omega)]
    cases q : bt x c
    · exact Or.inl rfl
    · exact Or.inr ((zcf_bit (by omega) k (by omega)).mp (h1 c (by omega) q)).2
  · rintro ⟨h0, h1⟩
    refine ⟨by rw [e0]; omega, fun i hi hx => ?_⟩
    have hb := (zbits_lt (x := x) (k := k) (by omega)).mp ⟨by omega, h0.2⟩
    have hik : i < k := by
      by_cases q : i < k
      · exact q
      · rw [hb i hi (by omega)] at hx; cases hx
    refine (zcf_bit hi k (by omega)).mpr ⟨hik, ?_⟩
    rcases h1 i hik with q | q
    · rw [zshr1 hi] at q; rw [q] at hx; cases hx
    · exact q

set_option maxRecDepth 100000 in
set_option maxHeartbeats 4000000 in
theorem x_X8_crimesOf (d : Nat) (f : zM) (a1 : Int32) (b1 : zB a1 0 5) (hI : zInv f) : ZM d yX8_crimesOf cX8_crimesOf 4 (some .int) [zr 1 0, zi a1] f (fun r g => (∃ v, r = some (zi v) ∧ zB v 0 16777215) ∧ zInv g ∧ zFr [] f g ∧ (∀ v : Int32, r = some (zi v) → v = zcf (fun i => f 7 i 0) a1 (f 1 0 5).toInt.toNat)) := by
  refine ZM.intro (by decide +kernel) (Nat.le_of_ble_eq_true rfl) ?_
  intro X C hr hn
  have hF : zFr [] f f := zFr.rf _ _
  have ct1_0_5 : zB (f 1 0 5) 0 24 := hI 1 0 5
  have J : ∀ t : Nat, (∀ a4_2 : Int32, zB a4_2 0 16777215 → ∀ a4_3 : Int32, zB a4_3 0 24 → ∀ g : zM, zInv g → zFr [] f g → zB (g 1 0 5) 0 24 → (g = f) → (a4_2 = zcf (fun i => f 7 i 0) a1 (a4_3.toInt.toNat)) → (a4_3.toInt ≤ (f 1 0 5).toInt) → ((g 1 0 5).toInt = (f 1 0 5).toInt) → (0 + 3 * (24 - a4_3.toInt) : Int) < t → Z X 4 [some (zr 1 0), some (zi a1), some (zi a4_2), some (zi a4_3)] [] g) := by
    intro t
    induction t with
    | zero =>
      intros; exfalso; omega
    | succ t ih =>
      have ih0 := ih
      intro a4_2 b4_2 a4_3 b4_3 g4_ hI4_ hF4_ f4_1_0_5 hR4_0 hR4_1 hR4_2 hR4_3 hM4_
      refine z_iload_n (pc := 4) C dX8_crimesOf_4 rfl ?_
      refine z_aload_n (pc := 5) C dX8_crimesOf_5 rfl ?_
      refine z_getI (pc := 6) C zf_X8_46 rfl rfl (by decide) dX8_crimesOf_6 ?_
      refine w_gp (fun v => v = g4_ 1 0 5) rfl (fun v1 q1 => ?_)
      have e1 : v1.toInt = (g4_ 1 0 5).toInt := by rw [q1]
      have b1x : zB v1 0 24 := by first | exact zB.eqv e1 f4_1_0_5 | (have q9 := f4_1_0_5; constructor <;> omega)
      refine z_icmp_ge (pc := 9) 41 C dX8_crimesOf_9 (by decide) (fun h9_1 => ?_) (fun h9_1 => ?_)
      · skip
        have rr3 : a4_3.toInt ≥ v1.toInt := by simp only [z32lt, z32le, z32eq] at h9_1; omega
        refine z_iload_n (pc := 41) C dX8_crimesOf_41 rfl ?_
        exact z_iret (pc := 42) C hr dX8_crimesOf_42 ⟨⟨_, rfl, b4_2⟩, hI4_, hF4_, (by
                                                                                          intro v hv; cases hv
                                                                                          have hn : (f 1 0 5).toInt.toNat = a4_3.toInt.toNat := by omega
                                                                                          rw [hn]; exact hR4_1)⟩
      · skip
        have rr4 : a4_3.toInt < v1.toInt := by simp only [z32lt, z32le, z32eq] at h9_1; omega
        have b5x : zB a4_3 0 23 := by have q1 := b4_3; have q2 := b1x; simp only [z32lt, z32le, z32eq, Int32.reduceToInt, Int32.toInt_zero] at h9_1; constructor <;> omega
        have b6x : zB v1 1 24 := by have q1 := b4_3; have q2 := b1x; simp only [z32lt, z32le, z32eq, Int32.reduceToInt, Int32.toInt_zero] at h9_1; constructor <;> omega
        have c7x : zB (g4_ 1 0 5) 1 24 := by first | assumption | (constructor <;> omega)
        refine z_iload_n (pc := 12) C dX8_crimesOf_12 rfl ?_
        refine z_aload_n (pc := 13) C dX8_crimesOf_13 rfl ?_
        refine z_getR (pc := 14) C zf_X8_11 rfl rfl (by decide) dX8_crimesOf_14 ?_
        refine z_iload_n (pc := 17) C dX8_crimesOf_17 rfl ?_
        refine z_aald (pc := 18) C rfl ⟨rfl, by decide⟩ (by decide) (zIx b5x (by decide) (by decide)) dX8_crimesOf_18 ?_
        refine w_grx (by have hq := zN b5x (by decide); show 24 * 0 + a4_3.toNatClampNeg < 60; omega) (fun m8 q8r h8x => ?_)
        have q8r : m8 = 24 * 0 + a4_3.toNatClampNeg := q8r
        have k8r : a4_3.toNatClampNeg = a4_3.toInt.toNat := rfl
        refine z_getI (pc := 19) C zf_X8_95 rfl rfl h8x dX8_crimesOf_19 ?_
        refine w_gp (fun v => v = g4_ 7 m8 0) rfl (fun v10 q10 => ?_)
        have b10x : zB v10 0 5 := by rw [q10]; exact (hI4_ 7 m8 0)
        refine z_iload_n (pc := 22) C dX8_crimesOf_22 rfl ?_
        refine z_icmp_ne (pc := 23) 32 C dX8_crimesOf_23 (by decide) (fun h23_10 => ?_) (fun h23_10 => ?_)
        · skip
          refine z_iconst (pc := 32) (v := 0) C dX8_crimesOf_32 (by decide) ?_
          refine z_ior (pc := 33) C dX8_crimesOf_33 ?_
          refine w_gp (fun v => v = a4_2 ||| (0 : Int32)) rfl (fun v12 q12 => ?_)
          have b12x : zB v12 0 16777215 := by rw [q12]; exact (zor_b 24 b4_2 (zB.of (x := 0) 0 (by decide)) (by decide) (by decide) (by decide) (by decide) (by decide))
          refine z_istore_n (pc := 34) C dX8_crimesOf_34 (by rw [hn]; decide) rfl ?_
          refine z_iinc (pc := 35) (v := 1) C dX8_crimesOf_35 rfl (by decide) (by rw [hn]; decide) rfl ?_
          obtain ⟨v13, hv13, e13⟩ : ∃ v : Int32, v = a4_3 + 1 ∧ v.toInt = a4_3.toInt + 1 := ⟨_, rfl, zadd_eb b5x (zB.of (x := 1) 1 (by decide)) (by decide) (by decide)⟩
          rw [← hv13]
          have b13x : zB v13 1 24 := by have q9 := b5x; constructor <;> omega
          refine z_goto (pc := 38) 4 C dX8_crimesOf_38 (by decide) ?_
          exact ih0 v12 b12x v13 (zB.wk (a' := 0) (b' := 24) b13x (by decide) (by decide)) g4_ hI4_ hF4_ (zB.wk c7x (by decide) (by decide)) (by exact hR4_0) (by
                                                                                          have hn : (v13).toInt.toNat = a4_3.toInt.toNat + 1 := by omega
                                                                                          have hi : a4_3 = nI a4_3.toInt.toNat := (nI_ofI (by omega)).1
                                                                                          have hx : m8 = a4_3.toInt.toNat := by omega
                                                                                          have hq := q10
                                                                                          rw [hx, hR4_0] at hq
                                                                                          have ho := q12
                                                                                          rw [hn, zcf, ← hR4_1, ← hi, ho]
                                                                                          congr 1
                                                                                          rw [← hq]
                                                                                          first
                                                                                            | (rw [if_pos (by assumption)]; first | rfl | assumption)
                                                                                            | (rw [if_neg (by assumption)]; done)) (by omega) (by omega) (by omega)
        · skip
          have rr14 : v10.toInt = a1.toInt := by simp only [z32lt, z32le, z32eq] at h23_10; omega
          refine z_iconst (pc := 26) (v := 1) C dX8_crimesOf_26 (by decide) ?_
          refine z_iload_n (pc := 27) C dX8_crimesOf_27 rfl ?_
          refine z_ishl (pc := 28) C dX8_crimesOf_28 ?_
          refine w_gp (fun v => v = (1 : Int32) <<< (a4_3 &&& 31)) rfl (fun v15 q15 => ?_)
          have b15x : zB v15 0 8388608 := by rw [q15]; exact (zshl_b b5x 23 (by decide) (by decide))
          refine z_goto (pc := 29) 33 C dX8_crimesOf_29 (by decide) ?_
          refine z_ior (pc := 33) C dX8_crimesOf_33 ?_
          refine w_gp (fun v => v = a4_2 ||| v15) rfl (fun v16 q16 => ?_)
          have b16x : zB v16 0 16777215 := by rw [q16]; exact (zor_b 24 b4_2 b15x (by decide) (by decide) (by decide) (by decide) (by decide))
          refine z_istore_n (pc := 34) C dX8_crimesOf_34 (by rw [hn]; decide) rfl ?_
          refine z_iinc (pc := 35) (v := 1) C dX8_crimesOf_35 rfl (by decide) (by rw [hn]; decide) rfl ?_
          obtain ⟨v17, hv17, e17⟩ : ∃ v : Int32, v = a4_3 + 1 ∧ v.toInt = a4_3.toInt + 1 := ⟨_, rfl, zadd_eb b5x (zB.of (x := 1) 1 (by decide)) (by decide) (by decide)⟩
          rw [← hv17]
          have b17x : zB v17 1 24 := by have q9 := b5x; constructor <;> omega
          refine z_goto (pc := 38) 4 C dX8_crimesOf_38 (by decide) ?_
          exact ih0 v16 b16x v17 (zB.wk (a' := 0) (b' := 24) b17x (by decide) (by decide)) g4_ hI4_ hF4_ (zB.wk c7x (by decide) (by decide)) (by exact hR4_0) (by
                                                                                          have hn : (v17).toInt.toNat = a4_3.toInt.toNat + 1 := by omega
                                                                                          have hi : a4_3 = nI a4_3.toInt.toNat := (nI_ofI (by omega)).1
                                                                                          have hx : m8 = a4_3.toInt.toNat := by omega
                                                                                          have hq := q10
                                                                                          rw [hx, hR4_0] at hq
                                                                                          have ho := q16
                                                                                          rw [hn, zcf, ← hR4_1, ← hi, ho]
                                                                                          congr 1
                                                                                          rw [← hq]
                                                                                          first
                                                                                            | (rw [if_pos (by assumption)]; first | rfl | assumption)
                                                                                            | (rw [if_neg (by assumption)]; done)) (by omega) (by omega) (by omega)
  have J0 := J 87
  show Z X 0 [some (zr 1 0), some (zi a1), none, none] [] f
  refine z_iconst (pc := 0) (v := 0) C dX8_crimesOf_0 (by decide) ?_
  refine z_istore_n (pc := 1) C dX8_crimesOf_1 (by rw [hn]; decide) rfl ?_
  refine z_iconst (pc := 2) (v := 0) C dX8_crimesOf_2 (by decide) ?_
  refine z_istore_n (pc := 3) C dX8_crimesOf_3 (by rw [hn]; decide) rfl ?_
  exact J0 0 (zB.wk (a' := 0) (b' := 16777215) (zB.of (x := 0) 0 (by decide)) (by decide) (by decide)) 0 (zB.wk (a' := 0) (b' := 24) (zB.of (x := 0) 0 (by decide)) (by decide) (by decide)) f hI hF ct1_0_5 (by rfl) (by rfl) (by have qc0 : (0 : Int32).toInt = 0 := (by decide); omega) (by have qc0 : (0 : Int32).toInt = 0 := (by decide); omega) (by have qc0 : (0 : Int32).toInt = 0 := (by decide); omega)

set_option maxRecDepth 100000 in
set_option maxHeartbeats 4000000 in
theorem x_X9_named (d : Nat) (f : zM) (a1 : Int32) (b1 : zB a1 (-2147483648) 2147483647) (a2 : Int32) (b2 : zB a2 (-2147483648) 2147483647) (a3 : Int32) (b3 : zB a3 (-2147483648) 2147483647) (a4 : Int32) (b4 : zB a4 (-2147483648) 2147483647) (a5 : Int32) (b5 : zB a5 (-2147483648) 2147483647) (a6 : Int32) (b6 : zB a6 (-2147483648) 2147483647) (hI : zInv f) : ZM (d + 2) yX9_named cX9_named 8 (some .int) [zr 0 0, zi a1, zi a2, zi a3, zi a4, zi a5, zi a6] f (fun r g => (∃ v, r = some (zi v) ∧ zB v (-3) 11) ∧ zInv g ∧ zFr [(1, some 7), (11, some 0), (11, some 1), (11, some 2), (11, some 3), (11, some 4), (11, some 5), (11, some 6), (11, some 7)] f g ∧ (∀ v : Int32, r = some (zi v) → (¬ (((0 ≤ a1.toInt ∧ a1.toInt ≤ 5) ∧ (0 ≤ a2.toInt ∧ a2.toInt ≤ 5) ∧ ¬ a1.toInt = a2.toInt ∧ (0 ≤ a4.toInt ∧ a4.toInt ≤ 31) ∧ (0 ≤ a5.toInt ∧ a5.toInt ≤ 99) ∧ (0 ≤ a6.toInt ∧ a6.toInt ≤ 7)) ∧ ¬ a3 = 0 ∧ a3 &&& (zcf (fun i => f 7 i 0) a2 (f 1 0 5).toInt.toNat ^^^ -1) = 0) ∧ v = -1 ∧ g = f) ∨ ((((0 ≤ a1.toInt ∧ a1.toInt ≤ 5) ∧ (0 ≤ a2.toInt ∧ a2.toInt ≤ 5) ∧ ¬ a1.toInt = a2.toInt ∧ (0 ≤ a4.toInt ∧ a4.toInt ≤ 31) ∧ (0 ≤ a5.toInt ∧ a5.toInt ≤ 99) ∧ (0 ≤ a6.toInt ∧ a6.toInt ≤ 7)) ∧ ¬ a3 = 0 ∧ a3 &&& (zcf (fun i => f 7 i 0) a2 (f 1 0 5).toInt.toNat ^^^ -1) = 0) ∧ 12 ≤ (f 1 0 7).toInt ∧ v = -3 ∧ g = f) ∨ ((((0 ≤ a1.toInt ∧ a1.toInt ≤ 5) ∧ (0 ≤ a2.toInt ∧ a2.toInt ≤ 5) ∧ ¬ a1.toInt = a2.toInt ∧ (0 ≤ a4.toInt ∧ a4.toInt ≤ 31) ∧ (0 ≤ a5.toInt ∧ a5.toInt ≤ 99) ∧ (0 ≤ a6.toInt ∧ a6.toInt ≤ 7)) ∧ ¬ a3 = 0 ∧ a3 &&& (zcf (fun i => f 7 i 0) a2 (f 1 0 5).toInt.toNat ^^^ -1) = 0) ∧ (f 1 0 7).toInt < 12 ∧ v = f 1 0 7 ∧ g 1 0 7 = f 1 0 7 + 1 ∧ (∀ j, j < 8 → g 11 (f 1 0 7).toInt.toNat j = zc8 1 a1 a2 1 a3 a4 a5 a6 j) ∧ (∀ i j, i ≠ (f 1 0 7).toInt.toNat → j < 8 → g 11 i j = f 11 i j) ∧ (∀ i j, ¬ (i = 0 ∧ j = 7) → g 1 i j = f 1 i j)))) := by
  refine ZM.intro (by decide +kernel) (Nat.le_of_ble_eq_true rfl) ?_
  intro X C hr hn
  have hF : zFr [(1, some 7), (11, some 0), (11, some 1), (11, some 2), (11, some 3), (11, some 4), (11, some 5), (11, some 6), (11, some 7)] f f := zFr.rf _ _
  show Z X 0 [some (zr 0 0), some (zi a1), some (zi a2), some (zi a3), some (zi a4), some (zi a5), some (zi a6), none] [] f
  refine z_iload_n (pc := 0) C dX9_named_0 rfl ?_
  refine z_callSb (pc := 1) C zk_X9_46 (m_X9_isLand _ _ _) rfl rfl (Nat.le_of_ble_eq_true rfl) dX9_named_1 (fun h1_0 => ?_) (fun h1_0 => ?_)
  · skip
    have b2x : zB a2 0 5 := h1_0
    refine z_if_eq (pc := 4) 26 C dX9_named_4 (by decide) (fun h => absurd h (by decide)) (fun _ => ?_)
    refine z_iload_n (pc := 7) C dX9_named_7 rfl ?_
    refine z_if_eq (pc := 8) 26 C dX9_named_8 (by decide) (fun h8_2 => ?_) (fun h8_2 => ?_)
    · skip
      have b4x : zB a3 0 0 := by have q1 := b3; have q2 := (zB.of (x := 0) 0 (by decide)); simp only [z32lt, z32le, z32eq, Int32.reduceToInt, Int32.toInt_zero] at h8_2; constructor <;> omega
      refine z_iconst (pc := 26) (v := -1) C dX9_named_26 (by decide) ?_
      exact z_iret (pc := 27) C hr dX9_named_27 ⟨⟨_, rfl, (zB.wk (a' := (-3)) (b' := 11) (zB.of (x := (-1)) (-1) (by decide)) (by decide) (by decide))⟩, hI, hF, (by intro v hv; cases hv; exact Or.inl ⟨fun hG => by first | exact absurd (by assumption) hG.2.1 | omega, rfl, rfl⟩)⟩
    · skip
      refine z_iload_n (pc := 11) C dX9_named_11 rfl ?_
      refine z_aload_n (pc := 12) C dX9_named_12 rfl ?_
      refine z_getR (pc := 13) C zf_X9_10 rfl rfl (by decide) dX9_named_13 ?_
      refine z_iload_n (pc := 16) C dX9_named_16 rfl ?_
      refine z_callV (pc := 17) C zk_X9_100 (x_X8_crimesOf _ _ a2 b2x hI) rfl rfl (by decide) rfl rfl (Nat.le_of_ble_eq_true rfl) dX9_named_17 (fun r5 g5 q5 => ?_)
      obtain ⟨⟨v5, rfl, b5x⟩, hI5, hF5q, hp5_0⟩ := q5
      have hp5_0 := hp5_0 _ rfl
      obtain rfl := zFr_nil hF5q
      simp only [Option.toList, List.cons_append, List.nil_append]
      refine z_iconst (pc := 20) (v := -1) C dX9_named_20 (by decide) ?_
      refine z_ixor (pc := 21) C dX9_named_21 ?_
      refine w_gp (fun v => v = v5 ^^^ ((-1) : Int32)) rfl (fun v6 q6 => ?_)
      refine z_iand (pc := 22) C dX9_named_22 ?_
      refine w_gp (fun v => v = a3 &&& v6) rfl (fun v7 q7 => ?_)
      refine z_if_eq (pc := 23) 28 C dX9_named_23 (by decide) (fun h23_7 => ?_) (fun h23_7 => ?_)
      · skip
        have b9x : zB v7 0 0 := by have q1 := (zB_any v7); have q2 := (zB.of (x := 0) 0 (by decide)); simp only [z32lt, z32le, z32eq, Int32.reduceToInt, Int32.toInt_zero] at h23_7; constructor <;> omega
        refine z_aload_n (pc := 28) C dX9_named_28 rfl ?_
        refine z_iload_n (pc := 29) C dX9_named_29 rfl ?_
        refine z_iload_n (pc := 30) C dX9_named_30 rfl ?_
        refine z_iload (pc := 31) C dX9_named_31 rfl ?_
        refine z_iload (pc := 33) C dX9_named_33 rfl ?_
        refine z_iload (pc := 35) C dX9_named_35 rfl ?_
        refine z_callV (pc := 37) C zk_X9_86 (x_X9_addPaper _ _ a1 b1 a2 (zB.wk (a' := (-2147483648)) (b' := 2147483647) b2x (by decide) (by decide)) a4 b4 a5 b5 a6 b6 hI) rfl rfl (by decide) rfl rfl (Nat.le_of_ble_eq_true rfl) dX9_named_37 (fun r10 g10 q10 => ?_)
        obtain ⟨⟨v10, rfl, b10x⟩, hI10, hF10q, hp10_0⟩ := q10
        have hp10_0 := hp10_0 _ rfl
        have hF10 := zFr.tr hF hF10q (by decide)
        simp only [Option.toList, List.cons_append, List.nil_append]
        refine z_istore (pc := 40) C dX9_named_40 (by rw [hn]; decide) rfl ?_
        refine z_iload (pc := 42) C dX9_named_42 rfl ?_
        refine z_if_lt (pc := 44) 63 C dX9_named_44 (by decide) (fun h44_10 => ?_) (fun h44_10 => ?_)
        · skip
          have b12x : zB v10 (-3) (-1) := by have q1 := b10x; have q2 := (zB.of (x := 0) 0 (by decide)); simp only [z32lt, z32le, z32eq, Int32.reduceToInt, Int32.toInt_zero] at h44_10; constructor <;> omega
          refine z_iload (pc := 63) C dX9_named_63 rfl ?_
          exact z_iret (pc := 65) C hr dX9_named_65 ⟨⟨_, rfl, (zB.wk (a' := (-3)) (b' := 11) b12x (by decide) (by decide))⟩, hI10, hF10, (by
                                                                                          intro v hv; cases hv
                                                                                          rcases hp10_0 with ⟨h1, h2, h3⟩ | ⟨h1, h2, h3, h4⟩ | ⟨h1, h2, h3, h4⟩
                                                                                          · exact Or.inl ⟨fun hG => h1 (by exact hG.1), h2, h3⟩
                                                                                          · exact Or.inr (Or.inl ⟨⟨h1, by assumption, by rw [← hp5_0, ← q6, ← q7]; assumption⟩, h2, h3, h4⟩)
                                                                                          · exfalso
                                                                                            rw [z32eq] at h3
                                                                                            have b7 : 0 ≤ (f 1 0 7).toInt := (hI 1 0 7).1
                                                                                            omega)⟩
        · skip
          have b13x : zB v10 0 11 := by have q1 := b10x; have q2 := (zB.of (x := 0) 0 (by decide)); simp only [z32lt, z32le, z32eq, Int32.reduceToInt, Int32.toInt_zero] at h44_10; constructor <;> omega
          refine z_aload_n (pc := 47) C dX9_named_47 rfl ?_
          refine z_getR (pc := 48) C zf_X9_10 rfl rfl (by decide) dX9_named_48 ?_
          refine z_getR (pc := 51) C zf_X9_90 rfl rfl (by decide) dX9_named_51 ?_
          refine z_iload (pc := 54) C dX9_named_54 rfl ?_
          refine z_aald (pc := 56) C rfl ⟨rfl, by decide⟩ (by decide) (zIx b13x (by decide) (by decide)) dX9_named_56 ?_
          refine w_grx (by have hq := zN b13x (by decide); show 12 * 0 + v10.toNatClampNeg < 36; omega) (fun m14 q14r h14x => ?_)
          have q14r : m14 = 12 * 0 + v10.toNatClampNeg := q14r
          have k14r : v10.toNatClampNeg = v10.toInt.toNat := rfl
          refine z_iconst (pc := 57) (v := 1) C dX9_named_57 (by decide) ?_
          refine z_iconst (pc := 58) (v := 1) C dX9_named_58 (by decide) ?_
          refine z_iload_n (pc := 59) C dX9_named_59 rfl ?_
          refine z_callV (pc := 60) C zk_X9_94 (x_X4_become _ _ m14 h14x 1 (zB.wk (a' := 0) (b' := 2) (zB.of (x := 1) 1 (by decide)) (by decide) (by decide)) 1 (zB.wk (a' := 0) (b' := 40) (zB.of (x := 1) 1 (by decide)) (by decide) (by decide)) a3 b3 hI10) rfl rfl h14x rfl rfl (Nat.le_of_ble_eq_true rfl) dX9_named_60 (fun r15 g15 q15 => ?_)
          have qa15_1 : (1 : Int32).toInt = 1 := by decide
          obtain ⟨rfl, hI15, hF15q, hp15_0⟩ := q15
          have hF15 := zFr.tr hF10 hF15q (by decide)
          simp only [Option.toList, List.cons_append, List.nil_append]
          refine z_iload (pc := 63) C dX9_named_63 rfl ?_
          exact z_iret (pc := 65) C hr dX9_named_65 ⟨⟨_, rfl, (zB.wk (a' := (-3)) (b' := 11) b13x (by decide) (by decide))⟩, hI15, hF15, (by
                                                                                          intro v hv; cases hv
                                                                                          rcases hp10_0 with ⟨h1, h2, h3⟩ | ⟨h1, h2, h3, h4⟩ | ⟨h1, h2, h3, h4⟩
                                                                                          · exfalso; rw [z32eq] at h2; have c1 : (-1 : Int32).toInt = -1 := by decide
                                                                                            omega
                                                                                          · exfalso; rw [z32eq] at h3; have c1 : (-3 : Int32).toInt = -3 := by decide
                                                                                            omega
                                                                                          · have h3i : (v10).toInt = (f 1 0 7).toInt := by rw [h3]
                                                                                            have hn : m14 = (f 1 0 7).toInt.toNat := by omega
                                                                                            have hg := hp15_0
                                                                                            rw [hn, h4] at hg
                                                                                            refine Or.inr (Or.inr ⟨⟨h1, by assumption, by rw [← hp5_0, ← q6, ← q7]; assumption⟩, h2, h3, ?_, ?_, ?_, ?_⟩)
                                                                                            · rw [hg, zup_ne _ _ (by omega), zup_ne _ _ (by omega), zup_ne _ _ (by omega), zup_same]
                                                                                            · intro j hj
                                                                                              rw [hg]
                                                                                              rcases (show j = 0 ∨ j = 1 ∨ j = 2 ∨ j = 3 ∨ j = 4 ∨ j = 5 ∨ j = 6 ∨ j = 7 by omega) with rfl | rfl | rfl | rfl | rfl | rfl | rfl | rfl <;> simp [zup, zc8]
                                                                                            · intro i j hi hj
                                                                                              rw [hg, zup_ne _ _ (by omega), zup_ne _ _ (by omega), zup_ne _ _ (by omega), zup_ne _ _ (by omega), zup_ne _ _ (by omega), zup_ne _ _ (by omega), zup_ne _ _ (by omega), zup_ne _ _ (by omega), zup_ne _ _ (by omega)]
                                                                                            · intro i j hij
                                                                                              rw [hg, zup_ne _ _ (by omega), zup_ne _ _ (by omega), zup_ne _ _ (by omega), zup_ne _ _ (by omega), zup_ne _ _ (by omega), zup_ne _ _ (by omega), zup_ne _ _ (by omega), zup_ne _ _ (by omega), zup_ne _ _ (by omega)])⟩
      · skip
        refine z_iconst (pc := 26) (v := -1) C dX9_named_26 (by decide) ?_
        exact z_iret (pc := 27) C hr dX9_named_27 ⟨⟨_, rfl, (zB.wk (a' := (-3)) (b' := 11) (zB.of (x := (-1)) (-1) (by decide)) (by decide) (by decide))⟩, hI, hF, (by
                                                                                          intro v hv; cases hv
                                                                                          refine Or.inl ⟨fun hG => ?_, rfl, rfl⟩
                                                                                          exact absurd hG.2.2 (by rw [← hp5_0, ← q6, ← q7]; assumption))⟩
  · skip
    refine z_if_eq (pc := 4) 26 C dX9_named_4 (by decide) (fun _ => ?_) (fun h => absurd (by decide) h)
    refine z_iconst (pc := 26) (v := -1) C dX9_named_26 (by decide) ?_
    exact z_iret (pc := 27) C hr dX9_named_27 ⟨⟨_, rfl, (zB.wk (a' := (-3)) (b' := 11) (zB.of (x := (-1)) (-1) (by decide)) (by decide) (by decide))⟩, hI, hF, (by intro v hv; cases hv; exact Or.inl ⟨fun hG => by first | exact absurd (by assumption) hG.2.1 | omega, rfl, rfl⟩)⟩

set_option maxRecDepth 100000 in
set_option maxHeartbeats 4000000 in
theorem x_X10_named (d : Nat) (f : zM) (a1 : Int32) (b1 : zB a1 (-2147483648) 2147483647) (a2 : Int32) (b2 : zB a2 (-2147483648) 2147483647) (a3 : Int32) (b3 : zB a3 (-2147483648) 2147483647) (a4 : Int32) (b4 : zB a4 (-2147483648) 2147483647) (a5 : Int32) (b5 : zB a5 (-2147483648) 2147483647) (a6 : Int32) (b6 : zB a6 (-2147483648) 2147483647) (hI : zInv f) : ZM (d + 3) yX10_named cX10_named 9 (some .int) [zr 25 0, zi a1, zi a2, zi a3, zi a4, zi a5, zi a6] f (fun r g => (∃ v, r = some (zi v) ∧ zB v (-3) 11) ∧ zInv g ∧ zFr [(25, some 4), (28, none)] f g ∧ (∀ v : Int32, r = some (zi v) → (¬ ((((0 ≤ a1.toInt ∧ a1.toInt ≤ 5) ∧ (0 ≤ a2.toInt ∧ a2.toInt ≤ 5) ∧ ¬ a1.toInt = a2.toInt ∧ (0 ≤ a4.toInt ∧ a4.toInt ≤ 31) ∧ (0 ≤ a5.toInt ∧ a5.toInt ≤ 99) ∧ (0 ≤ a6.toInt ∧ a6.toInt ≤ 7)) ∧ (1 ≤ a3.toInt ∧ a3.toInt ≤ ((1 : Int32) <<< (f 25 0 0 &&& 31) - 1).toInt)) ∧ ∀ c, c < (f 25 0 0).toInt.toNat → (a3 >>> (nI c &&& 31) &&& 1 = 0 ∨ f 26 0 (6 * c) = a2)) ∧ v = -1 ∧ g = f) ∨ (((((0 ≤ a1.toInt ∧ a1.toInt ≤ 5) ∧ (0 ≤ a2.toInt ∧ a2.toInt ≤ 5) ∧ ¬ a1.toInt = a2.toInt ∧ (0 ≤ a4.toInt ∧ a4.toInt ≤ 31) ∧ (0 ≤ a5.toInt ∧ a5.toInt ≤ 99) ∧ (0 ≤ a6.toInt ∧ a6.toInt ≤ 7)) ∧ (1 ≤ a3.toInt ∧ a3.toInt ≤ ((1 : Int32) <<< (f 25 0 0 &&& 31) - 1).toInt)) ∧ ∀ c, c < (f 25 0 0).toInt.toNat → (a3 >>> (nI c &&& 31) &&& 1 = 0 ∨ f 26 0 (6 * c) = a2)) ∧ 12 ≤ (f 25 0 4).toInt ∧ v = -3 ∧ g = f) ∨ (((((0 ≤ a1.toInt ∧ a1.toInt ≤ 5) ∧ (0 ≤ a2.toInt ∧ a2.toInt ≤ 5) ∧ ¬ a1.toInt = a2.toInt ∧ (0 ≤ a4.toInt ∧ a4.toInt ≤ 31) ∧ (0 ≤ a5.toInt ∧ a5.toInt ≤ 99) ∧ (0 ≤ a6.toInt ∧ a6.toInt ≤ 7)) ∧ (1 ≤ a3.toInt ∧ a3.toInt ≤ ((1 : Int32) <<< (f 25 0 0 &&& 31) - 1).toInt)) ∧ ∀ c, c < (f 25 0 0).toInt.toNat → (a3 >>> (nI c &&& 31) &&& 1 = 0 ∨ f 26 0 (6 * c) = a2)) ∧ (f 25 0 4).toInt < 12 ∧ v = f 25 0 4 ∧ g 25 0 4 = f 25 0 4 + 1 ∧ (∀ j, j < 8 → g 28 0 (8 * (f 25 0 4).toInt.toNat + j) = zc8 1 a1 a2 1 a3 a4 a5 a6 j) ∧ (∀ q, (q < 8 * (f 25 0 4).toInt.toNat ∨ 8 * (f 25 0 4).toInt.toNat + 8 ≤ q) → g 28 0 q = f 28 0 q)))) := by
  refine ZM.intro (by decide +kernel) (Nat.le_of_ble_eq_true rfl) ?_
  intro X C hr hn
  have hF : zFr [(25, some 4), (28, none)] f f := zFr.rf _ _
  have ct25_0_0 : zB (f 25 0 0) 0 24 := hI 25 0 0
  have J : ∀ t : Nat, (∀ a42_7 : Int32, zB a42_7 0 1 → ∀ a42_8 : Int32, zB a42_8 0 24 → ∀ g : zM, zInv g → zFr [(25, some 4), (28, none)] f g → zB (g 25 0 0) 0 24 → (g = f) → (((a42_7.toInt = 1 ∧ (((0 ≤ a1.toInt ∧ a1.toInt ≤ 5) ∧ (0 ≤ a2.toInt ∧ a2.toInt ≤ 5) ∧ ¬ a1.toInt = a2.toInt ∧ (0 ≤ a4.toInt ∧ a4.toInt ≤ 31) ∧ (0 ≤ a5.toInt ∧ a5.toInt ≤ 99) ∧ (0 ≤ a6.toInt ∧ a6.toInt ≤ 7)) ∧ (1 ≤ a3.toInt ∧ a3.toInt ≤ ((1 : Int32) <<< (f 25 0 0 &&& 31) - 1).toInt)) ∧ ∀ c, c < a42_8.toInt.toNat → (a3 >>> (nI c &&& 31) &&& 1 = 0 ∨ f 26 0 (6 * c) = a2)) ∨ (a42_7.toInt = 0 ∧ ¬ ((((0 ≤ a1.toInt ∧ a1.toInt ≤ 5) ∧ (0 ≤ a2.toInt ∧ a2.toInt ≤ 5) ∧ ¬ a1.toInt = a2.toInt ∧ (0 ≤ a4.toInt ∧ a4.toInt ≤ 31) ∧ (0 ≤ a5.toInt ∧ a5.toInt ≤ 99) ∧ (0 ≤ a6.toInt ∧ a6.toInt ≤ 7)) ∧ (1 ≤ a3.toInt ∧ a3.toInt ≤ ((1 : Int32) <<< (f 25 0 0 &&& 31) - 1).toInt)) ∧ ∀ c, c < (f 25 0 0).toInt.toNat → (a3 >>> (nI c &&& 31) &&& 1 = 0 ∨ f 26 0 (6 * c) = a2))))) → ((g 25 0 0).toInt = (f 25 0 0).toInt) → (a42_8.toInt ≤ (f 25 0 0).toInt) → (0 + 3 * (24 - a42_8.toInt) : Int) < t → Z X 42 [some (zr 25 0), some (zi a1), some (zi a2), some (zi a3), some (zi a4), some (zi a5), some (zi a6), some (zi a42_7), some (zi a42_8)] [] g) := by
    intro t
    induction t with
    | zero =>
      intros; exfalso; omega
    | succ t ih =>
      have ih0 := ih
      intro a42_7 b42_7 a42_8 b42_8 g42_ hI42_ hF42_ f42_25_0_0 hR42_0 hR42_1 hR42_2 hR42_3 hM42_
      refine z_iload (pc := 42) C dX10_named_42 rfl ?_
      refine z_aload_n (pc := 44) C dX10_named_44 rfl ?_
      refine z_getI (pc := 45) C zf_X10_80 rfl rfl (by decide) dX10_named_45 ?_
      refine w_gp (fun v => v = g42_ 25 0 0) rfl (fun v1 q1 => ?_)
      have e1 : v1.toInt = (g42_ 25 0 0).toInt := by rw [q1]
      have b1x : zB v1 0 24 := by first | exact zB.eqv e1 f42_25_0_0 | (have q9 := f42_25_0_0; constructor <;> omega)
      refine z_icmp_ge (pc := 48) 92 C dX10_named_48 (by decide) (fun h48_1 => ?_) (fun h48_1 => ?_)
      · skip
        have rr3 : a42_8.toInt ≥ v1.toInt := by simp only [z32lt, z32le, z32eq] at h48_1; omega
        refine z_iload (pc := 92) C dX10_named_92 rfl ?_
        refine z_if_eq (pc := 94) 115 C dX10_named_94 (by decide) (fun h94_3 => ?_) (fun h94_3 => ?_)
        · skip
          have b5x : zB a42_7 0 0 := by have q1 := b42_7; have q2 := (zB.of (x := 0) 0 (by decide)); simp only [z32lt, z32le, z32eq, Int32.reduceToInt, Int32.toInt_zero] at h94_3; constructor <;> omega
          refine z_iconst (pc := 115) (v := -1) C dX10_named_115 (by decide) ?_
          exact z_iret (pc := 116) C hr dX10_named_116 ⟨⟨_, rfl, (zB.wk (a' := (-3)) (b' := 11) (zB.of (x := (-1)) (-1) (by decide)) (by decide) (by decide))⟩, hI42_, hF42_, (by
                                                                                          intro v hv; cases hv
                                                                                          refine Or.inl ⟨?_, rfl, hR42_0⟩
                                                                                          rcases hR42_1 with ⟨h7, _, _⟩ | ⟨_, hn⟩
                                                                                          · exfalso; omega
                                                                                          · exact hn)⟩
        · skip
          have b6x : zB a42_7 1 1 := by have q1 := b42_7; have q2 := (zB.of (x := 0) 0 (by decide)); simp only [z32lt, z32le, z32eq, Int32.reduceToInt, Int32.toInt_zero] at h94_3; constructor <;> omega
          obtain ⟨h7, hg, hcs⟩ := hR42_1.resolve_right (fun q => by omega)
          refine z_aload_n (pc := 97) C dX10_named_97 rfl ?_
          refine z_iconst (pc := 98) (v := 1) C dX10_named_98 (by decide) ?_
          refine z_iload_n (pc := 99) C dX10_named_99 rfl ?_
          refine z_iload_n (pc := 100) C dX10_named_100 rfl ?_
          refine z_iconst (pc := 101) (v := 1) C dX10_named_101 (by decide) ?_
          refine z_iload_n (pc := 102) C dX10_named_102 rfl ?_
          refine z_iload (pc := 103) C dX10_named_103 rfl ?_
          refine z_iload (pc := 105) C dX10_named_105 rfl ?_
          refine z_iload (pc := 107) C dX10_named_107 rfl ?_
          refine z_callV (pc := 109) C zk_X10_105 (x_X10_addPaper _ _ 1 (zB.wk (a' := 0) (b' := 2) (zB.of (x := 1) 1 (by decide)) (by decide) (by decide)) a1 hg.1.1 a2 hg.1.2.1 1 (zB.wk (a' := 0) (b' := 40) (zB.of (x := 1) 1 (by decide)) (by decide) (by decide)) a3 b3 a4 hg.1.2.2.2.1 a5 hg.1.2.2.2.2.1 a6 hg.1.2.2.2.2.2 hI42_) rfl rfl (by decide) rfl rfl (Nat.le_of_ble_eq_true rfl) dX10_named_109 (fun r7 g7 q7 => ?_)
          have qa7_1 : (1 : Int32).toInt = 1 := by decide
          obtain ⟨⟨v7, rfl, b7x⟩, hI7, hF7q, hp7_0⟩ := q7
          have hp7_0 := hp7_0 _ rfl
          have hF7 := zFr.tr hF42_ hF7q (by decide)
          simp only [Option.toList, List.cons_append, List.nil_append]
          have ek7_25_0_0 : (g7 25 0 0).toInt = (g42_ 25 0 0).toInt := by rw [hF7q 25 0 0 rfl]
          have c7_25_0_0x : zB (g7 25 0 0) 0 24 := by rw [hF7q 25 0 0 rfl]; exact f42_25_0_0
          refine z_goto (pc := 112) 116 C dX10_named_112 (by decide) ?_
          exact z_iret (pc := 116) C hr dX10_named_116 ⟨⟨_, rfl, b7x⟩, hI7, hF7, (by
                                                                                          intro v hv; cases hv
                                                                                          have hA := hp7_0
                                                                                          rw [hR42_0] at hA
                                                                                          have hz : a42_8.toInt.toNat = (f 25 0 0).toInt.toNat := by omega
                                                                                          rw [hz] at hcs
                                                                                          rcases hA with ⟨h1, h2, h3⟩ | ⟨h1, h2, h3, h4, h5⟩
                                                                                          · exact Or.inr (Or.inl ⟨⟨hg, hcs⟩, h1, h2, h3⟩)
                                                                                          · exact Or.inr (Or.inr ⟨⟨hg, hcs⟩, h1, h2, h3, h4, h5⟩))⟩
      · skip
        have rr8 : a42_8.toInt < v1.toInt := by simp only [z32lt, z32le, z32eq] at h48_1; omega
        have b9x : zB a42_8 0 23 := by have q1 := b42_8; have q2 := b1x; simp only [z32lt, z32le, z32eq, Int32.reduceToInt, Int32.toInt_zero] at h48_1; constructor <;> omega
        have b10x : zB v1 1 24 := by have q1 := b42_8; have q2 := b1x; simp only [z32lt, z32le, z32eq, Int32.reduceToInt, Int32.toInt_zero] at h48_1; constructor <;> omega
        have c11x : zB (g42_ 25 0 0) 1 24 := by first | assumption | (constructor <;> omega)
        refine z_iload (pc := 51) C dX10_named_51 rfl ?_
        refine z_if_eq (pc := 53) 92 C dX10_named_53 (by decide) (fun h53_11 => ?_) (fun h53_11 => ?_)
        · skip
          have b13x : zB a42_7 0 0 := by have q1 := b42_7; have q2 := (zB.of (x := 0) 0 (by decide)); simp only [z32lt, z32le, z32eq, Int32.reduceToInt, Int32.toInt_zero] at h53_11; constructor <;> omega
          refine z_iload (pc := 92) C dX10_named_92 rfl ?_
          refine z_if_eq (pc := 94) 115 C dX10_named_94 (by decide) (fun h94_13 => ?_) (fun h94_13 => absurd h94_13 (by have q1 := b13x; have q2 := (zB.of (x := 0) 0 (by decide)); first | (simp only [z32lt, z32le, z32eq]; omega) | (simp only [z32lt, z32le, z32eq] at *; omega)))
          refine z_iconst (pc := 115) (v := -1) C dX10_named_115 (by decide) ?_
          exact z_iret (pc := 116) C hr dX10_named_116 ⟨⟨_, rfl, (zB.wk (a' := (-3)) (b' := 11) (zB.of (x := (-1)) (-1) (by decide)) (by decide) (by decide))⟩, hI42_, hF42_, (by
                                                                                          intro v hv; cases hv
                                                                                          refine Or.inl ⟨?_, rfl, hR42_0⟩
                                                                                          rcases hR42_1 with ⟨h7, _, _⟩ | ⟨_, hn⟩
                                                                                          · exfalso; omega
                                                                                          · exact hn)⟩
        · skip
          have b15x : zB a42_7 1 1 := by have q1 := b42_7; have q2 := (zB.of (x := 0) 0 (by decide)); simp only [z32lt, z32le, z32eq, Int32.reduceToInt, Int32.toInt_zero] at h53_11; constructor <;> omega
          refine z_iload_n (pc := 56) C dX10_named_56 rfl ?_
          refine z_iload (pc := 57) C dX10_named_57 rfl ?_
          refine z_ishr (pc := 59) C dX10_named_59 ?_
          refine w_gp (fun v => v = a3 >>> (a42_8 &&& 31)) rfl (fun v16 q16 => ?_)
          refine z_iconst (pc := 60) (v := 1) C dX10_named_60 (by decide) ?_
          refine z_iand (pc := 61) C dX10_named_61 ?_
          refine w_gp (fun v => v = v16 &&& (1 : Int32)) rfl (fun v17 q17 => ?_)
          have b17x : zB v17 0 1 := by rw [q17]; exact (zand_b (zB_any v16) (zB.of (x := 1) 1 (by decide)) (by decide))
          refine z_if_eq (pc := 62) 79 C dX10_named_62 (by decide) (fun h62_17 => ?_) (fun h62_17 => ?_)
          · skip
            have b19x : zB v17 0 0 := by have q1 := b17x; have q2 := (zB.of (x := 0) 0 (by decide)); simp only [z32lt, z32le, z32eq, Int32.reduceToInt, Int32.toInt_zero] at h62_17; constructor <;> omega
            refine z_iconst (pc := 79) (v := 1) C dX10_named_79 (by decide) ?_
            refine z_goto (pc := 80) 84 C dX10_named_80 (by decide) ?_
            refine z_istore (pc := 84) C dX10_named_84 (by rw [hn]; decide) rfl ?_
            refine z_iinc (pc := 86) (v := 1) C dX10_named_86 rfl (by decide) (by rw [hn]; decide) rfl ?_
            obtain ⟨v20, hv20, e20⟩ : ∃ v : Int32, v = a42_8 + 1 ∧ v.toInt = a42_8.toInt + 1 := ⟨_, rfl, zadd_eb b9x (zB.of (x := 1) 1 (by decide)) (by decide) (by decide)⟩
            rw [← hv20]
            have b20x : zB v20 1 24 := by have q9 := b9x; constructor <;> omega
            refine z_goto (pc := 89) 42 C dX10_named_89 (by decide) ?_
            exact ih0 1 (zB.wk (a' := 0) (b' := 1) (zB.of (x := 1) 1 (by decide)) (by decide) (by decide)) v20 (zB.wk (a' := 0) (b' := 24) b20x (by decide) (by decide)) g42_ hI42_ hF42_ (zB.wk c11x (by decide) (by decide)) (by exact hR42_0) (by
                                                                                          have hi : a42_8 = nI a42_8.toInt.toNat := (nI_ofI (by omega)).1
                                                                                          obtain ⟨h7, hg, hcs⟩ := hR42_1.resolve_right (fun q => by omega)
                                                                                          refine Or.inl ⟨by decide, hg, fun c hlt => ?_⟩
                                                                                          by_cases q : c = a42_8.toInt.toNat
                                                                                          · rw [q, ← hi]
                                                                                            exact Or.inl (by rw [← q16, ← q17]; assumption)
                                                                                          · exact hcs c (by omega)) (by have qc0 : (1 : Int32).toInt = 1 := (by decide); omega) (by have qc0 : (1 : Int32).toInt = 1 := (by decide); omega) (by have qc0 : (1 : Int32).toInt = 1 := (by decide); omega)
          · skip
            have b21x : zB v17 1 1 := by have q1 := b17x; have q2 := (zB.of (x := 0) 0 (by decide)); simp only [z32lt, z32le, z32eq, Int32.reduceToInt, Int32.toInt_zero] at h62_17; constructor <;> omega
            refine z_aload_n (pc := 65) C dX10_named_65 rfl ?_
            refine z_getR (pc := 66) C zf_X10_7 rfl rfl (by decide) dX10_named_66 ?_
            refine z_bipush (pc := 69) (v := 6) C dX10_named_69 (by decide) ?_
            refine z_iload (pc := 71) C dX10_named_71 rfl ?_
            refine z_imul (pc := 73) C dX10_named_73 ?_
            refine w_gp (fun v => v = (6 : Int32) * a42_8) rfl (fun v22 q22 => ?_)
            have e22 : v22.toInt = 6 * a42_8.toInt := by rw [q22]; exact (zmul_kb 6 (by decide) (by decide) b9x (by decide) (by decide))
            have b22x : zB v22 0 138 := zmul_bb e22 (by decide) b9x
            refine z_iald (pc := 74) C rfl (by decide) (zIx b22x (by decide) (by decide)) dX10_named_74 ?_
            have kq74_22 : v22.toNatClampNeg = v22.toInt.toNat := rfl
            refine w_gp (fun v => v = g42_ 26 0 v22.toNatClampNeg) rfl (fun v23 q23 => ?_)
            have b23x : zB v23 0 5 := by rw [q23]; exact (by have hq9 := hI42_ 26 0 v22.toNatClampNeg; rw [zrg26 (r := 0) (by have hq : v22.toNatClampNeg = v22.toInt.toNat := rfl; have hq2 := b22x; omega)] at hq9; exact hq9)
            refine z_iload_n (pc := 75) C dX10_named_75 rfl ?_
            refine z_icmp_ne (pc := 76) 83 C dX10_named_76 (by decide) (fun h76_23 => ?_) (fun h76_23 => ?_)
            · skip
              refine z_iconst (pc := 83) (v := 0) C dX10_named_83 (by decide) ?_
              refine z_istore (pc := 84) C dX10_named_84 (by rw [hn]; decide) rfl ?_
              refine z_iinc (pc := 86) (v := 1) C dX10_named_86 rfl (by decide) (by rw [hn]; decide) rfl ?_
              obtain ⟨v25, hv25, e25⟩ : ∃ v : Int32, v = a42_8 + 1 ∧ v.toInt = a42_8.toInt + 1 := ⟨_, rfl, zadd_eb b9x (zB.of (x := 1) 1 (by decide)) (by decide) (by decide)⟩
              rw [← hv25]
              have b25x : zB v25 1 24 := by have q9 := b9x; constructor <;> omega
              refine z_goto (pc := 89) 42 C dX10_named_89 (by decide) ?_
              exact ih0 0 (zB.wk (a' := 0) (b' := 1) (zB.of (x := 0) 0 (by decide)) (by decide) (by decide)) v25 (zB.wk (a' := 0) (b' := 24) b25x (by decide) (by decide)) g42_ hI42_ hF42_ (zB.wk c11x (by decide) (by decide)) (by exact hR42_0) (by
                                                                                          have hi : a42_8 = nI a42_8.toInt.toNat := (nI_ofI (by omega)).1
                                                                                          have hx : (v22).toNatClampNeg = 6 * a42_8.toInt.toNat := by omega
                                                                                          have hq := q23
                                                                                          rw [hx, hR42_0] at hq
                                                                                          refine Or.inr ⟨by decide, fun hG => ?_⟩
                                                                                          have hh := hG.2 a42_8.toInt.toNat (by omega)
                                                                                          rw [← hi] at hh
                                                                                          rcases hh with h | h
                                                                                          · exact absurd (show v17 = 0 by rw [q17, q16]; exact h) (by assumption)
                                                                                          · exact absurd (hq.trans h) (by assumption)) (by have qc0 : (0 : Int32).toInt = 0 := (by decide); omega) (by have qc0 : (0 : Int32).toInt = 0 := (by decide); omega) (by have qc0 : (0 : Int32).toInt = 0 := (by decide); omega)
            · skip
              have rr26 : v23.toInt = a2.toInt := by simp only [z32lt, z32le, z32eq] at h76_23; omega
              have b27x : zB a2 0 5 := by have q1 := b23x; have q2 := b2; simp only [z32lt, z32le, z32eq, Int32.reduceToInt, Int32.toInt_zero] at h76_23; constructor <;> omega
              refine z_iconst (pc := 79) (v := 1) C dX10_named_79 (by decide) ?_
              refine z_goto (pc := 80) 84 C dX10_named_80 (by decide) ?_
              refine z_istore (pc := 84) C dX10_named_84 (by rw [hn]; decide) rfl ?_
              refine z_iinc (pc := 86) (v := 1) C dX10_named_86 rfl (by decide) (by rw [hn]; decide) rfl ?_
              obtain ⟨v28, hv28, e28⟩ : ∃ v : Int32, v = a42_8 + 1 ∧ v.toInt = a42_8.toInt + 1 := ⟨_, rfl, zadd_eb b9x (zB.of (x := 1) 1 (by decide)) (by decide) (by decide)⟩
              rw [← hv28]
              have b28x : zB v28 1 24 := by have q9 := b9x; constructor <;> omega
              refine z_goto (pc := 89) 42 C dX10_named_89 (by decide) ?_
              exact ih0 1 (zB.wk (a' := 0) (b' := 1) (zB.of (x := 1) 1 (by decide)) (by decide) (by decide)) v28 (zB.wk (a' := 0) (b' := 24) b28x (by decide) (by decide)) g42_ hI42_ hF42_ (zB.wk c11x (by decide) (by decide)) (by exact hR42_0) (by
                                                                                          have hi : a42_8 = nI a42_8.toInt.toNat := (nI_ofI (by omega)).1
                                                                                          have hx : (v22).toNatClampNeg = 6 * a42_8.toInt.toNat := by omega
                                                                                          have hq := q23
                                                                                          rw [hx, hR42_0] at hq
                                                                                          obtain ⟨h7, hg, hcs⟩ := hR42_1.resolve_right (fun q => by omega)
                                                                                          refine Or.inl ⟨by decide, hg, fun c hlt => ?_⟩
                                                                                          by_cases q : c = a42_8.toInt.toNat
                                                                                          · rw [q, ← hi]
                                                                                            exact Or.inr (hq.symm.trans (by assumption))
                                                                                          · exact hcs c (by omega)) (by have qc0 : (1 : Int32).toInt = 1 := (by decide); omega) (by have qc0 : (1 : Int32).toInt = 1 := (by decide); omega) (by have qc0 : (1 : Int32).toInt = 1 := (by decide); omega)
  have J0 := J 87
  show Z X 0 [some (zr 25 0), some (zi a1), some (zi a2), some (zi a3), some (zi a4), some (zi a5), some (zi a6), none, none] [] f
  refine z_iload_n (pc := 0) C dX10_named_0 rfl ?_
  refine z_iload_n (pc := 1) C dX10_named_1 rfl ?_
  refine z_iload (pc := 2) C dX10_named_2 rfl ?_
  refine z_iload (pc := 4) C dX10_named_4 rfl ?_
  refine z_iload (pc := 6) C dX10_named_6 rfl ?_
  refine z_callSb (pc := 8) C zk_X10_101 (m_X10_mayBe _ _ _ _ _ _ _) rfl rfl (Nat.le_of_ble_eq_true rfl) dX10_named_8 (fun h8_28 => ?_) (fun h8_28 => ?_)
  · skip
    have b30x : zB a1 0 5 := h8_28.1
    have b31x : zB a2 0 5 := h8_28.2.1
    have b32x : zB a4 0 31 := h8_28.2.2.2.1
    have b33x : zB a5 0 99 := h8_28.2.2.2.2.1
    have b34x : zB a6 0 7 := h8_28.2.2.2.2.2
    refine z_if_eq (pc := 11) 36 C dX10_named_11 (by decide) (fun h => absurd h (by decide)) (fun _ => ?_)
    refine z_iload_n (pc := 14) C dX10_named_14 rfl ?_
    refine z_i2l (pc := 15) C dX10_named_15 ?_
    refine z_lconst (pc := 16) (v := 1) C dX10_named_16 (by decide) ?_
    refine z_iconst (pc := 17) (v := 1) C dX10_named_17 (by decide) ?_
    refine z_aload_n (pc := 18) C dX10_named_18 rfl ?_
    refine z_getI (pc := 19) C zf_X10_80 rfl rfl (by decide) dX10_named_19 ?_
    refine w_gp (fun v => v = f 25 0 0) rfl (fun v35 q35 => ?_)
    have e35 : v35.toInt = (f 25 0 0).toInt := by rw [q35]
    have b35x : zB v35 0 24 := by first | exact zB.eqv e35 ct25_0_0 | (have q9 := ct25_0_0; constructor <;> omega)
    refine z_ishl (pc := 22) C dX10_named_22 ?_
    refine w_gp (fun v => v = (1 : Int32) <<< (v35 &&& 31)) rfl (fun v36 q36 => ?_)
    have b36x : zB v36 0 16777216 := by rw [q36]; exact (zshl_b b35x 24 (by decide) (by decide))
    refine z_iconst (pc := 23) (v := 1) C dX10_named_23 (by decide) ?_
    refine z_isub (pc := 24) C dX10_named_24 ?_
    refine w_gp (fun v => v = v36 - (1 : Int32)) rfl (fun v37 q37 => ?_)
    have e37 : v37.toInt = v36.toInt - 1 := by rw [q37]; exact (zsub_eb b36x (zB.of (x := 1) 1 (by decide)) (by decide) (by decide))
    have b37x : zB v37 (-1) 16777215 := by have q1 := b36x; have q2 := (zB.of (x := 1) 1 (by decide)); constructor <;> omega
    refine z_i2l (pc := 25) C dX10_named_25 ?_
    refine z_callSb (pc := 26) C zk_X10_69 (m_X10_in _ _ _ _ _) rfl rfl (Nat.le_of_ble_eq_true rfl) dX10_named_26 (fun h26_37 => ?_) (fun h26_37 => ?_)
    · skip
      have hc26_1 : (1 ≤ a3.toInt ∧ a3.toInt ≤ v37.toInt) := by have q9 := h26_37; simp only [z64] at q9; exact q9
      have b39x : zB a3 1 16777215 := zin64v h26_37 rfl b37x
      have b39xr := zin64r h26_37
      refine z_if_eq (pc := 29) 36 C dX10_named_29 (by decide) (fun h => absurd h (by decide)) (fun _ => ?_)
      refine z_iconst (pc := 32) (v := 1) C dX10_named_32 (by decide) ?_
      refine z_goto (pc := 33) 37 C dX10_named_33 (by decide) ?_
      refine z_istore (pc := 37) C dX10_named_37 (by rw [hn]; decide) rfl ?_
      refine z_iconst (pc := 39) (v := 0) C dX10_named_39 (by decide) ?_
      refine z_istore (pc := 40) C dX10_named_40 (by rw [hn]; decide) rfl ?_
      exact J0 1 (zB.wk (a' := 0) (b' := 1) (zB.of (x := 1) 1 (by decide)) (by decide) (by decide)) 0 (zB.wk (a' := 0) (b' := 24) (zB.of (x := 0) 0 (by decide)) (by decide) (by decide)) f hI hF ct25_0_0 (by rfl) (by
                                                                                          refine Or.inl ⟨by decide, ⟨by assumption, ?_⟩, fun c hc => absurd hc (Nat.not_lt_zero c)⟩
                                                                                          have hcx := hc26_1
                                                                                          rw [q37, q36, q35] at hcx
                                                                                          exact hcx) (by have qc0 : (0 : Int32).toInt = 0 := (by decide); have qc1 : (1 : Int32).toInt = 1 := (by decide); omega) (by have qc0 : (0 : Int32).toInt = 0 := (by decide); have qc1 : (1 : Int32).toInt = 1 := (by decide); omega) (by have qc0 : (0 : Int32).toInt = 0 := (by decide); have qc1 : (1 : Int32).toInt = 1 := (by decide); omega)
    · skip
      have hc26_0 : ¬ (1 ≤ a3.toInt ∧ a3.toInt ≤ v37.toInt) := by have q9 := h26_37; simp only [z64] at q9; exact q9
      refine z_if_eq (pc := 29) 36 C dX10_named_29 (by decide) (fun _ => ?_) (fun h => absurd (by decide) h)
      refine z_iconst (pc := 36) (v := 0) C dX10_named_36 (by decide) ?_
      refine z_istore (pc := 37) C dX10_named_37 (by rw [hn]; decide) rfl ?_
      refine z_iconst (pc := 39) (v := 0) C dX10_named_39 (by decide) ?_
      refine z_istore (pc := 40) C dX10_named_40 (by rw [hn]; decide) rfl ?_
      exact J0 0 (zB.wk (a' := 0) (b' := 1) (zB.of (x := 0) 0 (by decide)) (by decide) (by decide)) 0 (zB.wk (a' := 0) (b' := 24) (zB.of (x := 0) 0 (by decide)) (by decide) (by decide)) f hI hF ct25_0_0 (by rfl) (by
                                                                                          refine Or.inr ⟨by decide, fun hG => hc26_0 ?_⟩
                                                                                          rw [q37, q36, q35]
                                                                                          exact hG.1.2) (by have qc0 : (0 : Int32).toInt = 0 := (by decide); omega) (by have qc0 : (0 : Int32).toInt = 0 := (by decide); omega) (by have qc0 : (0 : Int32).toInt = 0 := (by decide); omega)
  · skip
    refine z_if_eq (pc := 11) 36 C dX10_named_11 (by decide) (fun _ => ?_) (fun h => absurd (by decide) h)
    refine z_iconst (pc := 36) (v := 0) C dX10_named_36 (by decide) ?_
    refine z_istore (pc := 37) C dX10_named_37 (by rw [hn]; decide) rfl ?_
    refine z_iconst (pc := 39) (v := 0) C dX10_named_39 (by decide) ?_
    refine z_istore (pc := 40) C dX10_named_40 (by rw [hn]; decide) rfl ?_
    exact J0 0 (zB.wk (a' := 0) (b' := 1) (zB.of (x := 0) 0 (by decide)) (by decide) (by decide)) 0 (zB.wk (a' := 0) (b' := 24) (zB.of (x := 0) 0 (by decide)) (by decide) (by decide)) f hI hF ct25_0_0 (by rfl) (by
                                                                                          exact Or.inr ⟨by decide, fun hG => absurd hG.1.1 (by assumption)⟩) (by have qc0 : (0 : Int32).toInt = 0 := (by decide); omega) (by have qc0 : (0 : Int32).toInt = 0 := (by decide); omega) (by have qc0 : (0 : Int32).toInt = 0 := (by decide); omega)
