theorem w_fillA {X : zX} {pc : Nat} {L : List (Option zV)} {st : List zV} {f : zM} {S : List (Nat × Option Nat)} {f0 : zM} (hI : zInv f) (hF : zFr S f0 f) (hs : ∀ j, zS S 32 j = true) (kk : ∀ g, zInv g → zFr S f0 g → (∀ i, i < 21504 → g 32 0 i = -4) → Z X pc L st g) : Z X pc L st (zfill f 32 0 21504 (-4)) := by
  refine kk _ ?_ ?_ ?_
  · intro a b c
    unfold zfill
    split
    · rename_i q
      obtain ⟨rfl, rfl, q3⟩ := q
      show (-4 : Int) ≤ (-4 : Int32).toInt ∧ (-4 : Int32).toInt ≤ 21503
      decide
    · exact hI a b c
  · intro a b c hq
    unfold zfill
    rw [if_neg (fun q => by obtain ⟨rfl, _, _⟩ := q; rw [hs c] at hq; cases hq)]
    exact hF a b c hq
  · intro i hi
    unfold zfill
    rw [if_pos ⟨rfl, rfl, hi⟩]
def zfi (q : Nat → Int32) (x : Int32) : Nat → Nat → Nat
  | 0, i => i
  | m + 1, i => if q i = x then i else zfi q x m (i + 1)
theorem zfi_le (q : Nat → Int32) (x : Int32) : ∀ m i j, q j = x → i ≤ j → j < i + m → zfi q x m i ≤ j ∧ q (zfi q x m i) = x
  | 0, i, j, h1, h2, h3 => by omega
  | m + 1, i, j, h1, h2, h3 => by
    unfold zfi
    split
    · exact ⟨h2, by assumption⟩
    · by_cases hij : i = j
      · subst hij; contradiction
      · exact zfi_le q x m (i + 1) j h1 (by omega) (by omega)
/-- the place in the queue -/
def zrk (f : zM) (x : Int32) : Int := (zfi (f 34 0) x 21504 0 : Nat)
theorem zrk_b {f : zM} {x : Int32} (hI : zInv f) (h : zmq f x = 1) : 0 ≤ zrk f x ∧ zrk f x ≤ 21503 := by
  obtain ⟨j, h1, h2⟩ := zmq_i.mp h
  have q : zB (f 25 0 13) 0 21504 := hI 25 0 13
  have := (zfi_le (f 34 0) x 21504 0 j h2.symm (Nat.zero_le j) (by have := q.2; omega)).1
  have := q.2
  unfold zrk
  constructor <;> omega
theorem zmq_b {f : zM} {x : Int32} (hI : zInv f) (h : zmq f x = 1) : zB x 0 21503 := by
  obtain ⟨j, h1, h2⟩ := zmq_i.mp h
  rw [h2]
  exact hI 34 0 j
theorem zmq_par {f : zM} {x : Int32} (hI : zInv f) (hf : zfq f = 1) (h : zmq f x = 1) : zmq f (f 32 0 x.toNatClampNeg) = 1 ∧ (¬ f 32 0 x.toNatClampNeg = x → zrk f (f 32 0 x.toNatClampNeg) < zrk f x) := by
  obtain ⟨j, h1, h2⟩ := zmq_i.mp h
  have q : zB (f 25 0 13) 0 21504 := hI 25 0 13
  have q2 := q.2
  obtain ⟨u1, u2⟩ := zfi_le (f 34 0) x 21504 0 j h2.symm (Nat.zero_le j) (by omega)
  have hr : zrk f x = ((zfi (f 34 0) x 21504 0 : Nat) : Int) := rfl
  generalize zfi (f 34 0) x 21504 0 = i at u1 u2 hr
  obtain ⟨v1, v2⟩ := (zfq_i.mp hf).2 i (by omega)
  rw [u2] at v2
  rcases v2 with ⟨w1, w2⟩ | ⟨j2, w1, w2⟩
  · exact ⟨by rw [w2]; exact h, fun hn => absurd w2 hn⟩
  · refine ⟨zmq_i.mpr ⟨j2, by omega, w2⟩, fun _ => ?_⟩
    rw [hr]
    have := (zfi_le (f 34 0) (f 32 0 x.toNatClampNeg) 21504 0 j2 w2.symm (Nat.zero_le j2) (by omega)).1
    unfold zrk
    omega
set_option maxRecDepth 100000 in
set_option maxHeartbeats 4000000 in
theorem w_X10_findStates (d : Nat) (f : zM)  (hI : zInv f) : ZM (d + 5) yX10_findStates cX10_findStates 11 none [zr 25 0] f (fun r g => r = none ∧ zInv g ∧ zFr [(25, some 13), (31, none), (32, none), (33, none), (34, none)] f g ∧ (zfq g = 1)) := by
  refine ZM.intro (by decide +kernel) (Nat.le_of_ble_eq_true rfl) ?_
  intro X C hr hn
  have hF : zFr [(25, some 13), (31, none), (32, none), (33, none), (34, none)] f f := zFr.rf _ _
  have ct25_0_13 : zB (f 25 0 13) 0 21504 := hI 25 0 13
  have J : ∀ t : Nat, (∀ a71_1 : Int32, zB a71_1 0 21503 → ∀ a71_2 : Int32, zB a71_2 0 21504 → ∀ g : zM, zInv g → zFr [(25, some 13), (31, none), (32, none), (33, none), (34, none)] f g → zB (g 25 0 13) 0 21504 → (zfq g = 1) → (95 + 98 * (21504 - a71_2.toInt) : Int) < t → Z X 71 [some (zr 25 0), some (zi a71_1), some (zi a71_2), none, none, none, none, none, none, none, none] [] g) ∧ (∀ a124_1 : Int32, zB a124_1 0 21503 → ∀ a124_2 : Int32, zB a124_2 0 21503 → ∀ a124_3 : Int32, zB a124_3 0 21503 → ∀ a124_4 : Int32, zB a124_4 0 255 → ∀ a124_5 : Int32, zB a124_5 (-1) 5 → ∀ a124_6 : Int32, zB a124_6 0 1 → ∀ a124_7 : Int32, zB a124_7 0 5 → ∀ a124_8 : Int32, zB a124_8 0 12 → ∀ g : zM, zInv g → zFr [(25, some 13), (31, none), (32, none), (33, none), (34, none)] f g → zB (g 25 0 13) 0 21504 → (zfq g = 1) → (zmq g a124_3 = 1) → (3 + 7 * (12 - a124_8.toInt) + 98 * (21504 - a124_2.toInt) : Int) < t → Z X 124 [some (zr 25 0), some (zi a124_1), some (zi a124_2), some (zi a124_3), some (zi a124_4), some (zi a124_5), some (zi a124_6), some (zi a124_7), some (zi a124_8), none, none] [] g) ∧ (∀ a201_1 : Int32, zB a201_1 0 21503 → ∀ a201_2 : Int32, zB a201_2 0 21503 → ∀ a201_3 : Int32, zB a201_3 0 21503 → ∀ a201_4 : Int32, zB a201_4 0 255 → ∀ a201_5 : Int32, zB a201_5 (-1) 5 → ∀ a201_6 : Int32, zB a201_6 0 1 → ∀ a201_7 : Int32, zB a201_7 0 5 → ∀ a201_8 : Int32, zB a201_8 0 11 → ∀ a201_9 : Int32, zB a201_9 1 255 → ∀ a201_10 : Int32, zB a201_10 0 7 → ∀ a201_s2 : Int32, zB a201_s2 0 5 → ∀ a201_s3 : Int32, zB a201_s3 0 1 → ∀ a201_s4 : Int32, zB a201_s4 (-4) 5 → ∀ g : zM, zInv g → zFr [(25, some 13), (31, none), (32, none), (33, none), (34, none)] f g → zB (g 25 0 13) 0 21504 → (zfq g = 1) → (zmq g a201_3 = 1) → (2 + 7 * (12 - a201_8.toInt) + 98 * (21504 - a201_2.toInt) : Int) < t → Z X 201 [some (zr 25 0), some (zi a201_1), some (zi a201_2), some (zi a201_3), some (zi a201_4), some (zi a201_5), some (zi a201_6), some (zi a201_7), some (zi a201_8), some (zi a201_9), some (zi a201_10)] [zi a201_s4, zi a201_s3, zi a201_s2, zr 25 0, zr 25 0] g) ∧ (∀ a216_1 : Int32, zB a216_1 0 21503 → ∀ a216_2 : Int32, zB a216_2 0 21503 → ∀ a216_3 : Int32, zB a216_3 0 21503 → ∀ a216_4 : Int32, zB a216_4 0 255 → ∀ a216_5 : Int32, zB a216_5 (-1) 5 → ∀ a216_6 : Int32, zB a216_6 0 1 → ∀ a216_7 : Int32, zB a216_7 0 5 → ∀ a216_8 : Int32, zB a216_8 0 11 → ∀ a216_9 : Int32, zB a216_9 1 255 → ∀ a216_10 : Int32, zB a216_10 0 7 → ∀ a216_s2 : Int32, zB a216_s2 0 5 → ∀ a216_s3 : Int32, zB a216_s3 0 1 → ∀ a216_s4 : Int32, zB a216_s4 (-4) 5 → ∀ a216_s5 : Int32, zB a216_s5 1 255 → ∀ g : zM, zInv g → zFr [(25, some 13), (31, none), (32, none), (33, none), (34, none)] f g → zB (g 25 0 13) 0 21504 → (zfq g = 1) → (zmq g a216_3 = 1) → (1 + 7 * (12 - a216_8.toInt) + 98 * (21504 - a216_2.toInt) : Int) < t → Z X 216 [some (zr 25 0), some (zi a216_1), some (zi a216_2), some (zi a216_3), some (zi a216_4), some (zi a216_5), some (zi a216_6), some (zi a216_7), some (zi a216_8), some (zi a216_9), some (zi a216_10)] [zi a216_s5, zi a216_s4, zi a216_s3, zi a216_s2, zr 25 0, zr 25 0] g) ∧ (∀ a225_1 : Int32, zB a225_1 0 21503 → ∀ a225_2 : Int32, zB a225_2 0 21503 → ∀ a225_3 : Int32, zB a225_3 0 21503 → ∀ a225_4 : Int32, zB a225_4 0 255 → ∀ a225_5 : Int32, zB a225_5 (-1) 5 → ∀ a225_6 : Int32, zB a225_6 0 1 → ∀ a225_7 : Int32, zB a225_7 0 5 → ∀ a225_8 : Int32, zB a225_8 0 11 → ∀ a225_9 : Int32, zB a225_9 0 255 → ∀ g : zM, zInv g → zFr [(25, some 13), (31, none), (32, none), (33, none), (34, none)] f g → zB (g 25 0 13) 0 21504 → (zfq g = 1) → (zmq g a225_3 = 1) → (0 + 7 * (12 - a225_8.toInt) + 98 * (21504 - a225_2.toInt) : Int) < t → Z X 225 [some (zr 25 0), some (zi a225_1), some (zi a225_2), some (zi a225_3), some (zi a225_4), some (zi a225_5), some (zi a225_6), some (zi a225_7), some (zi a225_8), some (zi a225_9), none] [] g) := by
    intro t
    induction t with
    | zero =>
      refine ⟨?_, ?_, ?_, ?_, ?_⟩ <;> (intros; exfalso; omega)
    | succ t ih =>
      obtain ⟨ih0, ih1, ih2, ih3, ih4⟩ := ih
      refine ⟨?_, ?_, ?_, ?_, ?_⟩
      · skip
        intro a71_1 b71_1 a71_2 b71_2 g71_ hI71_ hF71_ f71_25_0_13 hR71_0 hM71_
        refine z_iload_n (pc := 71) C dX10_findStates_71 rfl ?_
        refine z_aload_n (pc := 72) C dX10_findStates_72 rfl ?_
        refine z_getI (pc := 73) C zf_X10_168 rfl rfl (by decide) dX10_findStates_73 ?_
        refine w_gp (fun v => v.toInt = (g71_ 25 0 13).toInt) rfl (fun v1 e1 => ?_)
        have b1x : zB v1 0 21504 := by have q9 : zB (g71_ 25 0 13) 0 21504 := f71_25_0_13; constructor <;> omega
        refine z_icmp_ge (pc := 76) 237 C dX10_findStates_76 (by decide) (fun h76_1 => ?_) (fun h76_1 => ?_)
        · skip
          have rr3 : a71_2.toInt ≥ v1.toInt := by simp only [z32lt, z32le, z32eq] at h76_1; omega
          exact z_vret (pc := 237) C hr dX10_findStates_237 ⟨rfl, hI71_, hF71_, (by omega)⟩
        · skip
          have rr4 : a71_2.toInt < v1.toInt := by simp only [z32lt, z32le, z32eq] at h76_1; omega
          have b5x : zB a71_2 0 21503 := by have q1 := b71_2; have q2 := b1x; simp only [z32lt, z32le, z32eq, Int32.reduceToInt, Int32.toInt_zero] at h76_1; constructor <;> omega
          have b6x : zB v1 1 21504 := by have q1 := b71_2; have q2 := b1x; simp only [z32lt, z32le, z32eq, Int32.reduceToInt, Int32.toInt_zero] at h76_1; constructor <;> omega
          have c7x : zB (g71_ 25 0 13) 1 21504 := by first | assumption | (constructor <;> omega)
          refine z_aload_n (pc := 79) C dX10_findStates_79 rfl ?_
          refine z_getR (pc := 80) C zf_X10_34 rfl rfl (by decide) dX10_findStates_80 ?_
          refine z_iload_n (pc := 83) C dX10_findStates_83 rfl ?_
          refine z_iald (pc := 84) C rfl (by decide) (zIx b5x (by decide) (by decide)) dX10_findStates_84 ?_
          refine w_gp (fun v => zB v 0 21503 ∧ zmq g71_ v = 1) ⟨hI71_ 34 _ _, zmq_i.mpr ⟨a71_2.toNatClampNeg, by have hq : a71_2.toNatClampNeg = a71_2.toInt.toNat := rfl; omega, rfl⟩⟩ (fun v8 e8 => ?_)
          have b8x := e8.1
          have z8x := e8.2
          refine z_istore_n (pc := 85) C dX10_findStates_85 (by rw [hn]; decide) rfl ?_
          refine z_iload_n (pc := 86) C dX10_findStates_86 rfl ?_
          refine z_sipush (pc := 87) (v := 256) C dX10_findStates_87 (by decide) ?_
          refine z_irem (pc := 90) C dX10_findStates_90 (by decide) ?_
          refine w_gb 0 255 (zrem_b 256 b8x (by decide) (by decide) (by decide)) (fun v9 b9x => ?_)
          refine z_istore (pc := 91) C dX10_findStates_91 (by rw [hn]; decide) rfl ?_
          refine z_iload_n (pc := 93) C dX10_findStates_93 rfl ?_
          refine z_sipush (pc := 94) (v := 256) C dX10_findStates_94 (by decide) ?_
          refine z_idiv (pc := 97) C dX10_findStates_97 (by decide) ?_
          refine w_gb 0 83 (zdiv_b 256 b8x (by decide) (by decide) (by decide)) (fun v10 b10x => ?_)
          refine z_bipush (pc := 98) (v := 7) C dX10_findStates_98 (by decide) ?_
          refine z_irem (pc := 100) C dX10_findStates_100 (by decide) ?_
          refine w_gb 0 6 (zrem_b 7 b10x (by decide) (by decide) (by decide)) (fun v11 b11x => ?_)
          refine z_iconst (pc := 101) (v := 1) C dX10_findStates_101 (by decide) ?_
          refine z_isub (pc := 102) C dX10_findStates_102 ?_
          refine w_gp (fun v => v.toInt = v11.toInt - 1) (zsub_eb b11x (zB.of (x := 1) 1 (by decide)) (by decide) (by decide)) (fun v12 e12 => ?_)
          have b12x : zB v12 (-1) 5 := by have q1 := b11x; have q2 := (zB.of (x := 1) 1 (by decide)); constructor <;> omega
          refine z_istore (pc := 103) C dX10_findStates_103 (by rw [hn]; decide) rfl ?_
          refine z_iload_n (pc := 105) C dX10_findStates_105 rfl ?_
          refine z_sipush (pc := 106) (v := 1792) C dX10_findStates_106 (by decide) ?_
          refine z_idiv (pc := 109) C dX10_findStates_109 (by decide) ?_
          refine w_gb 0 11 (zdiv_b 1792 b8x (by decide) (by decide) (by decide)) (fun v13 b13x => ?_)
          refine z_iconst (pc := 110) (v := 2) C dX10_findStates_110 (by decide) ?_
          refine z_irem (pc := 111) C dX10_findStates_111 (by decide) ?_
          refine w_gb 0 1 (zrem_b 2 b13x (by decide) (by decide) (by decide)) (fun v14 b14x => ?_)
          refine z_istore (pc := 112) C dX10_findStates_112 (by rw [hn]; decide) rfl ?_
          refine z_iload_n (pc := 114) C dX10_findStates_114 rfl ?_
          refine z_sipush (pc := 115) (v := 3584) C dX10_findStates_115 (by decide) ?_
          refine z_idiv (pc := 118) C dX10_findStates_118 (by decide) ?_
          refine w_gb 0 5 (zdiv_b 3584 b8x (by decide) (by decide) (by decide)) (fun v15 b15x => ?_)
          refine z_istore (pc := 119) C dX10_findStates_119 (by rw [hn]; decide) rfl ?_
          refine z_iconst (pc := 121) (v := 0) C dX10_findStates_121 (by decide) ?_
          refine z_istore (pc := 122) C dX10_findStates_122 (by rw [hn]; decide) rfl ?_
          exact ih1 a71_1 b71_1 a71_2 b5x v8 b8x v9 b9x v12 b12x v14 b14x v15 b15x 0 (zB.wk (a' := 0) (b' := 12) (zB.of (x := 0) 0 (by decide)) (by decide) (by decide)) g71_ hI71_ hF71_ (zB.wk c7x (by decide) (by decide)) (by have qc0 : (0 : Int32).toInt = 0 := (by decide); omega) (by have qc0 : (0 : Int32).toInt = 0 := (by decide); omega) (by have qc0 : (0 : Int32).toInt = 0 := (by decide); omega)
      · skip
        intro a124_1 b124_1 a124_2 b124_2 a124_3 b124_3 a124_4 b124_4 a124_5 b124_5 a124_6 b124_6 a124_7 b124_7 a124_8 b124_8 g124_ hI124_ hF124_ f124_25_0_13 hR124_0 hR124_1 hM124_
        refine z_iload (pc := 124) C dX10_findStates_124 rfl ?_
        refine z_aload_n (pc := 126) C dX10_findStates_126 rfl ?_
        refine z_getI (pc := 127) C zf_X10_77 rfl rfl (by decide) dX10_findStates_127 ?_
        refine w_gb 0 12 (hI124_ 25 _ 4) (fun v16 b16x => ?_)
        refine z_icmp_ge (pc := 130) 231 C dX10_findStates_130 (by decide) (fun h130_16 => ?_) (fun h130_16 => ?_)
        · skip
          have rr18 : a124_8.toInt ≥ v16.toInt := by simp only [z32lt, z32le, z32eq] at h130_16; omega
          refine z_iinc (pc := 231) (v := 1) C dX10_findStates_231 rfl (by decide) (by rw [hn]; decide) rfl ?_
          obtain ⟨v19, hv19, e19⟩ : ∃ v : Int32, v = a124_2 + 1 ∧ v.toInt = a124_2.toInt + 1 := ⟨_, rfl, zadd_eb b124_2 (zB.of (x := 1) 1 (by decide)) (by decide) (by decide)⟩
          rw [← hv19]
          have b19x : zB v19 1 21504 := by have q9 := b124_2; constructor <;> omega
          refine z_goto (pc := 234) 71 C dX10_findStates_234 (by decide) ?_
          refine w_mask [3, 4, 5, 6, 7, 8] ?_
          exact ih0 a124_1 b124_1 v19 (zB.wk (a' := 0) (b' := 21504) b19x (by decide) (by decide)) g124_ hI124_ hF124_ f124_25_0_13 (by omega) (by omega)
        · skip
          have rr20 : a124_8.toInt < v16.toInt := by simp only [z32lt, z32le, z32eq] at h130_16; omega
          have b21x : zB a124_8 0 11 := by have q1 := b124_8; have q2 := b16x; simp only [z32lt, z32le, z32eq, Int32.reduceToInt, Int32.toInt_zero] at h130_16; constructor <;> omega
          have b22x : zB v16 1 12 := by have q1 := b124_8; have q2 := b16x; simp only [z32lt, z32le, z32eq, Int32.reduceToInt, Int32.toInt_zero] at h130_16; constructor <;> omega
          refine z_aload_n (pc := 133) C dX10_findStates_133 rfl ?_
          refine z_iload (pc := 134) C dX10_findStates_134 rfl ?_
          refine z_iload (pc := 136) C dX10_findStates_136 rfl ?_
          refine z_iload (pc := 138) C dX10_findStates_138 rfl ?_
          refine z_iload (pc := 140) C dX10_findStates_140 rfl ?_
          refine z_iload (pc := 142) C dX10_findStates_142 rfl ?_
          refine z_callV (pc := 144) C zk_X10_147 (w_X10_goes _ _ a124_8 b21x a124_7 b124_7 a124_6 b124_6 a124_5 (zB.wk (a' := (-4)) (b' := 5) b124_5 (by decide) (by decide)) a124_4 b124_4 hI124_) rfl rfl (by decide) rfl rfl (Nat.le_of_ble_eq_true rfl) dX10_findStates_144 (fun r23 g23 q23 => ?_)
          obtain ⟨⟨v23, rfl, b23x⟩, hI23, hF23q⟩ := q23
          obtain rfl := zFr_nil hF23q
          simp only [Option.toList, List.cons_append, List.nil_append]
          refine z_istore (pc := 147) C dX10_findStates_147 (by rw [hn]; decide) rfl ?_
          refine z_iload (pc := 149) C dX10_findStates_149 rfl ?_
          refine z_if_eq (pc := 151) 225 C dX10_findStates_151 (by decide) (fun h151_23 => ?_) (fun h151_23 => ?_)
          · skip
            have b25x : zB v23 0 0 := by have q1 := b23x; have q2 := (zB.of (x := 0) 0 (by decide)); simp only [z32lt, z32le, z32eq, Int32.reduceToInt, Int32.toInt_zero] at h151_23; constructor <;> omega
            exact ih4 a124_1 b124_1 a124_2 b124_2 a124_3 b124_3 a124_4 b124_4 a124_5 b124_5 a124_6 b124_6 a124_7 b124_7 a124_8 b21x v23 (zB.wk (a' := 0) (b' := 255) b25x (by decide) (by decide)) g124_ hI124_ hF124_ f124_25_0_13 (by omega) (by omega) (by omega)
          · skip
            have b26x : zB v23 1 255 := by have q1 := b23x; have q2 := (zB.of (x := 0) 0 (by decide)); simp only [z32lt, z32le, z32eq, Int32.reduceToInt, Int32.toInt_zero] at h151_23; constructor <;> omega
            refine z_aload_n (pc := 154) C dX10_findStates_154 rfl ?_
            refine z_getR (pc := 155) C zf_X10_16 rfl rfl (by decide) dX10_findStates_155 ?_
            refine z_bipush (pc := 158) (v := 8) C dX10_findStates_158 (by decide) ?_
            refine z_iload (pc := 160) C dX10_findStates_160 rfl ?_
            refine z_imul (pc := 162) C dX10_findStates_162 ?_
            refine w_gp (fun v => v.toInt = 8 * a124_8.toInt) (zmul_kb 8 (by decide) (by decide) b21x (by decide) (by decide)) (fun v27 e27 => ?_)
            have b27x : zB v27 0 88 := zmul_bb e27 (by decide) b21x
            refine z_bipush (pc := 163) (v := 7) C dX10_findStates_163 (by decide) ?_
            refine z_iadd (pc := 165) C dX10_findStates_165 ?_
            refine w_gp (fun v => v.toInt = v27.toInt + 7) (zadd_eb b27x (zB.of (x := 7) 7 (by decide)) (by decide) (by decide)) (fun v28 e28 => ?_)
            have b28x : zB v28 7 95 := by have q1 := b27x; have q2 := (zB.of (x := 7) 7 (by decide)); constructor <;> omega
            refine z_iald (pc := 166) C rfl (by decide) (zIx b28x (by decide) (by decide)) dX10_findStates_166 ?_
            refine w_gb 0 7 (by have hq9 := hI124_ 28 0 v28.toNatClampNeg; rw [zrg28 (r := 7) (by have hq : v28.toNatClampNeg = v28.toInt.toNat := rfl; have hq2 := b28x; omega)] at hq9; exact hq9) (fun v29 b29x => ?_)
            refine z_istore (pc := 167) C dX10_findStates_167 (by rw [hn]; decide) rfl ?_
            refine z_aload_n (pc := 169) C dX10_findStates_169 rfl ?_
            refine z_aload_n (pc := 170) C dX10_findStates_170 rfl ?_
            refine z_aload_n (pc := 171) C dX10_findStates_171 rfl ?_
            refine z_getR (pc := 172) C zf_X10_16 rfl rfl (by decide) dX10_findStates_172 ?_
            refine z_bipush (pc := 175) (v := 8) C dX10_findStates_175 (by decide) ?_
            refine z_iload (pc := 177) C dX10_findStates_177 rfl ?_
            refine z_imul (pc := 179) C dX10_findStates_179 ?_
            refine w_gp (fun v => v.toInt = 8 * a124_8.toInt) (zmul_kb 8 (by decide) (by decide) b21x (by decide) (by decide)) (fun v30 e30 => ?_)
            have b30x : zB v30 0 88 := zmul_bb e30 (by decide) b21x
            refine z_iconst (pc := 180) (v := 2) C dX10_findStates_180 (by decide) ?_
            refine z_iadd (pc := 181) C dX10_findStates_181 ?_
            refine w_gp (fun v => v.toInt = v30.toInt + 2) (zadd_eb b30x (zB.of (x := 2) 2 (by decide)) (by decide) (by decide)) (fun v31 e31 => ?_)
            have b31x : zB v31 2 90 := by have q1 := b30x; have q2 := (zB.of (x := 2) 2 (by decide)); constructor <;> omega
            refine z_iald (pc := 182) C rfl (by decide) (zIx b31x (by decide) (by decide)) dX10_findStates_182 ?_
            refine w_gb 0 5 (by have hq9 := hI124_ 28 0 v31.toNatClampNeg; rw [zrg28 (r := 2) (by have hq : v31.toNatClampNeg = v31.toInt.toNat := rfl; have hq2 := b31x; omega)] at hq9; exact hq9) (fun v32 b32x => ?_)
            refine z_iload (pc := 183) C dX10_findStates_183 rfl ?_
            refine z_iconst (pc := 185) (v := 1) C dX10_findStates_185 (by decide) ?_
            refine z_iand (pc := 186) C dX10_findStates_186 ?_
            refine w_gb 0 1 (zand_b b29x (zB.of (x := 1) 1 (by decide)) (by decide)) (fun v33 b33x => ?_)
            refine z_iload (pc := 187) C dX10_findStates_187 rfl ?_
            refine z_iconst (pc := 189) (v := 4) C dX10_findStates_189 (by decide) ?_
            refine z_iand (pc := 190) C dX10_findStates_190 ?_
            refine w_gb 0 4 (zand_b b29x (zB.of (x := 4) 4 (by decide)) (by decide)) (fun v34 b34x => ?_)
            refine z_if_eq (pc := 191) 199 C dX10_findStates_191 (by decide) (fun h191_34 => ?_) (fun h191_34 => ?_)
            · skip
              have b36x : zB v34 0 0 := by have q1 := b34x; have q2 := (zB.of (x := 0) 0 (by decide)); simp only [z32lt, z32le, z32eq, Int32.reduceToInt, Int32.toInt_zero] at h191_34; constructor <;> omega
              refine z_bipush (pc := 199) (v := -4) C dX10_findStates_199 (by decide) ?_
              exact ih2 a124_1 b124_1 a124_2 b124_2 a124_3 b124_3 a124_4 b124_4 a124_5 b124_5 a124_6 b124_6 a124_7 b124_7 a124_8 b21x v23 b26x v29 b29x v32 b32x v33 b33x (-4) (zB.wk (a' := (-4)) (b' := 5) (zB.of (x := (-4)) (-4) (by decide)) (by decide) (by decide)) g124_ hI124_ hF124_ f124_25_0_13 (by have qc0 : ((-4) : Int32).toInt = (-4) := (by decide); omega) (by have qc0 : ((-4) : Int32).toInt = (-4) := (by decide); omega) (by have qc0 : ((-4) : Int32).toInt = (-4) := (by decide); omega)
            · skip
              have b37x : zB v34 1 4 := by have q1 := b34x; have q2 := (zB.of (x := 0) 0 (by decide)); simp only [z32lt, z32le, z32eq, Int32.reduceToInt, Int32.toInt_zero] at h191_34; constructor <;> omega
              refine z_iload (pc := 194) C dX10_findStates_194 rfl ?_
              refine z_goto (pc := 196) 201 C dX10_findStates_196 (by decide) ?_
              exact ih2 a124_1 b124_1 a124_2 b124_2 a124_3 b124_3 a124_4 b124_4 a124_5 b124_5 a124_6 b124_6 a124_7 b124_7 a124_8 b21x v23 b26x v29 b29x v32 b32x v33 b33x a124_7 (zB.wk (a' := (-4)) (b' := 5) b124_7 (by decide) (by decide)) g124_ hI124_ hF124_ f124_25_0_13 (by omega) (by omega) (by omega)
      · skip
        intro a201_1 b201_1 a201_2 b201_2 a201_3 b201_3 a201_4 b201_4 a201_5 b201_5 a201_6 b201_6 a201_7 b201_7 a201_8 b201_8 a201_9 b201_9 a201_10 b201_10 a201_s2 b201_s2 a201_s3 b201_s3 a201_s4 b201_s4 g201_ hI201_ hF201_ f201_25_0_13 hR201_0 hR201_1 hM201_
        refine z_iload (pc := 201) C dX10_findStates_201 rfl ?_
        refine z_iconst (pc := 203) (v := 2) C dX10_findStates_203 (by decide) ?_
        refine z_iand (pc := 204) C dX10_findStates_204 ?_
        refine w_gb 0 2 (zand_b b201_10 (zB.of (x := 2) 2 (by decide)) (by decide)) (fun v38 b38x => ?_)
        refine z_if_eq (pc := 205) 213 C dX10_findStates_205 (by decide) (fun h205_38 => ?_) (fun h205_38 => ?_)
        · skip
          have b40x : zB v38 0 0 := by have q1 := b38x; have q2 := (zB.of (x := 0) 0 (by decide)); simp only [z32lt, z32le, z32eq, Int32.reduceToInt, Int32.toInt_zero] at h205_38; constructor <;> omega
          refine z_sipush (pc := 213) (v := 255) C dX10_findStates_213 (by decide) ?_
          exact ih3 a201_1 b201_1 a201_2 b201_2 a201_3 b201_3 a201_4 b201_4 a201_5 b201_5 a201_6 b201_6 a201_7 b201_7 a201_8 b201_8 a201_9 b201_9 a201_10 b201_10 a201_s2 b201_s2 a201_s3 b201_s3 a201_s4 b201_s4 255 (zB.wk (a' := 1) (b' := 255) (zB.of (x := 255) 255 (by decide)) (by decide) (by decide)) g201_ hI201_ hF201_ f201_25_0_13 (by have qc0 : (255 : Int32).toInt = 255 := (by decide); omega) (by have qc0 : (255 : Int32).toInt = 255 := (by decide); omega) (by have qc0 : (255 : Int32).toInt = 255 := (by decide); omega)
        · skip
          have b41x : zB v38 1 2 := by have q1 := b38x; have q2 := (zB.of (x := 0) 0 (by decide)); simp only [z32lt, z32le, z32eq, Int32.reduceToInt, Int32.toInt_zero] at h205_38; constructor <;> omega
          refine z_iload (pc := 208) C dX10_findStates_208 rfl ?_
          refine z_goto (pc := 210) 216 C dX10_findStates_210 (by decide) ?_
          exact ih3 a201_1 b201_1 a201_2 b201_2 a201_3 b201_3 a201_4 b201_4 a201_5 b201_5 a201_6 b201_6 a201_7 b201_7 a201_8 b201_8 a201_9 b201_9 a201_10 b201_10 a201_s2 b201_s2 a201_s3 b201_s3 a201_s4 b201_s4 a201_9 b201_9 g201_ hI201_ hF201_ f201_25_0_13 (by omega) (by omega) (by omega)
      · skip
        intro a216_1 b216_1 a216_2 b216_2 a216_3 b216_3 a216_4 b216_4 a216_5 b216_5 a216_6 b216_6 a216_7 b216_7 a216_8 b216_8 a216_9 b216_9 a216_10 b216_10 a216_s2 b216_s2 a216_s3 b216_s3 a216_s4 b216_s4 a216_s5 b216_s5 g216_ hI216_ hF216_ f216_25_0_13 hR216_0 hR216_1 hM216_
        refine z_callV (pc := 216) C zk_X10_171 (w_X10_codeOf _ _ a216_s2 b216_s2 a216_s3 b216_s3 a216_s4 b216_s4 a216_s5 (zB.wk (a' := 0) (b' := 255) b216_s5 (by decide) (by decide)) hI216_) rfl rfl (by decide) rfl rfl (Nat.le_of_ble_eq_true rfl) dX10_findStates_216 (fun r42 g42 q42 => ?_)
        obtain ⟨⟨v42, rfl, b42x⟩, hI42, hF42q⟩ := q42
        obtain rfl := zFr_nil hF42q
        simp only [Option.toList, List.cons_append, List.nil_append]
        refine z_iload_n (pc := 219) C dX10_findStates_219 rfl ?_
        refine z_iload (pc := 220) C dX10_findStates_220 rfl ?_
        refine z_callV (pc := 222) C zk_X10_175 (w_X10_come _ _ v42 b42x a216_3 b216_3 a216_8 (zB.wk (a' := (-4)) (b' := 11) b216_8 (by decide) (by decide)) (by omega) (by omega) hI216_) rfl rfl (by decide) rfl rfl (Nat.le_of_ble_eq_true rfl) dX10_findStates_222 (fun r43 g43 q43 => ?_)
        obtain ⟨rfl, hI43, hF43q, hp43_0, hp43_1⟩ := q43
        have hF43 := zFr.tr hF216_ hF43q (by decide)
        simp only [Option.toList, List.cons_append, List.nil_append]
        have cr43_25_0_13 : zB (g43 25 0 13) 0 21504 := hI43 25 0 13
        refine w_mask [10] ?_
        exact ih4 a216_1 b216_1 a216_2 b216_2 a216_3 b216_3 a216_4 b216_4 a216_5 b216_5 a216_6 b216_6 a216_7 b216_7 a216_8 b216_8 a216_9 (zB.wk (a' := 0) (b' := 255) b216_9 (by decide) (by decide)) g43 hI43 hF43 cr43_25_0_13 (by omega) (by omega) (by omega)
      · skip
        intro a225_1 b225_1 a225_2 b225_2 a225_3 b225_3 a225_4 b225_4 a225_5 b225_5 a225_6 b225_6 a225_7 b225_7 a225_8 b225_8 a225_9 b225_9 g225_ hI225_ hF225_ f225_25_0_13 hR225_0 hR225_1 hM225_
        refine z_iinc (pc := 225) (v := 1) C dX10_findStates_225 rfl (by decide) (by rw [hn]; decide) rfl ?_
        obtain ⟨v44, hv44, e44⟩ : ∃ v : Int32, v = a225_8 + 1 ∧ v.toInt = a225_8.toInt + 1 := ⟨_, rfl, zadd_eb b225_8 (zB.of (x := 1) 1 (by decide)) (by decide) (by decide)⟩
        rw [← hv44]
        have b44x : zB v44 1 12 := by have q9 := b225_8; constructor <;> omega
        refine z_goto (pc := 228) 124 C dX10_findStates_228 (by decide) ?_
        refine w_mask [9] ?_
        exact ih1 a225_1 b225_1 a225_2 b225_2 a225_3 b225_3 a225_4 b225_4 a225_5 b225_5 a225_6 b225_6 a225_7 b225_7 v44 (zB.wk (a' := 0) (b' := 12) b44x (by decide) (by decide)) g225_ hI225_ hF225_ f225_25_0_13 (by omega) (by omega) (by omega)
  obtain ⟨J0, J1, J2, J3, J4⟩ := J 2107597
  show Z X 0 [some (zr 25 0), none, none, none, none, none, none, none, none, none, none] [] f
  refine z_aload_n (pc := 0) C dX10_findStates_0 rfl ?_
  refine z_callV (pc := 1) C zk_X10_151 (w_X10_findOpen _ _  hI) rfl rfl (by decide) rfl rfl (Nat.le_of_ble_eq_true rfl) dX10_findStates_1 (fun r45 g45 q45 => ?_)
  obtain ⟨rfl, hI45, hF45q⟩ := q45
  have hF45 := zFr.tr hF hF45q (by decide)
  simp only [Option.toList, List.cons_append, List.nil_append]
  have ek45_25_0_13 : (g45 25 0 13).toInt = (f 25 0 13).toInt := by rw [hF45q 25 0 13 rfl]
  have c45_25_0_13x : zB (g45 25 0 13) 0 21504 := by first | exact zB.eqv ek45_25_0_13 ct25_0_13 | (have q9 := ct25_0_13; constructor <;> omega)
  refine z_iconst (pc := 4) (v := 0) C dX10_findStates_4 (by decide) ?_
  refine z_istore_n (pc := 5) C dX10_findStates_5 (by rw [hn]; decide) rfl ?_
  rw [← zfill_0 g45 32 0 (-4)]
  refine fs_fill C hn ?_ 21504 0 rfl
  refine w_mask [1] ?_
  refine w_fillA hI45 hF45 (fun _ => rfl) (fun g6_ hI6_ hF6_ hA6_ => ?_)
  have cr6__25_0_13 : zB (g6_ 25 0 13) 0 21504 := hI6_ 25 0 13
  refine z_aload_n (pc := 27) C dX10_findStates_27 rfl ?_
  refine z_iconst (pc := 28) (v := 0) C dX10_findStates_28 (by decide) ?_
  refine z_putI (pc := 29) C zf_X10_168 zp_10_13 rfl rfl (by decide) dX10_findStates_29 ?_
  refine w_mem2 hI6_ hF6_ (zB.wk (a' := 0) (b' := 21504) (zB.of (x := 0) 0 (by decide)) (by decide) (by decide)) rfl (fun g46 hI46 hF46 hq46 hx46 => ?_)
  have ec46 : (g46 25 0 13).toInt = (0 : Int32).toInt := by rw [hx46]
  have c46x : zB (g46 25 0 13) 0 0 := by have q9 := (zB.of (x := 0) 0 (by decide)); constructor <;> omega
  have hA32 : ∀ i, i < 21504 → g46 32 0 i = -4 := fun i hi => by rw [hq46 32 0 i (by omega)]; exact hA6_ i hi
  have hz32 : zfq g46 = 1 := zfq_i.mpr (FQ_init (by have q9 := c46x; omega) hA32)
  refine z_aload_n (pc := 32) C dX10_findStates_32 rfl ?_
  refine z_aload_n (pc := 33) C dX10_findStates_33 rfl ?_
  refine z_getR (pc := 34) C zf_X10_22 rfl rfl (by decide) dX10_findStates_34 ?_
  refine z_iconst (pc := 37) (v := 1) C dX10_findStates_37 (by decide) ?_
  refine z_iald (pc := 38) C rfl (by decide) (zIx (zB.of (x := 1) 1 (by decide)) (by decide) (by decide)) dX10_findStates_38 ?_
  refine w_gb 0 5 (hI46 30 _ 1) (fun v47 b47x => ?_)
  refine z_aload_n (pc := 39) C dX10_findStates_39 rfl ?_
  refine z_getR (pc := 40) C zf_X10_22 rfl rfl (by decide) dX10_findStates_40 ?_
  refine z_iconst (pc := 43) (v := 3) C dX10_findStates_43 (by decide) ?_
  refine z_iald (pc := 44) C rfl (by decide) (zIx (zB.of (x := 3) 3 (by decide)) (by decide) (by decide)) dX10_findStates_44 ?_
  refine w_gb 0 1 (hI46 30 _ 3) (fun v48 b48x => ?_)
  refine z_aload_n (pc := 45) C dX10_findStates_45 rfl ?_
  refine z_getR (pc := 46) C zf_X10_22 rfl rfl (by decide) dX10_findStates_46 ?_
  refine z_iconst (pc := 49) (v := 4) C dX10_findStates_49 (by decide) ?_
  refine z_iald (pc := 50) C rfl (by decide) (zIx (zB.of (x := 4) 4 (by decide)) (by decide) (by decide)) dX10_findStates_50 ?_
  refine w_gb (-4) 5 (hI46 30 _ 4) (fun v49 b49x => ?_)
  refine z_aload_n (pc := 51) C dX10_findStates_51 rfl ?_
  refine z_getR (pc := 52) C zf_X10_22 rfl rfl (by decide) dX10_findStates_52 ?_
  refine z_iconst (pc := 55) (v := 5) C dX10_findStates_55 (by decide) ?_
  refine z_iald (pc := 56) C rfl (by decide) (zIx (zB.of (x := 5) 5 (by decide)) (by decide) (by decide)) dX10_findStates_56 ?_
  refine w_gb 0 255 (hI46 30 _ 5) (fun v50 b50x => ?_)
  refine z_callV (pc := 57) C zk_X10_171 (w_X10_codeOf _ _ v47 b47x v48 b48x v49 b49x v50 b50x hI46) rfl rfl (by decide) rfl rfl (Nat.le_of_ble_eq_true rfl) dX10_findStates_57 (fun r51 g51 q51 => ?_)
  obtain ⟨⟨v51, rfl, b51x⟩, hI51, hF51q⟩ := q51
  obtain rfl := zFr_nil hF51q
  simp only [Option.toList, List.cons_append, List.nil_append]
  refine z_istore_n (pc := 60) C dX10_findStates_60 (by rw [hn]; decide) rfl ?_
  refine z_aload_n (pc := 61) C dX10_findStates_61 rfl ?_
  refine z_iload_n (pc := 62) C dX10_findStates_62 rfl ?_
  refine z_iload_n (pc := 63) C dX10_findStates_63 rfl ?_
  refine z_bipush (pc := 64) (v := -4) C dX10_findStates_64 (by decide) ?_
  refine z_callV (pc := 66) C zk_X10_175 (w_X10_come _ _ v51 b51x v51 b51x (-4) (zB.wk (a' := (-4)) (b' := 11) (zB.of (x := (-4)) (-4) (by decide)) (by decide) (by decide)) (by omega) (by omega) hI46) rfl rfl (by decide) rfl rfl (Nat.le_of_ble_eq_true rfl) dX10_findStates_66 (fun r52 g52 q52 => ?_)
  have qa52_m4 : ((-4) : Int32).toInt = (-4) := by decide
  obtain ⟨rfl, hI52, hF52q, hp52_0, hp52_1⟩ := q52
  have hF52 := zFr.tr hF46 hF52q (by decide)
  simp only [Option.toList, List.cons_append, List.nil_append]
  have cr52_25_0_13 : zB (g52 25 0 13) 0 21504 := hI52 25 0 13
  refine z_iconst (pc := 69) (v := 0) C dX10_findStates_69 (by decide) ?_
  refine z_istore_n (pc := 70) C dX10_findStates_70 (by rw [hn]; decide) rfl ?_
  exact J0 v51 b51x 0 (zB.wk (a' := 0) (b' := 21504) (zB.of (x := 0) 0 (by decide)) (by decide) (by decide)) g52 hI52 hF52 cr52_25_0_13 (by have qc0 : (0 : Int32).toInt = 0 := (by decide); omega) (by have qc0 : (0 : Int32).toInt = 0 := (by decide); omega)

set_option maxRecDepth 100000 in
set_option maxHeartbeats 4000000 in
theorem w_X10_lands (d : Nat) (f : zM)  (hI : zInv f) : ZM (d + 6) yX10_lands cX10_lands 3 (some .int) [zr 25 0] f (fun r g => (∃ v, r = some (zi v) ∧ zB v 0 63) ∧ zInv g ∧ zFr [(25, some 13), (31, none), (32, none), (33, none), (34, none)] f g) := by
  refine ZM.intro (by decide +kernel) (Nat.le_of_ble_eq_true rfl) ?_
  intro X C hr hn
  have hF : zFr [(25, some 13), (31, none), (32, none), (33, none), (34, none)] f f := zFr.rf _ _
  have J : ∀ t : Nat, (∀ a8_1 : Int32, zB a8_1 0 63 → ∀ a8_2 : Int32, zB a8_2 0 21504 → ∀ g : zM, zInv g → zFr [(25, some 13), (31, none), (32, none), (33, none), (34, none)] f g → (0 + 3 * (21504 - a8_2.toInt) : Int) < t → Z X 8 [some (zr 25 0), some (zi a8_1), some (zi a8_2)] [] g) := by
    intro t
    induction t with
    | zero =>
      intros; exfalso; omega
    | succ t ih =>
      have ih0 := ih
      intro a8_1 b8_1 a8_2 b8_2 g8_ hI8_ hF8_ hM8_
      refine z_iload_n (pc := 8) C dX10_lands_8 rfl ?_
      refine z_aload_n (pc := 9) C dX10_lands_9 rfl ?_
      refine z_getI (pc := 10) C zf_X10_168 rfl rfl (by decide) dX10_lands_10 ?_
      refine w_gb 0 21504 (hI8_ 25 _ 13) (fun v1 b1x => ?_)
      refine z_icmp_ge (pc := 13) 37 C dX10_lands_13 (by decide) (fun h13_1 => ?_) (fun h13_1 => ?_)
      · skip
        refine z_iload_n (pc := 37) C dX10_lands_37 rfl ?_
        exact z_iret (pc := 38) C hr dX10_lands_38 ⟨⟨_, rfl, b8_1⟩, hI8_, hF8_⟩
      · skip
        have b3x : zB a8_2 0 21503 := by have q1 := b8_2; have q2 := b1x; simp only [z32lt, z32le, z32eq, Int32.reduceToInt, Int32.toInt_zero] at h13_1; constructor <;> omega
        have b4x : zB v1 1 21504 := by have q1 := b8_2; have q2 := b1x; simp only [z32lt, z32le, z32eq, Int32.reduceToInt, Int32.toInt_zero] at h13_1; constructor <;> omega
        refine z_iload_n (pc := 16) C dX10_lands_16 rfl ?_
        refine z_iconst (pc := 17) (v := 1) C dX10_lands_17 (by decide) ?_
        refine z_aload_n (pc := 18) C dX10_lands_18 rfl ?_
        refine z_getR (pc := 19) C zf_X10_34 rfl rfl (by decide) dX10_lands_19 ?_
        refine z_iload_n (pc := 22) C dX10_lands_22 rfl ?_
        refine z_iald (pc := 23) C rfl (by decide) (zIx b3x (by decide) (by decide)) dX10_lands_23 ?_
        refine w_gb 0 21503 (hI8_ 34 _ _) (fun v5 b5x => ?_)
        refine z_sipush (pc := 24) (v := 3584) C dX10_lands_24 (by decide) ?_
        refine z_idiv (pc := 27) C dX10_lands_27 (by decide) ?_
        refine w_gb 0 5 (zdiv_b 3584 b5x (by decide) (by decide) (by decide)) (fun v6 b6x => ?_)
        refine z_ishl (pc := 28) C dX10_lands_28 ?_
        refine w_gb 0 32 (zshl_b b6x 5 (by decide) (by decide)) (fun v7 b7x => ?_)
        refine z_ior (pc := 29) C dX10_lands_29 ?_
        refine w_gb 0 63 (zor_b 6 b8_1 b7x (by decide) (by decide) (by decide) (by decide) (by decide)) (fun v8 b8x => ?_)
        refine z_istore_n (pc := 30) C dX10_lands_30 (by rw [hn]; decide) rfl ?_
        refine z_iinc (pc := 31) (v := 1) C dX10_lands_31 rfl (by decide) (by rw [hn]; decide) rfl ?_
        obtain ⟨v9, hv9, e9⟩ : ∃ v : Int32, v = a8_2 + 1 ∧ v.toInt = a8_2.toInt + 1 := ⟨_, rfl, zadd_eb b3x (zB.of (x := 1) 1 (by decide)) (by decide) (by decide)⟩
        rw [← hv9]
        have b9x : zB v9 1 21504 := by have q9 := b3x; constructor <;> omega
        refine z_goto (pc := 34) 8 C dX10_lands_34 (by decide) ?_
        exact ih0 v8 b8x v9 (zB.wk (a' := 0) (b' := 21504) b9x (by decide) (by decide)) g8_ hI8_ hF8_  (by omega)
  have J0 := J 64527
  show Z X 0 [some (zr 25 0), none, none] [] f
  refine z_aload_n (pc := 0) C dX10_lands_0 rfl ?_
  refine z_callV (pc := 1) C zk_X10_179 (w_X10_findStates _ _  hI) rfl rfl (by decide) rfl rfl (Nat.le_of_ble_eq_true rfl) dX10_lands_1 (fun r10 g10 q10 => ?_)
  obtain ⟨rfl, hI10, hF10q, hp10_0⟩ := q10
  have hF10 := zFr.tr hF hF10q (by decide)
  simp only [Option.toList, List.cons_append, List.nil_append]
  refine z_iconst (pc := 4) (v := 0) C dX10_lands_4 (by decide) ?_
  refine z_istore_n (pc := 5) C dX10_lands_5 (by rw [hn]; decide) rfl ?_
  refine z_iconst (pc := 6) (v := 0) C dX10_lands_6 (by decide) ?_
  refine z_istore_n (pc := 7) C dX10_lands_7 (by rw [hn]; decide) rfl ?_
  exact J0 0 (zB.wk (a' := 0) (b' := 63) (zB.of (x := 0) 0 (by decide)) (by decide) (by decide)) 0 (zB.wk (a' := 0) (b' := 21504) (zB.of (x := 0) 0 (by decide)) (by decide) (by decide)) g10 hI10 hF10  (by have qc0 : (0 : Int32).toInt = 0 := (by decide); omega)

set_option maxRecDepth 100000 in
set_option maxHeartbeats 4000000 in
theorem w_X10_road (d : Nat) (f : zM) (a1 : Int32) (b1 : zB a1 (-2147483648) 2147483647) (a2 : Int32) (b2 : zB a2 (-2147483648) 2147483647) (a3 : Int32) (b3 : zB a3 (-2147483648) 2147483647) (hI : zInv f) : ZM (d + 6) yX10_road cX10_road 8 (some .int) [zr 25 0, zi a1, zi a2, zi a3] f (fun r g => (∃ v, r = some (zi v) ∧ zB v (-4) 21503) ∧ zInv g ∧ zFr [(25, some 13), (31, none), (32, none), (33, none), (34, none)] f g) := by
  refine ZM.intro (by decide +kernel) (Nat.le_of_ble_eq_true rfl) ?_
  intro X C hr hn
  have hF : zFr [(25, some 13), (31, none), (32, none), (33, none), (34, none)] f f := zFr.rf _ _
  have ct25_0_13 : zB (f 25 0 13) 0 21504 := hI 25 0 13
  have J : ∀ t : Nat, (∀ g : zM, zInv g → zFr [(25, some 13), (31, none), (32, none), (33, none), (34, none)] f g → zB (g 25 0 13) 0 21504 → (79562482728957 : Int) < t → Z X 20 [some (zr 25 0), some (zi a1), some (zi a2), some (zi a3), none, none, none, none] [] g) ∧ (zB a1 0 5 → zB a2 0 7 → zB a3 (-1) 2147483647 → ∀ a38_4 : Int32, zB a38_4 (-4) 21503 → ∀ a38_5 : Int32, zB a38_5 (-1) 21503 → ∀ g : zM, zInv g → zFr [(25, some 13), (31, none), (32, none), (33, none), (34, none)] f g → zB (g 25 0 13) 0 21504 → (zfq g = 1) → ((a38_4.toInt = -4 ∨ zmq g a38_4 = 1)) → (a38_5.toInt < (g 25 0 13).toInt) → (3699548156 + 3699548160 * (a38_5.toInt - (-1)) : Int) < t → Z X 38 [some (zr 25 0), some (zi a1), some (zi a2), some (zi a3), some (zi a38_4), some (zi a38_5), none, none] [] g) ∧ (zB a1 0 5 → zB a2 0 7 → zB a3 (-1) 2147483647 → ∀ a88_4 : Int32, zB a88_4 (-4) 21503 → ∀ a88_5 : Int32, zB a88_5 0 21503 → ∀ g : zM, zInv g → zFr [(25, some 13), (31, none), (32, none), (33, none), (34, none)] f g → zB (g 25 0 13) 0 21504 → (zfq g = 1) → ((a88_4.toInt = -4 ∨ zmq g a88_4 = 1)) → (a88_5.toInt < (g 25 0 13).toInt) → (3699548155 + 3699548160 * (a88_5.toInt - (-1)) : Int) < t → Z X 88 [some (zr 25 0), some (zi a1), some (zi a2), some (zi a3), some (zi a88_4), some (zi a88_5), none, none] [] g) ∧ (zB a1 0 5 → zB a2 0 7 → zB a3 (-1) 2147483647 → ∀ a90_4 : Int32, zB a90_4 (-4) 21503 → ∀ a90_5 : Int32, zB a90_5 0 21503 → ∀ a90_s0 : Int32, zB a90_s0 (-4) 21503 → ∀ g : zM, zInv g → zFr [(25, some 13), (31, none), (32, none), (33, none), (34, none)] f g → zB (g 25 0 13) 0 21504 → (zfq g = 1) → ((a90_s0.toInt = -4 ∨ zmq g a90_s0 = 1)) → (a90_5.toInt < (g 25 0 13).toInt) → (3699548154 + 3699548160 * (a90_5.toInt - (-1)) : Int) < t → Z X 90 [some (zr 25 0), some (zi a1), some (zi a2), some (zi a3), some (zi a90_4), some (zi a90_5), none, none] [zi a90_s0] g) ∧ (zB a1 0 5 → zB a2 0 7 → zB a3 (-1) 2147483647 → ∀ a113_4 : Int32, zB a113_4 0 21503 → ∀ a113_5 : Int32, zB a113_5 0 21503 → ∀ a113_6 : Int32, zB a113_6 0 21503 → ∀ g : zM, zInv g → zFr [(25, some 13), (31, none), (32, none), (33, none), (34, none)] f g → zB (g 25 0 13) 0 21504 → (zfq g = 1) → (zmq g a113_6 = 1) → (zmq g a113_4 = 1) → (a113_5.toInt + zrk g a113_6 ≤ 21503) → (0 ≤ zrk g a113_6) → (zrk g a113_6 ≤ 21503) → (172025 + 172032 * (zrk g a113_6) : Int) < t → Z X 113 [some (zr 25 0), some (zi a1), some (zi a2), some (zi a3), some (zi a113_4), some (zi a113_5), some (zi a113_6), none] [] g) ∧ (zB a1 0 5 → zB a2 0 7 → zB a3 0 21502 → ∀ a166_4 : Int32, zB a166_4 0 21503 → ∀ a166_5 : Int32, zB a166_5 1 21503 → ∀ a166_6 : Int32, zB a166_6 0 21503 → ∀ a166_7 : Int32, zB a166_7 0 21502 → ∀ g : zM, zInv g → zFr [(25, some 13), (31, none), (32, none), (33, none), (34, none)] f g → zB (g 25 0 13) 0 21504 → (zfq g = 1) → (zmq g a166_6 = 1) → (0 + 8 * (a166_7.toInt - 0) : Int) < t → Z X 166 [some (zr 25 0), some (zi a1), some (zi a2), some (zi a3), some (zi a166_4), some (zi a166_5), some (zi a166_6), some (zi a166_7)] [] g) := by
    intro t
    induction t with
    | zero =>
      refine ⟨?_, ?_, ?_, ?_, ?_, ?_⟩ <;> (intros; exfalso; omega)
    | succ t ih =>
      obtain ⟨ih0, ih1, ih2, ih3, ih4, ih5⟩ := ih
      refine ⟨?_, ?_, ?_, ?_, ?_, ?_⟩
      · skip
        intro g20_ hI20_ hF20_ f20_25_0_13 hM20_
        refine z_iconst (pc := 20) (v := -1) C dX10_road_20 (by decide) ?_
        exact z_iret (pc := 21) C hr dX10_road_21 ⟨⟨_, rfl, (zB.wk (a' := (-4)) (b' := 21503) (zB.of (x := (-1)) (-1) (by decide)) (by decide) (by decide))⟩, hI20_, hF20_⟩
      · skip
        intro b38_1 b38_2 b38_3 a38_4 b38_4 a38_5 b38_5 g38_ hI38_ hF38_ f38_25_0_13 hR38_0 hR38_1 hR38_2 hM38_
        refine z_iload (pc := 38) C dX10_road_38 rfl ?_
        refine z_if_lt (pc := 40) 98 C dX10_road_40 (by decide) (fun h40_0 => ?_) (fun h40_0 => ?_)
        · skip
          have b2x : zB a38_5 (-1) (-1) := by have q1 := b38_5; have q2 := (zB.of (x := 0) 0 (by decide)); simp only [z32lt, z32le, z32eq, Int32.reduceToInt, Int32.toInt_zero] at h40_0; constructor <;> omega
          refine z_iload (pc := 98) C dX10_road_98 rfl ?_
          refine z_if_ge (pc := 100) 106 C dX10_road_100 (by decide) (fun h100_2 => ?_) (fun h100_2 => ?_)
          · skip
            have b4x : zB a38_4 0 21503 := by have q1 := b38_4; have q2 := (zB.of (x := 0) 0 (by decide)); simp only [z32lt, z32le, z32eq, Int32.reduceToInt, Int32.toInt_zero] at h100_2; constructor <;> omega
            refine z_iconst (pc := 106) (v := 0) C dX10_road_106 (by decide) ?_
            refine z_istore (pc := 107) C dX10_road_107 (by rw [hn]; decide) rfl ?_
            have zr109 : zmq g38_ a38_4 = 1 := by omega
            have zk109 := zrk_b hI38_ zr109
            refine z_iload (pc := 109) C dX10_road_109 rfl ?_
            refine z_istore (pc := 111) C dX10_road_111 (by rw [hn]; decide) rfl ?_
            exact ih4 b38_1 b38_2 b38_3 a38_4 b4x 0 (zB.wk (a' := 0) (b' := 21503) (zB.of (x := 0) 0 (by decide)) (by decide) (by decide)) a38_4 b4x g38_ hI38_ hF38_ f38_25_0_13 (by have qc0 : (0 : Int32).toInt = 0 := (by decide); omega) (by have qc0 : (0 : Int32).toInt = 0 := (by decide); omega) (by have qc0 : (0 : Int32).toInt = 0 := (by decide); omega) (by have qc0 : (0 : Int32).toInt = 0 := (by decide); omega) (by have qc0 : (0 : Int32).toInt = 0 := (by decide); omega) (by have qc0 : (0 : Int32).toInt = 0 := (by decide); omega) (by have qc0 : (0 : Int32).toInt = 0 := (by decide); omega)
          · skip
            have b5x : zB a38_4 (-4) (-1) := by have q1 := b38_4; have q2 := (zB.of (x := 0) 0 (by decide)); simp only [z32lt, z32le, z32eq, Int32.reduceToInt, Int32.toInt_zero] at h100_2; constructor <;> omega
            refine z_bipush (pc := 103) (v := -4) C dX10_road_103 (by decide) ?_
            exact z_iret (pc := 105) C hr dX10_road_105 ⟨⟨_, rfl, (zB.wk (a' := (-4)) (b' := 21503) (zB.of (x := (-4)) (-4) (by decide)) (by decide) (by decide))⟩, hI38_, hF38_⟩
        · skip
          have b6x : zB a38_5 0 21503 := by have q1 := b38_5; have q2 := (zB.of (x := 0) 0 (by decide)); simp only [z32lt, z32le, z32eq, Int32.reduceToInt, Int32.toInt_zero] at h40_0; constructor <;> omega
          refine z_aload_n (pc := 43) C dX10_road_43 rfl ?_
          refine z_getR (pc := 44) C zf_X10_34 rfl rfl (by decide) dX10_road_44 ?_
          refine z_iload (pc := 47) C dX10_road_47 rfl ?_
          refine z_iald (pc := 49) C rfl (by decide) (zIx b6x (by decide) (by decide)) dX10_road_49 ?_
          refine w_gb 0 21503 (hI38_ 34 _ _) (fun v7 b7x => ?_)
          refine z_sipush (pc := 50) (v := 3584) C dX10_road_50 (by decide) ?_
          refine z_idiv (pc := 53) C dX10_road_53 (by decide) ?_
          refine w_gb 0 5 (zdiv_b 3584 b7x (by decide) (by decide) (by decide)) (fun v8 b8x => ?_)
          refine z_iload_n (pc := 54) C dX10_road_54 rfl ?_
          refine z_icmp_ne (pc := 55) 88 C dX10_road_55 (by decide) (fun h55_8 => ?_) (fun h55_8 => ?_)
          · skip
            exact ih2 b38_1 b38_2 b38_3 a38_4 b38_4 a38_5 b6x g38_ hI38_ hF38_ f38_25_0_13 (by omega) (by omega) (by omega) (by omega)
          · skip
            have rr10 : v8.toInt = a1.toInt := by simp only [z32lt, z32le, z32eq] at h55_8; omega
            refine z_aload_n (pc := 58) C dX10_road_58 rfl ?_
            refine z_iload_n (pc := 59) C dX10_road_59 rfl ?_
            refine z_iload_n (pc := 60) C dX10_road_60 rfl ?_
            refine z_aload_n (pc := 61) C dX10_road_61 rfl ?_
            refine z_getR (pc := 62) C zf_X10_34 rfl rfl (by decide) dX10_road_62 ?_
            refine z_iload (pc := 65) C dX10_road_65 rfl ?_
            refine z_iald (pc := 67) C rfl (by decide) (zIx b6x (by decide) (by decide)) dX10_road_67 ?_
            refine w_gb 0 21503 (hI38_ 34 _ _) (fun v11 b11x => ?_)
            refine z_sipush (pc := 68) (v := 256) C dX10_road_68 (by decide) ?_
            refine z_irem (pc := 71) C dX10_road_71 (by decide) ?_
            refine w_gb 0 255 (zrem_b 256 b11x (by decide) (by decide) (by decide)) (fun v12 b12x => ?_)
            refine z_callV (pc := 72) C zk_X10_161 (w_X10_isTried _ _ a2 b38_2 a1 b38_1 v12 b12x hI38_) rfl rfl (by decide) rfl rfl (Nat.le_of_ble_eq_true rfl) dX10_road_72 (fun r13 g13 q13 => ?_)
            obtain ⟨⟨v13, rfl, b13x⟩, hI13, hF13q⟩ := q13
            obtain rfl := zFr_nil hF13q
            simp only [Option.toList, List.cons_append, List.nil_append]
            refine z_if_eq (pc := 75) 88 C dX10_road_75 (by decide) (fun h75_13 => ?_) (fun h75_13 => ?_)
            · skip
              have b15x : zB v13 0 0 := by have q1 := b13x; have q2 := (zB.of (x := 0) 0 (by decide)); simp only [z32lt, z32le, z32eq, Int32.reduceToInt, Int32.toInt_zero] at h75_13; constructor <;> omega
              exact ih2 b38_1 b38_2 b38_3 a38_4 b38_4 a38_5 b6x g38_ hI38_ hF38_ f38_25_0_13 (by omega) (by omega) (by omega) (by omega)
            · skip
              have b16x : zB v13 1 1 := by have q1 := b13x; have q2 := (zB.of (x := 0) 0 (by decide)); simp only [z32lt, z32le, z32eq, Int32.reduceToInt, Int32.toInt_zero] at h75_13; constructor <;> omega
              refine z_aload_n (pc := 78) C dX10_road_78 rfl ?_
              refine z_getR (pc := 79) C zf_X10_34 rfl rfl (by decide) dX10_road_79 ?_
              refine z_iload (pc := 82) C dX10_road_82 rfl ?_
              refine z_iald (pc := 84) C rfl (by decide) (zIx b6x (by decide) (by decide)) dX10_road_84 ?_
              refine w_gp (fun v => zB v 0 21503 ∧ zmq g38_ v = 1) ⟨hI38_ 34 _ _, zmq_i.mpr ⟨a38_5.toNatClampNeg, by have hq : a38_5.toNatClampNeg = a38_5.toInt.toNat := rfl; omega, rfl⟩⟩ (fun v17 e17 => ?_)
              have b17x := e17.1
              have z17x := e17.2
              refine z_goto (pc := 85) 90 C dX10_road_85 (by decide) ?_
              exact ih3 b38_1 b38_2 b38_3 a38_4 b38_4 a38_5 b6x v17 (zB.wk (a' := (-4)) (b' := 21503) b17x (by decide) (by decide)) g38_ hI38_ hF38_ f38_25_0_13 (by omega) (by omega) (by omega) (by omega)
      · skip
        intro b88_1 b88_2 b88_3 a88_4 b88_4 a88_5 b88_5 g88_ hI88_ hF88_ f88_25_0_13 hR88_0 hR88_1 hR88_2 hM88_
        refine z_iload (pc := 88) C dX10_road_88 rfl ?_
        exact ih3 b88_1 b88_2 b88_3 a88_4 b88_4 a88_5 b88_5 a88_4 b88_4 g88_ hI88_ hF88_ f88_25_0_13 (by omega) (by omega) (by omega) (by omega)
      · skip
        intro b90_1 b90_2 b90_3 a90_4 b90_4 a90_5 b90_5 a90_s0 b90_s0 g90_ hI90_ hF90_ f90_25_0_13 hR90_0 hR90_1 hR90_2 hM90_
        refine z_istore (pc := 90) C dX10_road_90 (by rw [hn]; decide) rfl ?_
        refine z_iinc (pc := 92) (v := -1) C dX10_road_92 rfl (by decide) (by rw [hn]; decide) rfl ?_
        obtain ⟨v18, hv18, e18⟩ : ∃ v : Int32, v = a90_5 + (-1) ∧ v.toInt = a90_5.toInt + (-1) := ⟨_, rfl, zadd_eb b90_5 (zB.of (x := (-1)) (-1) (by decide)) (by decide) (by decide)⟩
        rw [← hv18]
        have b18x : zB v18 (-1) 21502 := by have q9 := b90_5; constructor <;> omega
        refine z_goto (pc := 95) 38 C dX10_road_95 (by decide) ?_
        exact ih1 b90_1 b90_2 b90_3 a90_s0 b90_s0 v18 (zB.wk (a' := (-1)) (b' := 21503) b18x (by decide) (by decide)) g90_ hI90_ hF90_ f90_25_0_13 (by omega) (by omega) (by omega) (by omega)
      · skip
        intro b113_1 b113_2 b113_3 a113_4 b113_4 a113_5 b113_5 a113_6 b113_6 g113_ hI113_ hF113_ f113_25_0_13 hR113_0 hR113_1 hR113_2 hR113_3 hR113_4 hR113_5 hM113_
        refine z_aload_n (pc := 113) C dX10_road_113 rfl ?_
        refine z_getR (pc := 114) C zf_X10_28 rfl rfl (by decide) dX10_road_114 ?_
        refine z_iload (pc := 117) C dX10_road_117 rfl ?_
        refine z_iald (pc := 119) C rfl (by decide) (zIx b113_6 (by decide) (by decide)) dX10_road_119 ?_
        refine w_gp (fun v => v = g113_ 32 0 a113_6.toNatClampNeg) rfl (fun v19 e19 => ?_)
        have b19x : zB v19 (-4) 21503 := by rw [e19]; exact hI113_ 32 0 _
        refine z_iload (pc := 120) C dX10_road_120 rfl ?_
        refine z_icmp_eq (pc := 122) 140 C dX10_road_122 (by decide) (fun h122_19 => ?_) (fun h122_19 => ?_)
        · skip
          have rr21 : v19.toInt = a113_6.toInt := by simp only [z32lt, z32le, z32eq] at h122_19; omega
          have b22x : zB v19 0 21503 := by have q1 := b19x; have q2 := b113_6; simp only [z32lt, z32le, z32eq, Int32.reduceToInt, Int32.toInt_zero] at h122_19; constructor <;> omega
          refine z_iload_n (pc := 140) C dX10_road_140 rfl ?_
          refine z_if_ge (pc := 141) 147 C dX10_road_141 (by decide) (fun h141_22 => ?_) (fun h141_22 => ?_)
          · skip
            have b24x : zB a3 0 2147483647 := by have q1 := b113_3; have q2 := (zB.of (x := 0) 0 (by decide)); simp only [z32lt, z32le, z32eq, Int32.reduceToInt, Int32.toInt_zero] at h141_22; constructor <;> omega
            refine z_iload_n (pc := 147) C dX10_road_147 rfl ?_
            refine z_iload (pc := 148) C dX10_road_148 rfl ?_
            refine z_icmp_lt (pc := 150) 156 C dX10_road_150 (by decide) (fun h150_24 => ?_) (fun h150_24 => ?_)
            · skip
              have rr26 : a3.toInt < a113_5.toInt := by simp only [z32lt, z32le, z32eq] at h150_24; omega
              have b27x : zB a3 0 21502 := by have q1 := b24x; have q2 := b113_5; simp only [z32lt, z32le, z32eq, Int32.reduceToInt, Int32.toInt_zero] at h150_24; constructor <;> omega
              have b28x : zB a113_5 1 21503 := by have q1 := b24x; have q2 := b113_5; simp only [z32lt, z32le, z32eq, Int32.reduceToInt, Int32.toInt_zero] at h150_24; constructor <;> omega
              refine z_iload (pc := 156) C dX10_road_156 rfl ?_
              refine z_istore (pc := 158) C dX10_road_158 (by rw [hn]; decide) rfl ?_
              refine z_iload (pc := 160) C dX10_road_160 rfl ?_
              refine z_iconst (pc := 162) (v := 1) C dX10_road_162 (by decide) ?_
              refine z_isub (pc := 163) C dX10_road_163 ?_
              refine w_gp (fun v => v.toInt = a113_5.toInt - 1) (zsub_eb b28x (zB.of (x := 1) 1 (by decide)) (by decide) (by decide)) (fun v29 e29 => ?_)
              have b29x : zB v29 0 21502 := by have q1 := b28x; have q2 := (zB.of (x := 1) 1 (by decide)); constructor <;> omega
              refine z_istore (pc := 164) C dX10_road_164 (by rw [hn]; decide) rfl ?_
              exact ih5 b113_1 b113_2 b27x a113_4 b113_4 a113_5 b28x a113_4 b113_4 v29 b29x g113_ hI113_ hF113_ f113_25_0_13 (by omega) (by omega) (by omega)
            · skip
              have rr30 : a3.toInt ≥ a113_5.toInt := by simp only [z32lt, z32le, z32eq] at h150_24; omega
              refine z_bipush (pc := 153) (v := -4) C dX10_road_153 (by decide) ?_
              exact z_iret (pc := 155) C hr dX10_road_155 ⟨⟨_, rfl, (zB.wk (a' := (-4)) (b' := 21503) (zB.of (x := (-4)) (-4) (by decide)) (by decide) (by decide))⟩, hI113_, hF113_⟩
          · skip
            have b31x : zB a3 (-1) (-1) := by have q1 := b113_3; have q2 := (zB.of (x := 0) 0 (by decide)); simp only [z32lt, z32le, z32eq, Int32.reduceToInt, Int32.toInt_zero] at h141_22; constructor <;> omega
            refine z_iload (pc := 144) C dX10_road_144 rfl ?_
            exact z_iret (pc := 146) C hr dX10_road_146 ⟨⟨_, rfl, (zB.wk (a' := (-4)) (b' := 21503) b113_5 (by decide) (by decide))⟩, hI113_, hF113_⟩
        · skip
          refine z_iinc (pc := 125) (v := 1) C dX10_road_125 rfl (by decide) (by rw [hn]; decide) rfl ?_
          obtain ⟨v32, hv32, e32⟩ : ∃ v : Int32, v = a113_5 + 1 ∧ v.toInt = a113_5.toInt + 1 := ⟨_, rfl, zadd_eb b113_5 (zB.of (x := 1) 1 (by decide)) (by decide) (by decide)⟩
          rw [← hv32]
          have b32x : zB v32 1 21504 := by have q9 := b113_5; constructor <;> omega
          refine z_aload_n (pc := 128) C dX10_road_128 rfl ?_
          refine z_getR (pc := 129) C zf_X10_28 rfl rfl (by decide) dX10_road_129 ?_
          refine z_iload (pc := 132) C dX10_road_132 rfl ?_
          refine z_iald (pc := 134) C rfl (by decide) (zIx b113_6 (by decide) (by decide)) dX10_road_134 ?_
          have hn33 : ¬ g113_ 32 0 a113_6.toNatClampNeg = a113_6 := by rw [← e19]; assumption
          have hp33 := zmq_par hI113_ (show zfq g113_ = 1 by omega) (show zmq g113_ a113_6 = 1 by omega)
          refine w_gp (fun v => zmq g113_ v = 1 ∧ zrk g113_ v < zrk g113_ a113_6) ⟨hp33.1, hp33.2 hn33⟩ (fun v33 e33 => ?_)
          have z33x := e33.1
          have y33x := e33.2
          have k33x := zrk_b hI113_ z33x
          have b33x := zmq_b hI113_ z33x
          refine z_istore (pc := 135) C dX10_road_135 (by rw [hn]; decide) rfl ?_
          refine z_goto (pc := 137) 113 C dX10_road_137 (by decide) ?_
          exact ih4 b113_1 b113_2 b113_3 a113_4 b113_4 v32 (by constructor <;> omega) v33 b33x g113_ hI113_ hF113_ f113_25_0_13 (by omega) (by omega) (by omega) (by omega) (by omega) (by omega) (by omega)
      · skip
        intro b166_1 b166_2 b166_3 a166_4 b166_4 a166_5 b166_5 a166_6 b166_6 a166_7 b166_7 g166_ hI166_ hF166_ f166_25_0_13 hR166_0 hR166_1 hM166_
        refine z_iload (pc := 166) C dX10_road_166 rfl ?_
        refine z_iload_n (pc := 168) C dX10_road_168 rfl ?_
        refine z_icmp_le (pc := 169) 187 C dX10_road_169 (by decide) (fun h169_33 => ?_) (fun h169_33 => ?_)
        · skip
          have rr35 : a166_7.toInt ≤ a3.toInt := by simp only [z32lt, z32le, z32eq] at h169_33; omega
          refine z_aload_n (pc := 187) C dX10_road_187 rfl ?_
          refine z_getR (pc := 188) C zf_X10_31 rfl rfl (by decide) dX10_road_188 ?_
          refine z_iload (pc := 191) C dX10_road_191 rfl ?_
          refine z_iald (pc := 193) C rfl (by decide) (zIx b166_6 (by decide) (by decide)) dX10_road_193 ?_
          refine w_gb (-4) 11 (hI166_ 33 _ _) (fun v36 b36x => ?_)
          exact z_iret (pc := 194) C hr dX10_road_194 ⟨⟨_, rfl, (zB.wk (a' := (-4)) (b' := 21503) b36x (by decide) (by decide))⟩, hI166_, hF166_⟩
        · skip
          have rr37 : a166_7.toInt > a3.toInt := by simp only [z32lt, z32le, z32eq] at h169_33; omega
          have b38x : zB a166_7 1 21502 := by have q1 := b166_7; have q2 := b166_3; simp only [z32lt, z32le, z32eq, Int32.reduceToInt, Int32.toInt_zero] at h169_33; constructor <;> omega
          have b39x : zB a3 0 21501 := by have q1 := b166_7; have q2 := b166_3; simp only [z32lt, z32le, z32eq, Int32.reduceToInt, Int32.toInt_zero] at h169_33; constructor <;> omega
          refine z_aload_n (pc := 172) C dX10_road_172 rfl ?_
          refine z_getR (pc := 173) C zf_X10_28 rfl rfl (by decide) dX10_road_173 ?_
          refine z_iload (pc := 176) C dX10_road_176 rfl ?_
          refine z_iald (pc := 178) C rfl (by decide) (zIx b166_6 (by decide) (by decide)) dX10_road_178 ?_
          refine w_gp (fun v => zmq g166_ v = 1 ∧ zmq g166_ v = 1) ⟨(zmq_par hI166_ (show zfq g166_ = 1 by omega) (show zmq g166_ a166_6 = 1 by omega)).1, (zmq_par hI166_ (show zfq g166_ = 1 by omega) (show zmq g166_ a166_6 = 1 by omega)).1⟩ (fun v40 e40 => ?_)
          have z40x := e40.1
          have y40x := e40.2
          have k40x := zrk_b hI166_ z40x
          have b40x := zmq_b hI166_ z40x
          refine z_istore (pc := 179) C dX10_road_179 (by rw [hn]; decide) rfl ?_
          refine z_iinc (pc := 181) (v := -1) C dX10_road_181 rfl (by decide) (by rw [hn]; decide) rfl ?_
          obtain ⟨v41, hv41, e41⟩ : ∃ v : Int32, v = a166_7 + (-1) ∧ v.toInt = a166_7.toInt + (-1) := ⟨_, rfl, zadd_eb b38x (zB.of (x := (-1)) (-1) (by decide)) (by decide) (by decide)⟩
          rw [← hv41]
          have b41x : zB v41 0 21501 := by have q9 := b38x; constructor <;> omega
          refine z_goto (pc := 184) 166 C dX10_road_184 (by decide) ?_
          exact ih5 b166_1 b166_2 (zB.wk (a' := 0) (b' := 21502) b39x (by decide) (by decide)) a166_4 b166_4 a166_5 b166_5 v40 b40x v41 (zB.wk (a' := 0) (b' := 21502) b41x (by decide) (by decide)) g166_ hI166_ hF166_ f166_25_0_13 (by omega) (by omega) (by omega)
  obtain ⟨J0, J1, J2, J3, J4, J5⟩ := J 79562482728969
  show Z X 0 [some (zr 25 0), some (zi a1), some (zi a2), some (zi a3), none, none, none, none] [] f
  refine z_iload_n (pc := 0) C dX10_road_0 rfl ?_
  refine z_callSb (pc := 1) C zk_X10_83 (m_X10_isLand _ _ _) rfl rfl (Nat.le_of_ble_eq_true rfl) dX10_road_1 (fun h1_41 => ?_) (fun h1_41 => ?_)
  · skip
    have b43x : zB a1 0 5 := h1_41
    refine z_if_eq (pc := 4) 20 C dX10_road_4 (by decide) (fun h => absurd h (by decide)) (fun _ => ?_)
    refine z_aload_n (pc := 7) C dX10_road_7 rfl ?_
    refine z_iload_n (pc := 8) C dX10_road_8 rfl ?_
    refine z_callVb (pc := 9) C zk_X10_120 (m_X10_isDeed _ _ _ hI) rfl rfl (by decide) rfl rfl (Nat.le_of_ble_eq_true rfl) dX10_road_9 (fun h9_43 => ?_) (fun h9_43 => ?_)
    · skip
      have b45x : zB a2 0 7 := (zltc h9_43 (hI 25 0 2).2)
      refine z_if_eq (pc := 12) 20 C dX10_road_12 (by decide) (fun h => absurd h (by decide)) (fun _ => ?_)
      refine z_iload_n (pc := 15) C dX10_road_15 rfl ?_
      refine z_iconst (pc := 16) (v := -1) C dX10_road_16 (by decide) ?_
      refine z_icmp_ge (pc := 17) 22 C dX10_road_17 (by decide) (fun h17_45 => ?_) (fun h17_45 => ?_)
      · skip
        have b47x : zB a3 (-1) 2147483647 := by have q1 := b3; have q2 := (zB.of (x := (-1)) (-1) (by decide)); simp only [z32lt, z32le, z32eq, Int32.reduceToInt, Int32.toInt_zero] at h17_45; constructor <;> omega
        refine z_aload_n (pc := 22) C dX10_road_22 rfl ?_
        refine z_callV (pc := 23) C zk_X10_179 (w_X10_findStates _ _  hI) rfl rfl (by decide) rfl rfl (Nat.le_of_ble_eq_true rfl) dX10_road_23 (fun r48 g48 q48 => ?_)
        obtain ⟨rfl, hI48, hF48q, hp48_0⟩ := q48
        have hF48 := zFr.tr hF hF48q (by decide)
        simp only [Option.toList, List.cons_append, List.nil_append]
        have cr48_25_0_13 : zB (g48 25 0 13) 0 21504 := hI48 25 0 13
        refine z_bipush (pc := 26) (v := -4) C dX10_road_26 (by decide) ?_
        refine z_istore (pc := 28) C dX10_road_28 (by rw [hn]; decide) rfl ?_
        refine z_aload_n (pc := 30) C dX10_road_30 rfl ?_
        refine z_getI (pc := 31) C zf_X10_168 rfl rfl (by decide) dX10_road_31 ?_
        refine w_gp (fun v => v.toInt = (g48 25 0 13).toInt) rfl (fun v49 e49 => ?_)
        have b49x : zB v49 0 21504 := by have q9 : zB (g48 25 0 13) 0 21504 := cr48_25_0_13; constructor <;> omega
        refine z_iconst (pc := 34) (v := 1) C dX10_road_34 (by decide) ?_
        refine z_isub (pc := 35) C dX10_road_35 ?_
        refine w_gp (fun v => v.toInt = v49.toInt - 1) (zsub_eb b49x (zB.of (x := 1) 1 (by decide)) (by decide) (by decide)) (fun v50 e50 => ?_)
        have b50x : zB v50 (-1) 21503 := by have q1 := b49x; have q2 := (zB.of (x := 1) 1 (by decide)); constructor <;> omega
        refine z_istore (pc := 36) C dX10_road_36 (by rw [hn]; decide) rfl ?_
        exact J1 b43x b45x b47x (-4) (zB.wk (a' := (-4)) (b' := 21503) (zB.of (x := (-4)) (-4) (by decide)) (by decide) (by decide)) v50 b50x g48 hI48 hF48 cr48_25_0_13 (by have qc0 : ((-4) : Int32).toInt = (-4) := (by decide); omega) (by have qc0 : ((-4) : Int32).toInt = (-4) := (by decide); omega) (by have qc0 : ((-4) : Int32).toInt = (-4) := (by decide); omega) (by have qc0 : ((-4) : Int32).toInt = (-4) := (by decide); omega)
      · skip
        have b51x : zB a3 (-2147483648) (-2) := by have q1 := b3; have q2 := (zB.of (x := (-1)) (-1) (by decide)); simp only [z32lt, z32le, z32eq, Int32.reduceToInt, Int32.toInt_zero] at h17_45; constructor <;> omega
        exact J0  f hI hF ct25_0_13 (by omega)
    · skip
      refine z_if_eq (pc := 12) 20 C dX10_road_12 (by decide) (fun _ => ?_) (fun h => absurd (by decide) h)
      exact J0  f hI hF ct25_0_13 (by omega)
  · skip
    refine z_if_eq (pc := 4) 20 C dX10_road_4 (by decide) (fun _ => ?_) (fun h => absurd (by decide) h)
    exact J0  f hI hF ct25_0_13 (by omega)
