set_option maxRecDepth 100000 in
set_option maxHeartbeats 4000000 in
theorem e_X10_readCrime (d : Nat) (f : zM) (a1 : Int32) (b1 : zB a1 0 5) (pf25_0_18 : zB (f 25 0 18) 0 11) (T : Nat → Int32) (n p : Nat) (hN : n ≤ 120) (h18 : f 25 0 16 = nI n) (hTp : ∀ i, i < n → f 36 0 i = T i) (hp : f 25 0 17 = nI p) (hb : p ≤ n) (hI : zInv f) : ZM (d + 2) yX10_readCrime cX10_readCrime 7 (some .boolean) [zr 25 0, zi a1] f (fun r g => (∃ v, r = some (zi v) ∧ zB v 0 1) ∧ zInv g ∧ zFr [(25, some 17), (25, some 18), (37, none)] f g ∧ (∀ v : Int32, r = some (zi v) → (∃ e, zCr (zmkR T n) T n a1 p = .inl e ∧ e ≤ n ∧ g 25 0 17 = nI e ∧ v = 0) ∨ (∃ q c, zCr (zmkR T n) T n a1 p = .inr (c, q) ∧ g 25 0 17 = nI q ∧ q ≤ n ∧ v = 1 ∧ g 25 0 18 = f 25 0 18 + 1 ∧ (∀ j, j < 6 → g 37 0 (6 * (f 25 0 18).toInt.toNat + j) = c j) ∧ (∀ x, (x < 6 * (f 25 0 18).toInt.toNat ∨ 6 * (f 25 0 18).toInt.toNat + 6 ≤ x) → g 37 0 x = f 37 0 x)))) := by
  refine ZM.intro (by decide +kernel) (Nat.le_of_ble_eq_true rfl) ?_
  intro X C hr hn
  have hF : zFr [(25, some 17), (25, some 18), (37, none)] f f := zFr.rf _ _
  have J : ∀ t : Nat, (∀ a106_2 : Int32, zB a106_2 0 66 → a106_2.toInt % 6 = 0 → ∀ a106_3 : Int32, zB a106_3 1 63 → ∀ a106_4 : Int32, zB a106_4 0 63 → ∀ a106_5 : Int32, zB a106_5 0 40 → ∀ a106_6 : Int32, zB a106_6 1 40 → ∀ g : zM, zInv g → zFr [(25, some 17), (25, some 18), (37, none)] f g → zB (g 25 0 18) 0 11 → (g 25 0 16 = nI n) → (∀ i, i < n → g 36 0 i = T i) → ((g 25 0 17).toInt.toNat ≤ n) → ((g 25 0 18).toInt = (f 25 0 18).toInt) → (a106_2.toInt = 6 * (f 25 0 18).toInt) → (∀ x j, g 37 x j = f 37 x j) → (zCr (zmkR T n) T n a1 p = if zch T n (zsp T n ((g 25 0 17).toInt.toNat)) = 33 then .inr (zc6 a1 a106_3 a106_4 a106_5 a106_6 1, zsp T n ((g 25 0 17).toInt.toNat) + 1) else .inr (zc6 a1 a106_3 a106_4 a106_5 a106_6 0, zsp T n ((g 25 0 17).toInt.toNat))) → (0 : Int) < t → Z X 106 [some (zr 25 0), some (zi a1), some (zi a106_2), some (zi a106_3), some (zi a106_4), some (zi a106_5), some (zi a106_6)] [] g) := by
    intro t
    induction t with
    | zero =>
      intros; exfalso; omega
    | succ t ih =>
      have ih0 := ih
      intro a106_2 b106_2 n106_2 a106_3 b106_3 a106_4 b106_4 a106_5 b106_5 a106_6 b106_6 g106_ hI106_ hF106_ f106_25_0_18 hR106_0 hR106_1 hR106_2 hR106_3 hR106_4 hR106_5 hR106_6 hM106_
      have hpl106 : g106_ 25 0 17 = nI ((g106_ 25 0 17).toInt.toNat) := (nI_ofI (hI106_ 25 0 17).1).1
      refine z_aload_n (pc := 106) C dX10_readCrime_106 rfl ?_
      refine z_getR (pc := 107) C zf_X10_43 rfl rfl (by decide) dX10_readCrime_107 ?_
      refine z_iload_n (pc := 110) C dX10_readCrime_110 rfl ?_
      refine z_iload_n (pc := 111) C dX10_readCrime_111 rfl ?_
      have kw112_0 : a106_2.toNatClampNeg = a106_2.toInt.toNat := rfl
      refine z_iast (pc := 112) C rfl (by decide) (zIx b106_2 (by decide) (by decide)) dX10_readCrime_112 ?_
      refine w_memx hI106_ hF106_ (by rw [zrg37 (r := 0) (by have hq : a106_2.toNatClampNeg = a106_2.toInt.toNat := rfl; have hq2 := b106_2; omega)]; exact b1) rfl (fun g1 qm1 hI1 hF1 hq1 hx1 => ?_)
      have ek1_25_0_18 : (g1 25 0 18).toInt = (g106_ 25 0 18).toInt := by rw [hq1 25 0 18 (fun h => absurd h.1 (by decide))]
      have c1_25_0_18x : zB (g1 25 0 18) 0 11 := by rw [hq1 25 0 18 (fun h => absurd h.1 (by decide))]; exact f106_25_0_18
      have h181 : g1 25 0 16 = nI n := by rw [qm1]; exact (zup_ne _ _ (fun h => absurd h.1 (by decide))).trans hR106_0
      have hTp1 : ∀ i, i < n → g1 36 0 i = T i := fun i hi => by rw [qm1]; exact (zup_ne _ _ (fun h => absurd h.1 (by decide))).trans (hR106_1 i hi)
      have hq1 : g1 25 0 17 = nI ((g106_ 25 0 17).toInt.toNat) := by rw [qm1]; exact (zup_ne _ _ (fun h => absurd h.1 (by decide))).trans hpl106
      refine z_aload_n (pc := 113) C dX10_readCrime_113 rfl ?_
      refine z_getR (pc := 114) C zf_X10_43 rfl rfl (by decide) dX10_readCrime_114 ?_
      refine z_iload_n (pc := 117) C dX10_readCrime_117 rfl ?_
      refine z_iconst (pc := 118) (v := 1) C dX10_readCrime_118 (by decide) ?_
      refine z_iadd (pc := 119) C dX10_readCrime_119 ?_
      refine w_gp (fun v => v = a106_2 + (1 : Int32)) rfl (fun v2 q2 => ?_)
      have e2 : v2.toInt = a106_2.toInt + 1 := by rw [q2]; exact (zadd_eb b106_2 (zB.of (x := 1) 1 (by decide)) (by decide) (by decide))
      have b2x : zB v2 1 67 := by have q1 := b106_2; have q2 := (zB.of (x := 1) 1 (by decide)); constructor <;> omega
      refine z_iload_n (pc := 120) C dX10_readCrime_120 rfl ?_
      have kw121_2 : v2.toNatClampNeg = v2.toInt.toNat := rfl
      refine z_iast (pc := 121) C rfl (by decide) (zIx b2x (by decide) (by decide)) dX10_readCrime_121 ?_
      refine w_memx hI1 hF1 (by rw [zrg37 (r := 1) (by have hq : v2.toNatClampNeg = v2.toInt.toNat := rfl; have hq2 := b2x; omega)]; exact (zB.wk (a' := 0) (b' := 63) b106_3 (by decide) (by decide))) rfl (fun g3 qm3 hI3 hF3 hq3 hx3 => ?_)
      have ek3_25_0_18 : (g3 25 0 18).toInt = (g1 25 0 18).toInt := by rw [hq3 25 0 18 (fun h => absurd h.1 (by decide))]
      have c3_25_0_18x : zB (g3 25 0 18) 0 11 := by rw [hq3 25 0 18 (fun h => absurd h.1 (by decide))]; exact c1_25_0_18x
      have h183 : g3 25 0 16 = nI n := by rw [qm3]; exact (zup_ne _ _ (fun h => absurd h.1 (by decide))).trans h181
      have hTp3 : ∀ i, i < n → g3 36 0 i = T i := fun i hi => by rw [qm3]; exact (zup_ne _ _ (fun h => absurd h.1 (by decide))).trans (hTp1 i hi)
      have hq3 : g3 25 0 17 = nI ((g106_ 25 0 17).toInt.toNat) := by rw [qm3]; exact (zup_ne _ _ (fun h => absurd h.1 (by decide))).trans hq1
      refine z_aload_n (pc := 122) C dX10_readCrime_122 rfl ?_
      refine z_getR (pc := 123) C zf_X10_43 rfl rfl (by decide) dX10_readCrime_123 ?_
      refine z_iload_n (pc := 126) C dX10_readCrime_126 rfl ?_
      refine z_iconst (pc := 127) (v := 2) C dX10_readCrime_127 (by decide) ?_
      refine z_iadd (pc := 128) C dX10_readCrime_128 ?_
      refine w_gp (fun v => v = a106_2 + (2 : Int32)) rfl (fun v4 q4 => ?_)
      have e4 : v4.toInt = a106_2.toInt + 2 := by rw [q4]; exact (zadd_eb b106_2 (zB.of (x := 2) 2 (by decide)) (by decide) (by decide))
      have b4x : zB v4 2 68 := by have q1 := b106_2; have q2 := (zB.of (x := 2) 2 (by decide)); constructor <;> omega
      refine z_iload (pc := 129) C dX10_readCrime_129 rfl ?_
      have kw131_4 : v4.toNatClampNeg = v4.toInt.toNat := rfl
      refine z_iast (pc := 131) C rfl (by decide) (zIx b4x (by decide) (by decide)) dX10_readCrime_131 ?_
      refine w_memx hI3 hF3 (by rw [zrg37 (r := 2) (by have hq : v4.toNatClampNeg = v4.toInt.toNat := rfl; have hq2 := b4x; omega)]; exact b106_4) rfl (fun g5 qm5 hI5 hF5 hq5 hx5 => ?_)
      have ek5_25_0_18 : (g5 25 0 18).toInt = (g3 25 0 18).toInt := by rw [hq5 25 0 18 (fun h => absurd h.1 (by decide))]
      have c5_25_0_18x : zB (g5 25 0 18) 0 11 := by rw [hq5 25 0 18 (fun h => absurd h.1 (by decide))]; exact c3_25_0_18x
      have h185 : g5 25 0 16 = nI n := by rw [qm5]; exact (zup_ne _ _ (fun h => absurd h.1 (by decide))).trans h183
      have hTp5 : ∀ i, i < n → g5 36 0 i = T i := fun i hi => by rw [qm5]; exact (zup_ne _ _ (fun h => absurd h.1 (by decide))).trans (hTp3 i hi)
      have hq5 : g5 25 0 17 = nI ((g106_ 25 0 17).toInt.toNat) := by rw [qm5]; exact (zup_ne _ _ (fun h => absurd h.1 (by decide))).trans hq3
      refine z_aload_n (pc := 132) C dX10_readCrime_132 rfl ?_
      refine z_getR (pc := 133) C zf_X10_43 rfl rfl (by decide) dX10_readCrime_133 ?_
      refine z_iload_n (pc := 136) C dX10_readCrime_136 rfl ?_
      refine z_iconst (pc := 137) (v := 3) C dX10_readCrime_137 (by decide) ?_
      refine z_iadd (pc := 138) C dX10_readCrime_138 ?_
      refine w_gp (fun v => v = a106_2 + (3 : Int32)) rfl (fun v6 q6 => ?_)
      have e6 : v6.toInt = a106_2.toInt + 3 := by rw [q6]; exact (zadd_eb b106_2 (zB.of (x := 3) 3 (by decide)) (by decide) (by decide))
      have b6x : zB v6 3 69 := by have q1 := b106_2; have q2 := (zB.of (x := 3) 3 (by decide)); constructor <;> omega
      refine z_iload (pc := 139) C dX10_readCrime_139 rfl ?_
      have kw141_6 : v6.toNatClampNeg = v6.toInt.toNat := rfl
      refine z_iast (pc := 141) C rfl (by decide) (zIx b6x (by decide) (by decide)) dX10_readCrime_141 ?_
      refine w_memx hI5 hF5 (by rw [zrg37 (r := 3) (by have hq : v6.toNatClampNeg = v6.toInt.toNat := rfl; have hq2 := b6x; omega)]; exact b106_5) rfl (fun g7 qm7 hI7 hF7 hq7 hx7 => ?_)
      have ek7_25_0_18 : (g7 25 0 18).toInt = (g5 25 0 18).toInt := by rw [hq7 25 0 18 (fun h => absurd h.1 (by decide))]
      have c7_25_0_18x : zB (g7 25 0 18) 0 11 := by rw [hq7 25 0 18 (fun h => absurd h.1 (by decide))]; exact c5_25_0_18x
      have h187 : g7 25 0 16 = nI n := by rw [qm7]; exact (zup_ne _ _ (fun h => absurd h.1 (by decide))).trans h185
      have hTp7 : ∀ i, i < n → g7 36 0 i = T i := fun i hi => by rw [qm7]; exact (zup_ne _ _ (fun h => absurd h.1 (by decide))).trans (hTp5 i hi)
      have hq7 : g7 25 0 17 = nI ((g106_ 25 0 17).toInt.toNat) := by rw [qm7]; exact (zup_ne _ _ (fun h => absurd h.1 (by decide))).trans hq5
      refine z_aload_n (pc := 142) C dX10_readCrime_142 rfl ?_
      refine z_getR (pc := 143) C zf_X10_43 rfl rfl (by decide) dX10_readCrime_143 ?_
      refine z_iload_n (pc := 146) C dX10_readCrime_146 rfl ?_
      refine z_iconst (pc := 147) (v := 4) C dX10_readCrime_147 (by decide) ?_
      refine z_iadd (pc := 148) C dX10_readCrime_148 ?_
      refine w_gp (fun v => v = a106_2 + (4 : Int32)) rfl (fun v8 q8 => ?_)
      have e8 : v8.toInt = a106_2.toInt + 4 := by rw [q8]; exact (zadd_eb b106_2 (zB.of (x := 4) 4 (by decide)) (by decide) (by decide))
      have b8x : zB v8 4 70 := by have q1 := b106_2; have q2 := (zB.of (x := 4) 4 (by decide)); constructor <;> omega
      refine z_iload (pc := 149) C dX10_readCrime_149 rfl ?_
      have kw151_8 : v8.toNatClampNeg = v8.toInt.toNat := rfl
      refine z_iast (pc := 151) C rfl (by decide) (zIx b8x (by decide) (by decide)) dX10_readCrime_151 ?_
      refine w_memx hI7 hF7 (by rw [zrg37 (r := 4) (by have hq : v8.toNatClampNeg = v8.toInt.toNat := rfl; have hq2 := b8x; omega)]; exact (zB.wk (a' := 0) (b' := 40) b106_6 (by decide) (by decide))) rfl (fun g9 qm9 hI9 hF9 hq9 hx9 => ?_)
      have ek9_25_0_18 : (g9 25 0 18).toInt = (g7 25 0 18).toInt := by rw [hq9 25 0 18 (fun h => absurd h.1 (by decide))]
      have c9_25_0_18x : zB (g9 25 0 18) 0 11 := by rw [hq9 25 0 18 (fun h => absurd h.1 (by decide))]; exact c7_25_0_18x
      have h189 : g9 25 0 16 = nI n := by rw [qm9]; exact (zup_ne _ _ (fun h => absurd h.1 (by decide))).trans h187
      have hTp9 : ∀ i, i < n → g9 36 0 i = T i := fun i hi => by rw [qm9]; exact (zup_ne _ _ (fun h => absurd h.1 (by decide))).trans (hTp7 i hi)
      have hq9 : g9 25 0 17 = nI ((g106_ 25 0 17).toInt.toNat) := by rw [qm9]; exact (zup_ne _ _ (fun h => absurd h.1 (by decide))).trans hq7
      refine z_aload_n (pc := 152) C dX10_readCrime_152 rfl ?_
      refine z_getR (pc := 153) C zf_X10_43 rfl rfl (by decide) dX10_readCrime_153 ?_
      refine z_iload_n (pc := 156) C dX10_readCrime_156 rfl ?_
      refine z_iconst (pc := 157) (v := 5) C dX10_readCrime_157 (by decide) ?_
      refine z_iadd (pc := 158) C dX10_readCrime_158 ?_
      refine w_gp (fun v => v = a106_2 + (5 : Int32)) rfl (fun v10 q10 => ?_)
      have e10 : v10.toInt = a106_2.toInt + 5 := by rw [q10]; exact (zadd_eb b106_2 (zB.of (x := 5) 5 (by decide)) (by decide) (by decide))
      have b10x : zB v10 5 71 := by have q1 := b106_2; have q2 := (zB.of (x := 5) 5 (by decide)); constructor <;> omega
      refine z_aload_n (pc := 159) C dX10_readCrime_159 rfl ?_
      refine z_bipush (pc := 160) (v := 33) C dX10_readCrime_160 (by decide) ?_
      refine z_callV (pc := 162) C zk_X10_227 (e_X10_takes _ _ 33 (zB.wk (a' := 1) (b' := 126) (zB.of (x := 33) 33 (by decide)) (by decide) (by decide)) T n ((g106_ 25 0 17).toInt.toNat) hN h189 hTp9 hq9 hR106_2 hI9) rfl rfl (by decide) rfl rfl (Nat.le_of_ble_eq_true rfl) dX10_readCrime_162 (fun r11 g11 q11 => ?_)
      obtain ⟨⟨v11, rfl, b11x⟩, hI11, hF11q, hp11⟩ := q11
      have hp11 := hp11 _ rfl
      have hF11 := zFr.tr hF9 hF11q (by decide)
      simp only [Option.toList, List.cons_append, List.nil_append]
      have ek11_25_0_18 : (g11 25 0 18).toInt = (g9 25 0 18).toInt := by rw [hF11q 25 0 18 rfl]
      have c11_25_0_18x : zB (g11 25 0 18) 0 11 := by rw [hF11q 25 0 18 rfl]; exact c9_25_0_18x
      have h1811 : g11 25 0 16 = nI n := (hF11q 25 0 16 rfl).trans h189
      have hTp11 : ∀ i, i < n → g11 36 0 i = T i := fun i hi => (hF11q 36 0 i rfl).trans (hTp9 i hi)
      rcases hp11 with ⟨hc11, rfl, hq11, hb11⟩ | ⟨hc11, rfl, hq11⟩
      · skip
        refine z_if_eq (pc := 165) 172 C dX10_readCrime_165 (by decide) (fun h => absurd h (by decide)) (fun _ => ?_)
        refine z_iconst (pc := 168) (v := 1) C dX10_readCrime_168 (by decide) ?_
        refine z_goto (pc := 169) 173 C dX10_readCrime_169 (by decide) ?_
        have kw173_11 : v10.toNatClampNeg = v10.toInt.toNat := rfl
        refine z_iast (pc := 173) C rfl (by decide) (zIx b10x (by decide) (by decide)) dX10_readCrime_173 ?_
        refine w_memx hI11 hF11 (by rw [zrg37 (r := 5) (by have hq : v10.toNatClampNeg = v10.toInt.toNat := rfl; have hq2 := b10x; omega)]; exact (zB.wk (a' := 0) (b' := 1) (zB.of (x := 1) 1 (by decide)) (by decide) (by decide))) rfl (fun g12 qm12 hI12 hF12 hq12 hx12 => ?_)
        have ek12_25_0_18 : (g12 25 0 18).toInt = (g11 25 0 18).toInt := by rw [hq12 25 0 18 (fun h => absurd h.1 (by decide))]
        have c12_25_0_18x : zB (g12 25 0 18) 0 11 := by rw [hq12 25 0 18 (fun h => absurd h.1 (by decide))]; exact c11_25_0_18x
        have h1812 : g12 25 0 16 = nI n := by rw [qm12]; exact (zup_ne _ _ (fun h => absurd h.1 (by decide))).trans h1811
        have hTp12 : ∀ i, i < n → g12 36 0 i = T i := fun i hi => by rw [qm12]; exact (zup_ne _ _ (fun h => absurd h.1 (by decide))).trans (hTp11 i hi)
        have hq12 : g12 25 0 17 = nI (zsp T n ((g106_ 25 0 17).toInt.toNat) + 1) := by rw [qm12]; exact (zup_ne _ _ (fun h => absurd h.1 (by decide))).trans hq11
        refine z_aload_n (pc := 174) C dX10_readCrime_174 rfl ?_
        refine z_dupr (pc := 175) C dX10_readCrime_175 ?_
        refine z_getI (pc := 176) C zf_X10_221 rfl rfl (by decide) dX10_readCrime_176 ?_
        refine w_gp (fun v => v = g12 25 0 18) rfl (fun v13 q13 => ?_)
        have e13 : v13.toInt = (g12 25 0 18).toInt := by rw [q13]
        have b13x : zB v13 0 11 := by first | exact zB.eqv e13 c12_25_0_18x | (have q9 := c12_25_0_18x; constructor <;> omega)
        refine z_iconst (pc := 179) (v := 1) C dX10_readCrime_179 (by decide) ?_
        refine z_iadd (pc := 180) C dX10_readCrime_180 ?_
        refine w_gp (fun v => v = v13 + (1 : Int32)) rfl (fun v14 q14 => ?_)
        have e14 : v14.toInt = v13.toInt + 1 := by rw [q14]; exact (zadd_eb b13x (zB.of (x := 1) 1 (by decide)) (by decide) (by decide))
        have b14x : zB v14 1 12 := by have q1 := b13x; have q2 := (zB.of (x := 1) 1 (by decide)); constructor <;> omega
        refine z_putI (pc := 181) C zf_X10_221 zp_10_18 rfl rfl (by decide) dX10_readCrime_181 ?_
        refine w_memx hI12 hF12 (zB.wk (a' := 0) (b' := 12) b14x (by decide) (by decide)) rfl (fun g15 qm15 hI15 hF15 hq15 hx15 => ?_)
        have ec15 : (g15 25 0 18).toInt = v14.toInt := by rw [hx15]
        have c15x : zB (g15 25 0 18) 1 12 := by first | exact zB.eqv ec15 b14x | (have q9 := b14x; constructor <;> omega)
        have h1815 : g15 25 0 16 = nI n := by rw [qm15]; exact (zup_ne _ _ (fun h => absurd h.2.2 (by decide))).trans h1812
        have hTp15 : ∀ i, i < n → g15 36 0 i = T i := fun i hi => by rw [qm15]; exact (zup_ne _ _ (fun h => absurd h.1 (by decide))).trans (hTp12 i hi)
        have hq15 : g15 25 0 17 = nI (zsp T n ((g106_ 25 0 17).toInt.toNat) + 1) := by rw [qm15]; exact (zup_ne _ _ (fun h => absurd h.2.2 (by decide))).trans hq12
        refine z_iconst (pc := 184) (v := 1) C dX10_readCrime_184 (by decide) ?_
        exact z_zret (pc := 185) C hr (z01 (zB.wk (a' := 0) (b' := 1) (zB.of (x := 1) 1 (by decide)) (by decide) (by decide))) dX10_readCrime_185 ⟨⟨_, rfl, (zB.wk (a' := 0) (b' := 1) (zB.of (x := 1) 1 (by decide)) (by decide) (by decide))⟩, hI15, hF15, (by
                                                                                          intro v hv; cases hv
                                                                                          have eA := hF11q
                                                                                          refine Or.inr ⟨_, zc6 a1 a106_3 a106_4 a106_5 a106_6 (1 : Int32), ?_, ?_, hb11, rfl, ?_, ?_, ?_⟩
                                                                                          · rw [hR106_6, if_pos hc11]
                                                                                          · exact hq15
                                                                                          · rw [z32eq]
                                                                                            have e1 : (f 25 0 18 + 1 : Int32).toInt = (f 25 0 18).toInt + 1 := zadd_eb pf25_0_18 (zB.of (x := 1) 1 (by decide)) (by decide) (by decide)
                                                                                            omega
                                                                                          · intro j hj
                                                                                            rcases (show j = 0 ∨ j = 1 ∨ j = 2 ∨ j = 3 ∨ j = 4 ∨ j = 5 by omega) with rfl | rfl | rfl | rfl | rfl | rfl
                                                                                            · rw [qm15, zup_ne _ _ (by omega), qm12, zup_ne _ _ (by omega), eA 37 0 _ rfl, qm9, zup_ne _ _ (by omega), qm7, zup_ne _ _ (by omega), qm5, zup_ne _ _ (by omega), qm3, zup_ne _ _ (by omega), qm1, show 6 * (f 25 0 18).toInt.toNat + 0 = (a106_2).toNatClampNeg by omega]; exact zup_same _ _ _ _ _
                                                                                            · rw [qm15, zup_ne _ _ (by omega), qm12, zup_ne _ _ (by omega), eA 37 0 _ rfl, qm9, zup_ne _ _ (by omega), qm7, zup_ne _ _ (by omega), qm5, zup_ne _ _ (by omega), qm3, show 6 * (f 25 0 18).toInt.toNat + 1 = (v2).toNatClampNeg by omega]; exact zup_same _ _ _ _ _
                                                                                            · rw [qm15, zup_ne _ _ (by omega), qm12, zup_ne _ _ (by omega), eA 37 0 _ rfl, qm9, zup_ne _ _ (by omega), qm7, zup_ne _ _ (by omega), qm5, show 6 * (f 25 0 18).toInt.toNat + 2 = (v4).toNatClampNeg by omega]; exact zup_same _ _ _ _ _
                                                                                            · rw [qm15, zup_ne _ _ (by omega), qm12, zup_ne _ _ (by omega), eA 37 0 _ rfl, qm9, zup_ne _ _ (by omega), qm7, show 6 * (f 25 0 18).toInt.toNat + 3 = (v6).toNatClampNeg by omega]; exact zup_same _ _ _ _ _
                                                                                            · rw [qm15, zup_ne _ _ (by omega), qm12, zup_ne _ _ (by omega), eA 37 0 _ rfl, qm9, show 6 * (f 25 0 18).toInt.toNat + 4 = (v8).toNatClampNeg by omega]; exact zup_same _ _ _ _ _
                                                                                            · rw [qm15, zup_ne _ _ (by omega), qm12, show 6 * (f 25 0 18).toInt.toNat + 5 = (v10).toNatClampNeg by omega]; exact zup_same _ _ _ _ _
                                                                                          · intro x hx
                                                                                            rw [qm15, zup_ne _ _ (by omega), qm12, zup_ne _ _ (by omega), eA 37 0 x rfl, qm9, zup_ne _ _ (by omega), qm7, zup_ne _ _ (by omega), qm5, zup_ne _ _ (by omega), qm3, zup_ne _ _ (by omega), qm1, zup_ne _ _ (by omega)]
                                                                                            exact hR106_5 0 x)⟩
      · skip
        have hb11 : zsp T n ((g106_ 25 0 17).toInt.toNat) ≤ n := zsp_len hR106_2
        refine z_if_eq (pc := 165) 172 C dX10_readCrime_165 (by decide) (fun _ => ?_) (fun h => absurd (by decide) h)
        refine z_iconst (pc := 172) (v := 0) C dX10_readCrime_172 (by decide) ?_
        have kw173_15 : v10.toNatClampNeg = v10.toInt.toNat := rfl
        refine z_iast (pc := 173) C rfl (by decide) (zIx b10x (by decide) (by decide)) dX10_readCrime_173 ?_
        refine w_memx hI11 hF11 (by rw [zrg37 (r := 5) (by have hq : v10.toNatClampNeg = v10.toInt.toNat := rfl; have hq2 := b10x; omega)]; exact (zB.wk (a' := 0) (b' := 1) (zB.of (x := 0) 0 (by decide)) (by decide) (by decide))) rfl (fun g16 qm16 hI16 hF16 hq16 hx16 => ?_)
        have ek16_25_0_18 : (g16 25 0 18).toInt = (g11 25 0 18).toInt := by rw [hq16 25 0 18 (fun h => absurd h.1 (by decide))]
        have c16_25_0_18x : zB (g16 25 0 18) 0 11 := by rw [hq16 25 0 18 (fun h => absurd h.1 (by decide))]; exact c11_25_0_18x
        have h1816 : g16 25 0 16 = nI n := by rw [qm16]; exact (zup_ne _ _ (fun h => absurd h.1 (by decide))).trans h1811
        have hTp16 : ∀ i, i < n → g16 36 0 i = T i := fun i hi => by rw [qm16]; exact (zup_ne _ _ (fun h => absurd h.1 (by decide))).trans (hTp11 i hi)
        have hq16 : g16 25 0 17 = nI (zsp T n ((g106_ 25 0 17).toInt.toNat)) := by rw [qm16]; exact (zup_ne _ _ (fun h => absurd h.1 (by decide))).trans hq11
        refine z_aload_n (pc := 174) C dX10_readCrime_174 rfl ?_
        refine z_dupr (pc := 175) C dX10_readCrime_175 ?_
        refine z_getI (pc := 176) C zf_X10_221 rfl rfl (by decide) dX10_readCrime_176 ?_
        refine w_gp (fun v => v = g16 25 0 18) rfl (fun v17 q17 => ?_)
        have e17 : v17.toInt = (g16 25 0 18).toInt := by rw [q17]
        have b17x : zB v17 0 11 := by first | exact zB.eqv e17 c16_25_0_18x | (have q9 := c16_25_0_18x; constructor <;> omega)
        refine z_iconst (pc := 179) (v := 1) C dX10_readCrime_179 (by decide) ?_
        refine z_iadd (pc := 180) C dX10_readCrime_180 ?_
        refine w_gp (fun v => v = v17 + (1 : Int32)) rfl (fun v18 q18 => ?_)
        have e18 : v18.toInt = v17.toInt + 1 := by rw [q18]; exact (zadd_eb b17x (zB.of (x := 1) 1 (by decide)) (by decide) (by decide))
        have b18x : zB v18 1 12 := by have q1 := b17x; have q2 := (zB.of (x := 1) 1 (by decide)); constructor <;> omega
        refine z_putI (pc := 181) C zf_X10_221 zp_10_18 rfl rfl (by decide) dX10_readCrime_181 ?_
        refine w_memx hI16 hF16 (zB.wk (a' := 0) (b' := 12) b18x (by decide) (by decide)) rfl (fun g19 qm19 hI19 hF19 hq19 hx19 => ?_)
        have ec19 : (g19 25 0 18).toInt = v18.toInt := by rw [hx19]
        have c19x : zB (g19 25 0 18) 1 12 := by first | exact zB.eqv ec19 b18x | (have q9 := b18x; constructor <;> omega)
        have h1819 : g19 25 0 16 = nI n := by rw [qm19]; exact (zup_ne _ _ (fun h => absurd h.2.2 (by decide))).trans h1816
        have hTp19 : ∀ i, i < n → g19 36 0 i = T i := fun i hi => by rw [qm19]; exact (zup_ne _ _ (fun h => absurd h.1 (by decide))).trans (hTp16 i hi)
        have hq19 : g19 25 0 17 = nI (zsp T n ((g106_ 25 0 17).toInt.toNat)) := by rw [qm19]; exact (zup_ne _ _ (fun h => absurd h.2.2 (by decide))).trans hq16
        refine z_iconst (pc := 184) (v := 1) C dX10_readCrime_184 (by decide) ?_
        exact z_zret (pc := 185) C hr (z01 (zB.wk (a' := 0) (b' := 1) (zB.of (x := 1) 1 (by decide)) (by decide) (by decide))) dX10_readCrime_185 ⟨⟨_, rfl, (zB.wk (a' := 0) (b' := 1) (zB.of (x := 1) 1 (by decide)) (by decide) (by decide))⟩, hI19, hF19, (by
                                                                                          intro v hv; cases hv
                                                                                          have eA := hF11q
                                                                                          refine Or.inr ⟨_, zc6 a1 a106_3 a106_4 a106_5 a106_6 (0 : Int32), ?_, ?_, hb11, rfl, ?_, ?_, ?_⟩
                                                                                          · rw [hR106_6, if_neg hc11]
                                                                                          · exact hq19
                                                                                          · rw [z32eq]
                                                                                            have e1 : (f 25 0 18 + 1 : Int32).toInt = (f 25 0 18).toInt + 1 := zadd_eb pf25_0_18 (zB.of (x := 1) 1 (by decide)) (by decide) (by decide)
                                                                                            omega
                                                                                          · intro j hj
                                                                                            rcases (show j = 0 ∨ j = 1 ∨ j = 2 ∨ j = 3 ∨ j = 4 ∨ j = 5 by omega) with rfl | rfl | rfl | rfl | rfl | rfl
                                                                                            · rw [qm19, zup_ne _ _ (by omega), qm16, zup_ne _ _ (by omega), eA 37 0 _ rfl, qm9, zup_ne _ _ (by omega), qm7, zup_ne _ _ (by omega), qm5, zup_ne _ _ (by omega), qm3, zup_ne _ _ (by omega), qm1, show 6 * (f 25 0 18).toInt.toNat + 0 = (a106_2).toNatClampNeg by omega]; exact zup_same _ _ _ _ _
                                                                                            · rw [qm19, zup_ne _ _ (by omega), qm16, zup_ne _ _ (by omega), eA 37 0 _ rfl, qm9, zup_ne _ _ (by omega), qm7, zup_ne _ _ (by omega), qm5, zup_ne _ _ (by omega), qm3, show 6 * (f 25 0 18).toInt.toNat + 1 = (v2).toNatClampNeg by omega]; exact zup_same _ _ _ _ _
                                                                                            · rw [qm19, zup_ne _ _ (by omega), qm16, zup_ne _ _ (by omega), eA 37 0 _ rfl, qm9, zup_ne _ _ (by omega), qm7, zup_ne _ _ (by omega), qm5, show 6 * (f 25 0 18).toInt.toNat + 2 = (v4).toNatClampNeg by omega]; exact zup_same _ _ _ _ _
                                                                                            · rw [qm19, zup_ne _ _ (by omega), qm16, zup_ne _ _ (by omega), eA 37 0 _ rfl, qm9, zup_ne _ _ (by omega), qm7, show 6 * (f 25 0 18).toInt.toNat + 3 = (v6).toNatClampNeg by omega]; exact zup_same _ _ _ _ _
                                                                                            · rw [qm19, zup_ne _ _ (by omega), qm16, zup_ne _ _ (by omega), eA 37 0 _ rfl, qm9, show 6 * (f 25 0 18).toInt.toNat + 4 = (v8).toNatClampNeg by omega]; exact zup_same _ _ _ _ _
                                                                                            · rw [qm19, zup_ne _ _ (by omega), qm16, show 6 * (f 25 0 18).toInt.toNat + 5 = (v10).toNatClampNeg by omega]; exact zup_same _ _ _ _ _
                                                                                          · intro x hx
                                                                                            rw [qm19, zup_ne _ _ (by omega), qm16, zup_ne _ _ (by omega), eA 37 0 x rfl, qm9, zup_ne _ _ (by omega), qm7, zup_ne _ _ (by omega), qm5, zup_ne _ _ (by omega), qm3, zup_ne _ _ (by omega), qm1, zup_ne _ _ (by omega)]
                                                                                            exact hR106_5 0 x)⟩
  have J0 := J 12
  show Z X 0 [some (zr 25 0), some (zi a1), none, none, none, none, none] [] f
  refine z_bipush (pc := 0) (v := 6) C dX10_readCrime_0 (by decide) ?_
  refine z_aload_n (pc := 2) C dX10_readCrime_2 rfl ?_
  refine z_getI (pc := 3) C zf_X10_221 rfl rfl (by decide) dX10_readCrime_3 ?_
  refine w_gp (fun v => v = f 25 0 18) rfl (fun v20 q20 => ?_)
  have e20 : v20.toInt = (f 25 0 18).toInt := by rw [q20]
  have b20x : zB v20 0 11 := by first | exact zB.eqv e20 pf25_0_18 | (have q9 := pf25_0_18; constructor <;> omega)
  refine z_imul (pc := 6) C dX10_readCrime_6 ?_
  refine w_gp (fun v => v = (6 : Int32) * v20) rfl (fun v21 q21 => ?_)
  have e21 : v21.toInt = 6 * v20.toInt := by rw [q21]; exact (zmul_kb 6 (by decide) (by decide) b20x (by decide) (by decide))
  have b21x : zB v21 0 66 := zmul_bb e21 (by decide) b20x
  refine z_istore_n (pc := 7) C dX10_readCrime_7 (by rw [hn]; decide) rfl ?_
  refine z_aload_n (pc := 8) C dX10_readCrime_8 rfl ?_
  refine z_iconst (pc := 9) (v := 0) C dX10_readCrime_9 (by decide) ?_
  refine z_callV (pc := 10) C zk_X10_224 (e_X10_readMarks _ _ 0 (zB.wk (a' := 0) (b' := 63) (zB.of (x := 0) 0 (by decide)) (by decide) (by decide)) T n (p) hN h18 hTp hp hb hI) rfl rfl (by decide) rfl rfl (Nat.le_of_ble_eq_true rfl) dX10_readCrime_10 (fun r22 g22 q22 => ?_)
  obtain ⟨⟨v22, rfl, b22x⟩, hI22, hF22q, hp22⟩ := q22
  have hp22 := hp22 _ rfl
  have hF22 := zFr.tr hF hF22q (by decide)
  simp only [Option.toList, List.cons_append, List.nil_append]
  have ek22_25_0_18 : (g22 25 0 18).toInt = (f 25 0 18).toInt := by rw [hF22q 25 0 18 rfl]
  have c22_25_0_18x : zB (g22 25 0 18) 0 11 := by rw [hF22q 25 0 18 rfl]; exact pf25_0_18
  rcases hp22 with ⟨u22, hc22, hb22, hq22, rfl⟩ | ⟨u22, hc22, hq22, hb22, hlo22⟩
  · skip
    have h1822 : g22 25 0 16 = nI n := (hF22q 25 0 16 rfl).trans h18
    have hTp22 : ∀ i, i < n → g22 36 0 i = T i := fun i hi => (hF22q 36 0 i rfl).trans (hTp i hi)
    have kk37_22 : ∀ x j, g22 37 x j = f 37 x j := fun x j => (hF22q 37 x j rfl).trans ((fun _ _ => rfl) x j)
    refine z_istore_n (pc := 13) C dX10_readCrime_13 (by rw [hn]; decide) rfl ?_
    refine z_iload_n (pc := 14) C dX10_readCrime_14 rfl ?_
    refine z_if_ne (pc := 15) 20 C dX10_readCrime_15 (by decide) (fun h15_22 => absurd h15_22 (by decide)) (fun h15_22 => ?_)
    refine z_iconst (pc := 18) (v := 0) C dX10_readCrime_18 (by decide) ?_
    exact z_zret (pc := 19) C hr (z01 (zB.wk (a' := 0) (b' := 1) (zB.of (x := 0) 0 (by decide)) (by decide) (by decide))) dX10_readCrime_19 ⟨⟨_, rfl, (zB.wk (a' := 0) (b' := 1) (zB.of (x := 0) 0 (by decide)) (by decide) (by decide))⟩, hI22, hF22, (by
                                                                                          intro v hv; cases hv
                                                                                          refine Or.inl ⟨_, ?_, hb22, hq22, rfl⟩
                                                                                          unfold zCr zmkR; simp only [zbd, znd, hc22])⟩
  · skip
    have h1822 : g22 25 0 16 = nI n := (hF22q 25 0 16 rfl).trans h18
    have hTp22 : ∀ i, i < n → g22 36 0 i = T i := fun i hi => (hF22q 36 0 i rfl).trans (hTp i hi)
    have kk37_22 : ∀ x j, g22 37 x j = f 37 x j := fun x j => (hF22q 37 x j rfl).trans ((fun _ _ => rfl) x j)
    have bo22x : zB v22 1 63 := by have qk22_0 : (0 : Int32).toInt = 0 := (by decide); constructor <;> omega
    refine z_istore_n (pc := 13) C dX10_readCrime_13 (by rw [hn]; decide) rfl ?_
    refine z_iload_n (pc := 14) C dX10_readCrime_14 rfl ?_
    refine z_if_ne (pc := 15) 20 C dX10_readCrime_15 (by decide) (fun h15_23 => ?_) (fun h15_23 => absurd h15_23 (by have q1 := bo22x; have q2 := (zB.of (x := 0) 0 (by decide)); first | (simp only [z32lt, z32le, z32eq]; omega) | (simp only [z32lt, z32le, z32eq] at *; omega)))
    refine z_iconst (pc := 20) (v := 0) C dX10_readCrime_20 (by decide) ?_
    refine z_istore (pc := 21) C dX10_readCrime_21 (by rw [hn]; decide) rfl ?_
    refine z_aload_n (pc := 23) C dX10_readCrime_23 rfl ?_
    refine z_bipush (pc := 24) (v := 45) C dX10_readCrime_24 (by decide) ?_
    refine z_callV (pc := 26) C zk_X10_227 (e_X10_takes _ _ 45 (zB.wk (a' := 1) (b' := 126) (zB.of (x := 45) 45 (by decide)) (by decide) (by decide)) T n (u22) hN h1822 hTp22 hq22 hb22 hI22) rfl rfl (by decide) rfl rfl (Nat.le_of_ble_eq_true rfl) dX10_readCrime_26 (fun r25 g25 q25 => ?_)
    obtain ⟨⟨v25, rfl, b25x⟩, hI25, hF25q, hp25⟩ := q25
    have hp25 := hp25 _ rfl
    have hF25 := zFr.tr hF22 hF25q (by decide)
    simp only [Option.toList, List.cons_append, List.nil_append]
    have ek25_25_0_18 : (g25 25 0 18).toInt = (g22 25 0 18).toInt := by rw [hF25q 25 0 18 rfl]
    have c25_25_0_18x : zB (g25 25 0 18) 0 11 := by rw [hF25q 25 0 18 rfl]; exact c22_25_0_18x
    have h1825 : g25 25 0 16 = nI n := (hF25q 25 0 16 rfl).trans h1822
    have hTp25 : ∀ i, i < n → g25 36 0 i = T i := fun i hi => (hF25q 36 0 i rfl).trans (hTp22 i hi)
    have kk37_25 : ∀ x j, g25 37 x j = f 37 x j := fun x j => (hF25q 37 x j rfl).trans (kk37_22 x j)
    rcases hp25 with ⟨hc25, rfl, hq25, hb25⟩ | ⟨hc25, rfl, hq25⟩
    · skip
      refine z_if_eq (pc := 29) 46 C dX10_readCrime_29 (by decide) (fun h => absurd h (by decide)) (fun _ => ?_)
      refine z_aload_n (pc := 32) C dX10_readCrime_32 rfl ?_
      refine z_iload_n (pc := 33) C dX10_readCrime_33 rfl ?_
      refine z_callV (pc := 34) C zk_X10_224 (e_X10_readMarks _ _ v22 (zB.wk (a' := 0) (b' := 63) bo22x (by decide) (by decide)) T n (zsp T n (u22) + 1) hN h1825 hTp25 hq25 hb25 hI25) rfl rfl (by decide) rfl rfl (Nat.le_of_ble_eq_true rfl) dX10_readCrime_34 (fun r26 g26 q26 => ?_)
      obtain ⟨⟨v26, rfl, b26x⟩, hI26, hF26q, hp26⟩ := q26
      have hp26 := hp26 _ rfl
      have hF26 := zFr.tr hF25 hF26q (by decide)
      simp only [Option.toList, List.cons_append, List.nil_append]
      have ek26_25_0_18 : (g26 25 0 18).toInt = (g25 25 0 18).toInt := by rw [hF26q 25 0 18 rfl]
      have c26_25_0_18x : zB (g26 25 0 18) 0 11 := by rw [hF26q 25 0 18 rfl]; exact c25_25_0_18x
      rcases hp26 with ⟨u26, hc26, hb26, hq26, rfl⟩ | ⟨u26, hc26, hq26, hb26, hlo26⟩
      · skip
        have h1826 : g26 25 0 16 = nI n := (hF26q 25 0 16 rfl).trans h1825
        have hTp26 : ∀ i, i < n → g26 36 0 i = T i := fun i hi => (hF26q 36 0 i rfl).trans (hTp25 i hi)
        have kk37_26 : ∀ x j, g26 37 x j = f 37 x j := fun x j => (hF26q 37 x j rfl).trans (kk37_25 x j)
        refine z_istore (pc := 37) C dX10_readCrime_37 (by rw [hn]; decide) rfl ?_
        refine z_iload (pc := 39) C dX10_readCrime_39 rfl ?_
        refine z_if_ne (pc := 41) 46 C dX10_readCrime_41 (by decide) (fun h41_26 => absurd h41_26 (by decide)) (fun h41_26 => ?_)
        refine z_iconst (pc := 44) (v := 0) C dX10_readCrime_44 (by decide) ?_
        exact z_zret (pc := 45) C hr (z01 (zB.wk (a' := 0) (b' := 1) (zB.of (x := 0) 0 (by decide)) (by decide) (by decide))) dX10_readCrime_45 ⟨⟨_, rfl, (zB.wk (a' := 0) (b' := 1) (zB.of (x := 0) 0 (by decide)) (by decide) (by decide))⟩, hI26, hF26, (by
                                                                                          intro v hv; cases hv
                                                                                          refine Or.inl ⟨_, ?_, hb26, hq26, rfl⟩
                                                                                          unfold zCr zmkR; simp only [zbd, znd, hc22, if_pos hc25, hc26])⟩
      · skip
        have h1826 : g26 25 0 16 = nI n := (hF26q 25 0 16 rfl).trans h1825
        have hTp26 : ∀ i, i < n → g26 36 0 i = T i := fun i hi => (hF26q 36 0 i rfl).trans (hTp25 i hi)
        have kk37_26 : ∀ x j, g26 37 x j = f 37 x j := fun x j => (hF26q 37 x j rfl).trans (kk37_25 x j)
        have bo26x : zB v26 1 63 := by first | assumption | (constructor <;> omega)
        refine z_istore (pc := 37) C dX10_readCrime_37 (by rw [hn]; decide) rfl ?_
        refine z_iload (pc := 39) C dX10_readCrime_39 rfl ?_
        refine z_if_ne (pc := 41) 46 C dX10_readCrime_41 (by decide) (fun h41_27 => ?_) (fun h41_27 => absurd h41_27 (by have q1 := bo26x; have q2 := (zB.of (x := 0) 0 (by decide)); first | (simp only [z32lt, z32le, z32eq]; omega) | (simp only [z32lt, z32le, z32eq] at *; omega)))
        refine z_aload_n (pc := 46) C dX10_readCrime_46 rfl ?_
        refine z_iconst (pc := 47) (v := 0) C dX10_readCrime_47 (by decide) ?_
        refine z_bipush (pc := 48) (v := 40) C dX10_readCrime_48 (by decide) ?_
        refine z_callV (pc := 50) C zk_X10_230 (e_X10_readNumber _ _ 0 (zB.wk (a' := 0) (b' := 40) (zB.of (x := 0) 0 (by decide)) (by decide) (by decide)) 40 (zB.wk (a' := 0) (b' := 99) (zB.of (x := 40) 40 (by decide)) (by decide) (by decide)) T n (u26) hN h1826 hTp26 hq26 hb26 hI26) rfl rfl (by decide) rfl rfl (Nat.le_of_ble_eq_true rfl) dX10_readCrime_50 (fun r29 g29 q29 => ?_)
        obtain ⟨⟨v29, rfl, b29x⟩, hI29, hF29q, hp29⟩ := q29
        have hp29 := hp29 _ rfl
        have hF29 := zFr.tr hF26 hF29q (by decide)
        simp only [Option.toList, List.cons_append, List.nil_append]
        have ek29_25_0_18 : (g29 25 0 18).toInt = (g26 25 0 18).toInt := by rw [hF29q 25 0 18 rfl]
        have c29_25_0_18x : zB (g29 25 0 18) 0 11 := by rw [hF29q 25 0 18 rfl]; exact c26_25_0_18x
        rcases hp29 with ⟨u29, hc29, hb29, hq29, rfl⟩ | ⟨u29, hc29, hq29, hb29, hlo29, hhi29⟩
        · skip
          have hd29 : znu T n 0 40 (u26) = _ := hc29
          have h1829 : g29 25 0 16 = nI n := (hF29q 25 0 16 rfl).trans h1826
          have hTp29 : ∀ i, i < n → g29 36 0 i = T i := fun i hi => (hF29q 36 0 i rfl).trans (hTp26 i hi)
          have kk37_29 : ∀ x j, g29 37 x j = f 37 x j := fun x j => (hF29q 37 x j rfl).trans (kk37_26 x j)
          refine z_istore (pc := 53) C dX10_readCrime_53 (by rw [hn]; decide) rfl ?_
          refine z_iload (pc := 55) C dX10_readCrime_55 rfl ?_
          refine z_if_lt (pc := 57) 78 C dX10_readCrime_57 (by decide) (fun h57_29 => ?_) (fun h57_29 => absurd h57_29 (by decide))
          refine z_iconst (pc := 78) (v := 0) C dX10_readCrime_78 (by decide) ?_
          exact z_zret (pc := 79) C hr (z01 (zB.wk (a' := 0) (b' := 1) (zB.of (x := 0) 0 (by decide)) (by decide) (by decide))) dX10_readCrime_79 ⟨⟨_, rfl, (zB.wk (a' := 0) (b' := 1) (zB.of (x := 0) 0 (by decide)) (by decide) (by decide))⟩, hI29, hF29, (by
                                                                                          intro v hv; cases hv
                                                                                          refine Or.inl ⟨_, ?_, hb29, hq29, rfl⟩
                                                                                          unfold zCr zmkR; simp only [zbd, znd, hc22, if_pos hc25, hc26, hd29])⟩
        · skip
          have hd29 : znu T n 0 40 (u26) = _ := hc29
          have h1829 : g29 25 0 16 = nI n := (hF29q 25 0 16 rfl).trans h1826
          have hTp29 : ∀ i, i < n → g29 36 0 i = T i := fun i hi => (hF29q 36 0 i rfl).trans (hTp26 i hi)
          have kk37_29 : ∀ x j, g29 37 x j = f 37 x j := fun x j => (hF29q 37 x j rfl).trans (kk37_26 x j)
          have bo29x : zB v29 0 40 := by have qk29_0 : (0 : Int32).toInt = 0 := (by decide); have qk29_1 : (40 : Int32).toInt = 40 := (by decide); constructor <;> omega
          refine z_istore (pc := 53) C dX10_readCrime_53 (by rw [hn]; decide) rfl ?_
          refine z_iload (pc := 55) C dX10_readCrime_55 rfl ?_
          refine z_if_lt (pc := 57) 78 C dX10_readCrime_57 (by decide) (fun h57_30 => absurd h57_30 (by have q1 := bo29x; have q2 := (zB.of (x := 0) 0 (by decide)); first | (simp only [z32lt, z32le, z32eq]; omega) | (simp only [z32lt, z32le, z32eq] at *; omega))) (fun h57_30 => ?_)
          refine z_aload_n (pc := 60) C dX10_readCrime_60 rfl ?_
          refine z_bipush (pc := 61) (v := 46) C dX10_readCrime_61 (by decide) ?_
          refine z_callV (pc := 63) C zk_X10_227 (e_X10_takes _ _ 46 (zB.wk (a' := 1) (b' := 126) (zB.of (x := 46) 46 (by decide)) (by decide) (by decide)) T n (u29) hN h1829 hTp29 hq29 hb29 hI29) rfl rfl (by decide) rfl rfl (Nat.le_of_ble_eq_true rfl) dX10_readCrime_63 (fun r32 g32 q32 => ?_)
          obtain ⟨⟨v32, rfl, b32x⟩, hI32, hF32q, hp32⟩ := q32
          have hp32 := hp32 _ rfl
          have hF32 := zFr.tr hF29 hF32q (by decide)
          simp only [Option.toList, List.cons_append, List.nil_append]
          have ek32_25_0_18 : (g32 25 0 18).toInt = (g29 25 0 18).toInt := by rw [hF32q 25 0 18 rfl]
          have c32_25_0_18x : zB (g32 25 0 18) 0 11 := by rw [hF32q 25 0 18 rfl]; exact c29_25_0_18x
          have h1832 : g32 25 0 16 = nI n := (hF32q 25 0 16 rfl).trans h1829
          have hTp32 : ∀ i, i < n → g32 36 0 i = T i := fun i hi => (hF32q 36 0 i rfl).trans (hTp29 i hi)
          have kk37_32 : ∀ x j, g32 37 x j = f 37 x j := fun x j => (hF32q 37 x j rfl).trans (kk37_29 x j)
          rcases hp32 with ⟨hc32, rfl, hq32, hb32⟩ | ⟨hc32, rfl, hq32⟩
          · skip
            refine z_if_eq (pc := 66) 78 C dX10_readCrime_66 (by decide) (fun h => absurd h (by decide)) (fun _ => ?_)
            refine z_aload_n (pc := 69) C dX10_readCrime_69 rfl ?_
            refine z_bipush (pc := 70) (v := 46) C dX10_readCrime_70 (by decide) ?_
            refine z_callV (pc := 72) C zk_X10_227 (e_X10_takes _ _ 46 (zB.wk (a' := 1) (b' := 126) (zB.of (x := 46) 46 (by decide)) (by decide) (by decide)) T n (zsp T n (u29) + 1) hN h1832 hTp32 hq32 hb32 hI32) rfl rfl (by decide) rfl rfl (Nat.le_of_ble_eq_true rfl) dX10_readCrime_72 (fun r33 g33 q33 => ?_)
            obtain ⟨⟨v33, rfl, b33x⟩, hI33, hF33q, hp33⟩ := q33
            have hp33 := hp33 _ rfl
            have hF33 := zFr.tr hF32 hF33q (by decide)
            simp only [Option.toList, List.cons_append, List.nil_append]
            have ek33_25_0_18 : (g33 25 0 18).toInt = (g32 25 0 18).toInt := by rw [hF33q 25 0 18 rfl]
            have c33_25_0_18x : zB (g33 25 0 18) 0 11 := by rw [hF33q 25 0 18 rfl]; exact c32_25_0_18x
            have h1833 : g33 25 0 16 = nI n := (hF33q 25 0 16 rfl).trans h1832
            have hTp33 : ∀ i, i < n → g33 36 0 i = T i := fun i hi => (hF33q 36 0 i rfl).trans (hTp32 i hi)
            have kk37_33 : ∀ x j, g33 37 x j = f 37 x j := fun x j => (hF33q 37 x j rfl).trans (kk37_32 x j)
            rcases hp33 with ⟨hc33, rfl, hq33, hb33⟩ | ⟨hc33, rfl, hq33⟩
            · skip
              refine z_if_ne (pc := 75) 80 C dX10_readCrime_75 (by decide) (fun _ => ?_) (fun h => absurd h (by decide))
              refine z_aload_n (pc := 80) C dX10_readCrime_80 rfl ?_
              refine z_iload (pc := 81) C dX10_readCrime_81 rfl ?_
              refine z_if_le (pc := 83) 91 C dX10_readCrime_83 (by decide) (fun h83_33 => ?_) (fun h83_33 => ?_)
              · skip
                have b35x : zB v29 0 0 := by have q1 := bo29x; have q2 := (zB.of (x := 0) 0 (by decide)); simp only [z32lt, z32le, z32eq, Int32.reduceToInt, Int32.toInt_zero] at h83_33; constructor <;> omega
                refine z_iconst (pc := 91) (v := 1) C dX10_readCrime_91 (by decide) ?_
                refine z_bipush (pc := 92) (v := 40) C dX10_readCrime_92 (by decide) ?_
                refine z_callV (pc := 94) C zk_X10_230 (e_X10_readNumber _ _ 1 (zB.wk (a' := 0) (b' := 40) (zB.of (x := 1) 1 (by decide)) (by decide) (by decide)) 40 (zB.wk (a' := 0) (b' := 99) (zB.of (x := 40) 40 (by decide)) (by decide) (by decide)) T n (zsp T n (zsp T n (u29) + 1) + 1) hN h1833 hTp33 hq33 hb33 hI33) rfl rfl (by decide) rfl rfl (Nat.le_of_ble_eq_true rfl) dX10_readCrime_94 (fun r36 g36 q36 => ?_)
                obtain ⟨⟨v36, rfl, b36x⟩, hI36, hF36q, hp36⟩ := q36
                have hp36 := hp36 _ rfl
                have hF36 := zFr.tr hF33 hF36q (by decide)
                simp only [Option.toList, List.cons_append, List.nil_append]
                have ek36_25_0_18 : (g36 25 0 18).toInt = (g33 25 0 18).toInt := by rw [hF36q 25 0 18 rfl]
                have c36_25_0_18x : zB (g36 25 0 18) 0 11 := by rw [hF36q 25 0 18 rfl]; exact c33_25_0_18x
                rcases hp36 with ⟨u36, hc36, hb36, hq36, rfl⟩ | ⟨u36, hc36, hq36, hb36, hlo36, hhi36⟩
                · skip
                  have hd36 : znu T n 1 40 (zsp T n (zsp T n (u29) + 1) + 1) = _ := hc36
                  have h1836 : g36 25 0 16 = nI n := (hF36q 25 0 16 rfl).trans h1833
                  have hTp36 : ∀ i, i < n → g36 36 0 i = T i := fun i hi => (hF36q 36 0 i rfl).trans (hTp33 i hi)
                  have kk37_36 : ∀ x j, g36 37 x j = f 37 x j := fun x j => (hF36q 37 x j rfl).trans (kk37_33 x j)
                  refine z_istore (pc := 97) C dX10_readCrime_97 (by rw [hn]; decide) rfl ?_
                  refine z_iload (pc := 99) C dX10_readCrime_99 rfl ?_
                  refine z_if_ge (pc := 101) 106 C dX10_readCrime_101 (by decide) (fun h101_36 => absurd h101_36 (by decide)) (fun h101_36 => ?_)
                  refine z_iconst (pc := 104) (v := 0) C dX10_readCrime_104 (by decide) ?_
                  exact z_zret (pc := 105) C hr (z01 (zB.wk (a' := 0) (b' := 1) (zB.of (x := 0) 0 (by decide)) (by decide) (by decide))) dX10_readCrime_105 ⟨⟨_, rfl, (zB.wk (a' := 0) (b' := 1) (zB.of (x := 0) 0 (by decide)) (by decide) (by decide))⟩, hI36, hF36, (by
                                                                                          intro v hv; cases hv
                                                                                          have em : (1 : Int) = max 1 v29.toInt := by
                                                                                            have c1 : (1 : Int32).toInt = 1 := by decide
                                                                                            omega
                                                                                          rw [em] at hd36
                                                                                          refine Or.inl ⟨_, ?_, hb36, hq36, rfl⟩
                                                                                          unfold zCr zmkR; simp only [zbd, znd, hc22, if_pos hc25, hc26, hd29, if_pos hc32, if_pos hc33, hd36])⟩
                · skip
                  have hd36 : znu T n 1 40 (zsp T n (zsp T n (u29) + 1) + 1) = _ := hc36
                  have h1836 : g36 25 0 16 = nI n := (hF36q 25 0 16 rfl).trans h1833
                  have hTp36 : ∀ i, i < n → g36 36 0 i = T i := fun i hi => (hF36q 36 0 i rfl).trans (hTp33 i hi)
                  have kk37_36 : ∀ x j, g36 37 x j = f 37 x j := fun x j => (hF36q 37 x j rfl).trans (kk37_33 x j)
                  have bo36x : zB v36 1 40 := by have qk36_0 : (1 : Int32).toInt = 1 := (by decide); have qk36_1 : (40 : Int32).toInt = 40 := (by decide); constructor <;> omega
                  refine z_istore (pc := 97) C dX10_readCrime_97 (by rw [hn]; decide) rfl ?_
                  refine z_iload (pc := 99) C dX10_readCrime_99 rfl ?_
                  refine z_if_ge (pc := 101) 106 C dX10_readCrime_101 (by decide) (fun h101_37 => ?_) (fun h101_37 => absurd h101_37 (by have q1 := bo36x; have q2 := (zB.of (x := 0) 0 (by decide)); first | (simp only [z32lt, z32le, z32eq]; omega) | (simp only [z32lt, z32le, z32eq] at *; omega)))
                  exact J0 v21 b21x (by omega) v22 bo22x v26 (zB.wk (a' := 0) (b' := 63) bo26x (by decide) (by decide)) v29 (zB.wk (a' := 0) (b' := 40) b35x (by decide) (by decide)) v36 bo36x g36 hI36 hF36 c36_25_0_18x (by exact h1836) (by exact hTp36) (by rw [hq36, nI_tt (by have := hb36; omega)]; exact hb36) (by omega) (by omega) (by exact kk37_36) (by
                                                                                          have em : (1 : Int) = max 1 v29.toInt := by
                                                                                            have c1 : (1 : Int32).toInt = 1 := by decide
                                                                                            omega
                                                                                          rw [em] at hd36
                                                                                          rw [hq36, nI_tt (by have := hb36; omega)]
                                                                                          unfold zCr zmkR
                                                                                          simp only [zbd, znd, hc22, if_pos hc25, hc26, hd29, if_pos hc32, if_pos hc33, hd36]) (by omega)
              · skip
                have b39x : zB v29 1 40 := by have q1 := bo29x; have q2 := (zB.of (x := 0) 0 (by decide)); simp only [z32lt, z32le, z32eq, Int32.reduceToInt, Int32.toInt_zero] at h83_33; constructor <;> omega
                refine z_iload (pc := 86) C dX10_readCrime_86 rfl ?_
                refine z_goto (pc := 88) 92 C dX10_readCrime_88 (by decide) ?_
                refine z_bipush (pc := 92) (v := 40) C dX10_readCrime_92 (by decide) ?_
                refine z_callV (pc := 94) C zk_X10_230 (e_X10_readNumber _ _ v29 (zB.wk (a' := 0) (b' := 40) b39x (by decide) (by decide)) 40 (zB.wk (a' := 0) (b' := 99) (zB.of (x := 40) 40 (by decide)) (by decide) (by decide)) T n (zsp T n (zsp T n (u29) + 1) + 1) hN h1833 hTp33 hq33 hb33 hI33) rfl rfl (by decide) rfl rfl (Nat.le_of_ble_eq_true rfl) dX10_readCrime_94 (fun r40 g40 q40 => ?_)
                obtain ⟨⟨v40, rfl, b40x⟩, hI40, hF40q, hp40⟩ := q40
                have hp40 := hp40 _ rfl
                have hF40 := zFr.tr hF33 hF40q (by decide)
                simp only [Option.toList, List.cons_append, List.nil_append]
                have ek40_25_0_18 : (g40 25 0 18).toInt = (g33 25 0 18).toInt := by rw [hF40q 25 0 18 rfl]
                have c40_25_0_18x : zB (g40 25 0 18) 0 11 := by rw [hF40q 25 0 18 rfl]; exact c33_25_0_18x
                rcases hp40 with ⟨u40, hc40, hb40, hq40, rfl⟩ | ⟨u40, hc40, hq40, hb40, hlo40, hhi40⟩
                · skip
                  have hd40 : znu T n v29.toInt 40 (zsp T n (zsp T n (u29) + 1) + 1) = _ := hc40
                  have h1840 : g40 25 0 16 = nI n := (hF40q 25 0 16 rfl).trans h1833
                  have hTp40 : ∀ i, i < n → g40 36 0 i = T i := fun i hi => (hF40q 36 0 i rfl).trans (hTp33 i hi)
                  have kk37_40 : ∀ x j, g40 37 x j = f 37 x j := fun x j => (hF40q 37 x j rfl).trans (kk37_33 x j)
                  refine z_istore (pc := 97) C dX10_readCrime_97 (by rw [hn]; decide) rfl ?_
                  refine z_iload (pc := 99) C dX10_readCrime_99 rfl ?_
                  refine z_if_ge (pc := 101) 106 C dX10_readCrime_101 (by decide) (fun h101_40 => absurd h101_40 (by decide)) (fun h101_40 => ?_)
                  refine z_iconst (pc := 104) (v := 0) C dX10_readCrime_104 (by decide) ?_
                  exact z_zret (pc := 105) C hr (z01 (zB.wk (a' := 0) (b' := 1) (zB.of (x := 0) 0 (by decide)) (by decide) (by decide))) dX10_readCrime_105 ⟨⟨_, rfl, (zB.wk (a' := 0) (b' := 1) (zB.of (x := 0) 0 (by decide)) (by decide) (by decide))⟩, hI40, hF40, (by
                                                                                          intro v hv; cases hv
                                                                                          have em : ((v29).toInt : Int) = max 1 v29.toInt := by
                                                                                            have c1 : (1 : Int32).toInt = 1 := by decide
                                                                                            omega
                                                                                          rw [em] at hd40
                                                                                          refine Or.inl ⟨_, ?_, hb40, hq40, rfl⟩
                                                                                          unfold zCr zmkR; simp only [zbd, znd, hc22, if_pos hc25, hc26, hd29, if_pos hc32, if_pos hc33, hd40])⟩
                · skip
                  have hd40 : znu T n v29.toInt 40 (zsp T n (zsp T n (u29) + 1) + 1) = _ := hc40
                  have h1840 : g40 25 0 16 = nI n := (hF40q 25 0 16 rfl).trans h1833
                  have hTp40 : ∀ i, i < n → g40 36 0 i = T i := fun i hi => (hF40q 36 0 i rfl).trans (hTp33 i hi)
                  have kk37_40 : ∀ x j, g40 37 x j = f 37 x j := fun x j => (hF40q 37 x j rfl).trans (kk37_33 x j)
                  have bo40x : zB v40 1 40 := by have qk40_1 : (40 : Int32).toInt = 40 := (by decide); constructor <;> omega
                  refine z_istore (pc := 97) C dX10_readCrime_97 (by rw [hn]; decide) rfl ?_
                  refine z_iload (pc := 99) C dX10_readCrime_99 rfl ?_
                  refine z_if_ge (pc := 101) 106 C dX10_readCrime_101 (by decide) (fun h101_41 => ?_) (fun h101_41 => absurd h101_41 (by have q1 := bo40x; have q2 := (zB.of (x := 0) 0 (by decide)); first | (simp only [z32lt, z32le, z32eq]; omega) | (simp only [z32lt, z32le, z32eq] at *; omega)))
                  exact J0 v21 b21x (by omega) v22 bo22x v26 (zB.wk (a' := 0) (b' := 63) bo26x (by decide) (by decide)) v29 (zB.wk (a' := 0) (b' := 40) b39x (by decide) (by decide)) v40 bo40x g40 hI40 hF40 c40_25_0_18x (by exact h1840) (by exact hTp40) (by rw [hq40, nI_tt (by have := hb40; omega)]; exact hb40) (by omega) (by omega) (by exact kk37_40) (by
                                                                                          have em : ((v29).toInt : Int) = max 1 v29.toInt := by
                                                                                            have c1 : (1 : Int32).toInt = 1 := by decide
                                                                                            omega
                                                                                          rw [em] at hd40
                                                                                          rw [hq40, nI_tt (by have := hb40; omega)]
                                                                                          unfold zCr zmkR
                                                                                          simp only [zbd, znd, hc22, if_pos hc25, hc26, hd29, if_pos hc32, if_pos hc33, hd40]) (by omega)
            · skip
              have hb33 : zsp T n (zsp T n (u29) + 1) ≤ n := zsp_len hb32
              refine z_if_ne (pc := 75) 80 C dX10_readCrime_75 (by decide) (fun h => absurd (by decide) h) (fun _ => ?_)
              refine z_iconst (pc := 78) (v := 0) C dX10_readCrime_78 (by decide) ?_
              exact z_zret (pc := 79) C hr (z01 (zB.wk (a' := 0) (b' := 1) (zB.of (x := 0) 0 (by decide)) (by decide) (by decide))) dX10_readCrime_79 ⟨⟨_, rfl, (zB.wk (a' := 0) (b' := 1) (zB.of (x := 0) 0 (by decide)) (by decide) (by decide))⟩, hI33, hF33, (by
                                                                                          intro v hv; cases hv
                                                                                          refine Or.inl ⟨_, ?_, hb33, hq33, rfl⟩
                                                                                          unfold zCr zmkR; simp only [zbd, znd, hc22, if_pos hc25, hc26, hd29, if_pos hc32, if_neg hc33])⟩
          · skip
            have hb32 : zsp T n (u29) ≤ n := zsp_len hb29
            refine z_if_eq (pc := 66) 78 C dX10_readCrime_66 (by decide) (fun _ => ?_) (fun h => absurd (by decide) h)
            refine z_iconst (pc := 78) (v := 0) C dX10_readCrime_78 (by decide) ?_
            exact z_zret (pc := 79) C hr (z01 (zB.wk (a' := 0) (b' := 1) (zB.of (x := 0) 0 (by decide)) (by decide) (by decide))) dX10_readCrime_79 ⟨⟨_, rfl, (zB.wk (a' := 0) (b' := 1) (zB.of (x := 0) 0 (by decide)) (by decide) (by decide))⟩, hI32, hF32, (by
                                                                                          intro v hv; cases hv
                                                                                          refine Or.inl ⟨_, ?_, hb32, hq32, rfl⟩
                                                                                          unfold zCr zmkR; simp only [zbd, znd, hc22, if_pos hc25, hc26, hd29, if_neg hc32])⟩
    · skip
      have hb25 : zsp T n (u22) ≤ n := zsp_len hb22
      refine z_if_eq (pc := 29) 46 C dX10_readCrime_29 (by decide) (fun _ => ?_) (fun h => absurd (by decide) h)
      refine z_aload_n (pc := 46) C dX10_readCrime_46 rfl ?_
      refine z_iconst (pc := 47) (v := 0) C dX10_readCrime_47 (by decide) ?_
      refine z_bipush (pc := 48) (v := 40) C dX10_readCrime_48 (by decide) ?_
      refine z_callV (pc := 50) C zk_X10_230 (e_X10_readNumber _ _ 0 (zB.wk (a' := 0) (b' := 40) (zB.of (x := 0) 0 (by decide)) (by decide) (by decide)) 40 (zB.wk (a' := 0) (b' := 99) (zB.of (x := 40) 40 (by decide)) (by decide) (by decide)) T n (zsp T n (u22)) hN h1825 hTp25 hq25 hb25 hI25) rfl rfl (by decide) rfl rfl (Nat.le_of_ble_eq_true rfl) dX10_readCrime_50 (fun r43 g43 q43 => ?_)
      obtain ⟨⟨v43, rfl, b43x⟩, hI43, hF43q, hp43⟩ := q43
      have hp43 := hp43 _ rfl
      have hF43 := zFr.tr hF25 hF43q (by decide)
      simp only [Option.toList, List.cons_append, List.nil_append]
      have ek43_25_0_18 : (g43 25 0 18).toInt = (g25 25 0 18).toInt := by rw [hF43q 25 0 18 rfl]
      have c43_25_0_18x : zB (g43 25 0 18) 0 11 := by rw [hF43q 25 0 18 rfl]; exact c25_25_0_18x
      rcases hp43 with ⟨u43, hc43, hb43, hq43, rfl⟩ | ⟨u43, hc43, hq43, hb43, hlo43, hhi43⟩
      · skip
        have hd43 : znu T n 0 40 (zsp T n (u22)) = _ := hc43
        have h1843 : g43 25 0 16 = nI n := (hF43q 25 0 16 rfl).trans h1825
        have hTp43 : ∀ i, i < n → g43 36 0 i = T i := fun i hi => (hF43q 36 0 i rfl).trans (hTp25 i hi)
        have kk37_43 : ∀ x j, g43 37 x j = f 37 x j := fun x j => (hF43q 37 x j rfl).trans (kk37_25 x j)
        refine z_istore (pc := 53) C dX10_readCrime_53 (by rw [hn]; decide) rfl ?_
        refine z_iload (pc := 55) C dX10_readCrime_55 rfl ?_
        refine z_if_lt (pc := 57) 78 C dX10_readCrime_57 (by decide) (fun h57_43 => ?_) (fun h57_43 => absurd h57_43 (by decide))
        refine z_iconst (pc := 78) (v := 0) C dX10_readCrime_78 (by decide) ?_
        exact z_zret (pc := 79) C hr (z01 (zB.wk (a' := 0) (b' := 1) (zB.of (x := 0) 0 (by decide)) (by decide) (by decide))) dX10_readCrime_79 ⟨⟨_, rfl, (zB.wk (a' := 0) (b' := 1) (zB.of (x := 0) 0 (by decide)) (by decide) (by decide))⟩, hI43, hF43, (by
                                                                                          intro v hv; cases hv
                                                                                          refine Or.inl ⟨_, ?_, hb43, hq43, rfl⟩
                                                                                          unfold zCr zmkR; simp only [zbd, znd, hc22, if_neg hc25, hd43])⟩
      · skip
        have hd43 : znu T n 0 40 (zsp T n (u22)) = _ := hc43
        have h1843 : g43 25 0 16 = nI n := (hF43q 25 0 16 rfl).trans h1825
        have hTp43 : ∀ i, i < n → g43 36 0 i = T i := fun i hi => (hF43q 36 0 i rfl).trans (hTp25 i hi)
        have kk37_43 : ∀ x j, g43 37 x j = f 37 x j := fun x j => (hF43q 37 x j rfl).trans (kk37_25 x j)
        have bo43x : zB v43 0 40 := by have qk43_0 : (0 : Int32).toInt = 0 := (by decide); have qk43_1 : (40 : Int32).toInt = 40 := (by decide); constructor <;> omega
        refine z_istore (pc := 53) C dX10_readCrime_53 (by rw [hn]; decide) rfl ?_
        refine z_iload (pc := 55) C dX10_readCrime_55 rfl ?_
        refine z_if_lt (pc := 57) 78 C dX10_readCrime_57 (by decide) (fun h57_44 => absurd h57_44 (by have q1 := bo43x; have q2 := (zB.of (x := 0) 0 (by decide)); first | (simp only [z32lt, z32le, z32eq]; omega) | (simp only [z32lt, z32le, z32eq] at *; omega))) (fun h57_44 => ?_)
        refine z_aload_n (pc := 60) C dX10_readCrime_60 rfl ?_
        refine z_bipush (pc := 61) (v := 46) C dX10_readCrime_61 (by decide) ?_
        refine z_callV (pc := 63) C zk_X10_227 (e_X10_takes _ _ 46 (zB.wk (a' := 1) (b' := 126) (zB.of (x := 46) 46 (by decide)) (by decide) (by decide)) T n (u43) hN h1843 hTp43 hq43 hb43 hI43) rfl rfl (by decide) rfl rfl (Nat.le_of_ble_eq_true rfl) dX10_readCrime_63 (fun r46 g46 q46 => ?_)
        obtain ⟨⟨v46, rfl, b46x⟩, hI46, hF46q, hp46⟩ := q46
        have hp46 := hp46 _ rfl
        have hF46 := zFr.tr hF43 hF46q (by decide)
        simp only [Option.toList, List.cons_append, List.nil_append]
        have ek46_25_0_18 : (g46 25 0 18).toInt = (g43 25 0 18).toInt := by rw [hF46q 25 0 18 rfl]
        have c46_25_0_18x : zB (g46 25 0 18) 0 11 := by rw [hF46q 25 0 18 rfl]; exact c43_25_0_18x
        have h1846 : g46 25 0 16 = nI n := (hF46q 25 0 16 rfl).trans h1843
        have hTp46 : ∀ i, i < n → g46 36 0 i = T i := fun i hi => (hF46q 36 0 i rfl).trans (hTp43 i hi)
        have kk37_46 : ∀ x j, g46 37 x j = f 37 x j := fun x j => (hF46q 37 x j rfl).trans (kk37_43 x j)
        rcases hp46 with ⟨hc46, rfl, hq46, hb46⟩ | ⟨hc46, rfl, hq46⟩
        · skip
          refine z_if_eq (pc := 66) 78 C dX10_readCrime_66 (by decide) (fun h => absurd h (by decide)) (fun _ => ?_)
          refine z_aload_n (pc := 69) C dX10_readCrime_69 rfl ?_
          refine z_bipush (pc := 70) (v := 46) C dX10_readCrime_70 (by decide) ?_
          refine z_callV (pc := 72) C zk_X10_227 (e_X10_takes _ _ 46 (zB.wk (a' := 1) (b' := 126) (zB.of (x := 46) 46 (by decide)) (by decide) (by decide)) T n (zsp T n (u43) + 1) hN h1846 hTp46 hq46 hb46 hI46) rfl rfl (by decide) rfl rfl (Nat.le_of_ble_eq_true rfl) dX10_readCrime_72 (fun r47 g47 q47 => ?_)
          obtain ⟨⟨v47, rfl, b47x⟩, hI47, hF47q, hp47⟩ := q47
          have hp47 := hp47 _ rfl
          have hF47 := zFr.tr hF46 hF47q (by decide)
          simp only [Option.toList, List.cons_append, List.nil_append]
          have ek47_25_0_18 : (g47 25 0 18).toInt = (g46 25 0 18).toInt := by rw [hF47q 25 0 18 rfl]
          have c47_25_0_18x : zB (g47 25 0 18) 0 11 := by rw [hF47q 25 0 18 rfl]; exact c46_25_0_18x
          have h1847 : g47 25 0 16 = nI n := (hF47q 25 0 16 rfl).trans h1846
          have hTp47 : ∀ i, i < n → g47 36 0 i = T i := fun i hi => (hF47q 36 0 i rfl).trans (hTp46 i hi)
          have kk37_47 : ∀ x j, g47 37 x j = f 37 x j := fun x j => (hF47q 37 x j rfl).trans (kk37_46 x j)
          rcases hp47 with ⟨hc47, rfl, hq47, hb47⟩ | ⟨hc47, rfl, hq47⟩
          · skip
            refine z_if_ne (pc := 75) 80 C dX10_readCrime_75 (by decide) (fun _ => ?_) (fun h => absurd h (by decide))
            refine z_aload_n (pc := 80) C dX10_readCrime_80 rfl ?_
            refine z_iload (pc := 81) C dX10_readCrime_81 rfl ?_
            refine z_if_le (pc := 83) 91 C dX10_readCrime_83 (by decide) (fun h83_47 => ?_) (fun h83_47 => ?_)
            · skip
              have b49x : zB v43 0 0 := by have q1 := bo43x; have q2 := (zB.of (x := 0) 0 (by decide)); simp only [z32lt, z32le, z32eq, Int32.reduceToInt, Int32.toInt_zero] at h83_47; constructor <;> omega
              refine z_iconst (pc := 91) (v := 1) C dX10_readCrime_91 (by decide) ?_
              refine z_bipush (pc := 92) (v := 40) C dX10_readCrime_92 (by decide) ?_
              refine z_callV (pc := 94) C zk_X10_230 (e_X10_readNumber _ _ 1 (zB.wk (a' := 0) (b' := 40) (zB.of (x := 1) 1 (by decide)) (by decide) (by decide)) 40 (zB.wk (a' := 0) (b' := 99) (zB.of (x := 40) 40 (by decide)) (by decide) (by decide)) T n (zsp T n (zsp T n (u43) + 1) + 1) hN h1847 hTp47 hq47 hb47 hI47) rfl rfl (by decide) rfl rfl (Nat.le_of_ble_eq_true rfl) dX10_readCrime_94 (fun r50 g50 q50 => ?_)
              obtain ⟨⟨v50, rfl, b50x⟩, hI50, hF50q, hp50⟩ := q50
              have hp50 := hp50 _ rfl
              have hF50 := zFr.tr hF47 hF50q (by decide)
              simp only [Option.toList, List.cons_append, List.nil_append]
              have ek50_25_0_18 : (g50 25 0 18).toInt = (g47 25 0 18).toInt := by rw [hF50q 25 0 18 rfl]
              have c50_25_0_18x : zB (g50 25 0 18) 0 11 := by rw [hF50q 25 0 18 rfl]; exact c47_25_0_18x
              rcases hp50 with ⟨u50, hc50, hb50, hq50, rfl⟩ | ⟨u50, hc50, hq50, hb50, hlo50, hhi50⟩
              · skip
                have hd50 : znu T n 1 40 (zsp T n (zsp T n (u43) + 1) + 1) = _ := hc50
                have h1850 : g50 25 0 16 = nI n := (hF50q 25 0 16 rfl).trans h1847
                have hTp50 : ∀ i, i < n → g50 36 0 i = T i := fun i hi => (hF50q 36 0 i rfl).trans (hTp47 i hi)
                have kk37_50 : ∀ x j, g50 37 x j = f 37 x j := fun x j => (hF50q 37 x j rfl).trans (kk37_47 x j)
                refine z_istore (pc := 97) C dX10_readCrime_97 (by rw [hn]; decide) rfl ?_
                refine z_iload (pc := 99) C dX10_readCrime_99 rfl ?_
                refine z_if_ge (pc := 101) 106 C dX10_readCrime_101 (by decide) (fun h101_50 => absurd h101_50 (by decide)) (fun h101_50 => ?_)
                refine z_iconst (pc := 104) (v := 0) C dX10_readCrime_104 (by decide) ?_
                exact z_zret (pc := 105) C hr (z01 (zB.wk (a' := 0) (b' := 1) (zB.of (x := 0) 0 (by decide)) (by decide) (by decide))) dX10_readCrime_105 ⟨⟨_, rfl, (zB.wk (a' := 0) (b' := 1) (zB.of (x := 0) 0 (by decide)) (by decide) (by decide))⟩, hI50, hF50, (by
                                                                                          intro v hv; cases hv
                                                                                          have em : (1 : Int) = max 1 v43.toInt := by
                                                                                            have c1 : (1 : Int32).toInt = 1 := by decide
                                                                                            omega
                                                                                          rw [em] at hd50
                                                                                          refine Or.inl ⟨_, ?_, hb50, hq50, rfl⟩
                                                                                          unfold zCr zmkR; simp only [zbd, znd, hc22, if_neg hc25, hd43, if_pos hc46, if_pos hc47, hd50])⟩
              · skip
                have hd50 : znu T n 1 40 (zsp T n (zsp T n (u43) + 1) + 1) = _ := hc50
                have h1850 : g50 25 0 16 = nI n := (hF50q 25 0 16 rfl).trans h1847
                have hTp50 : ∀ i, i < n → g50 36 0 i = T i := fun i hi => (hF50q 36 0 i rfl).trans (hTp47 i hi)
                have kk37_50 : ∀ x j, g50 37 x j = f 37 x j := fun x j => (hF50q 37 x j rfl).trans (kk37_47 x j)
                have bo50x : zB v50 1 40 := by have qk50_0 : (1 : Int32).toInt = 1 := (by decide); have qk50_1 : (40 : Int32).toInt = 40 := (by decide); constructor <;> omega
                refine z_istore (pc := 97) C dX10_readCrime_97 (by rw [hn]; decide) rfl ?_
                refine z_iload (pc := 99) C dX10_readCrime_99 rfl ?_
                refine z_if_ge (pc := 101) 106 C dX10_readCrime_101 (by decide) (fun h101_51 => ?_) (fun h101_51 => absurd h101_51 (by have q1 := bo50x; have q2 := (zB.of (x := 0) 0 (by decide)); first | (simp only [z32lt, z32le, z32eq]; omega) | (simp only [z32lt, z32le, z32eq] at *; omega)))
                exact J0 v21 b21x (by have qc0 : (0 : Int32).toInt = 0 := (by decide); omega) v22 bo22x 0 (zB.wk (a' := 0) (b' := 63) (zB.of (x := 0) 0 (by decide)) (by decide) (by decide)) v43 (zB.wk (a' := 0) (b' := 40) b49x (by decide) (by decide)) v50 bo50x g50 hI50 hF50 c50_25_0_18x (by exact h1850) (by exact hTp50) (by rw [hq50, nI_tt (by have := hb50; omega)]; exact hb50) (by have qc0 : (0 : Int32).toInt = 0 := (by decide); omega) (by have qc0 : (0 : Int32).toInt = 0 := (by decide); omega) (by exact kk37_50) (by
                                                                                          have em : (1 : Int) = max 1 v43.toInt := by
                                                                                            have c1 : (1 : Int32).toInt = 1 := by decide
                                                                                            omega
                                                                                          rw [em] at hd50
                                                                                          rw [hq50, nI_tt (by have := hb50; omega)]
                                                                                          unfold zCr zmkR
                                                                                          simp only [zbd, znd, hc22, if_neg hc25, hd43, if_pos hc46, if_pos hc47, hd50]) (by have qc0 : (0 : Int32).toInt = 0 := (by decide); omega)
            · skip
              have b53x : zB v43 1 40 := by have q1 := bo43x; have q2 := (zB.of (x := 0) 0 (by decide)); simp only [z32lt, z32le, z32eq, Int32.reduceToInt, Int32.toInt_zero] at h83_47; constructor <;> omega
              refine z_iload (pc := 86) C dX10_readCrime_86 rfl ?_
              refine z_goto (pc := 88) 92 C dX10_readCrime_88 (by decide) ?_
              refine z_bipush (pc := 92) (v := 40) C dX10_readCrime_92 (by decide) ?_
              refine z_callV (pc := 94) C zk_X10_230 (e_X10_readNumber _ _ v43 (zB.wk (a' := 0) (b' := 40) b53x (by decide) (by decide)) 40 (zB.wk (a' := 0) (b' := 99) (zB.of (x := 40) 40 (by decide)) (by decide) (by decide)) T n (zsp T n (zsp T n (u43) + 1) + 1) hN h1847 hTp47 hq47 hb47 hI47) rfl rfl (by decide) rfl rfl (Nat.le_of_ble_eq_true rfl) dX10_readCrime_94 (fun r54 g54 q54 => ?_)
              obtain ⟨⟨v54, rfl, b54x⟩, hI54, hF54q, hp54⟩ := q54
              have hp54 := hp54 _ rfl
              have hF54 := zFr.tr hF47 hF54q (by decide)
              simp only [Option.toList, List.cons_append, List.nil_append]
              have ek54_25_0_18 : (g54 25 0 18).toInt = (g47 25 0 18).toInt := by rw [hF54q 25 0 18 rfl]
              have c54_25_0_18x : zB (g54 25 0 18) 0 11 := by rw [hF54q 25 0 18 rfl]; exact c47_25_0_18x
              rcases hp54 with ⟨u54, hc54, hb54, hq54, rfl⟩ | ⟨u54, hc54, hq54, hb54, hlo54, hhi54⟩
              · skip
                have hd54 : znu T n v43.toInt 40 (zsp T n (zsp T n (u43) + 1) + 1) = _ := hc54
                have h1854 : g54 25 0 16 = nI n := (hF54q 25 0 16 rfl).trans h1847
                have hTp54 : ∀ i, i < n → g54 36 0 i = T i := fun i hi => (hF54q 36 0 i rfl).trans (hTp47 i hi)
                have kk37_54 : ∀ x j, g54 37 x j = f 37 x j := fun x j => (hF54q 37 x j rfl).trans (kk37_47 x j)
                refine z_istore (pc := 97) C dX10_readCrime_97 (by rw [hn]; decide) rfl ?_
                refine z_iload (pc := 99) C dX10_readCrime_99 rfl ?_
                refine z_if_ge (pc := 101) 106 C dX10_readCrime_101 (by decide) (fun h101_54 => absurd h101_54 (by decide)) (fun h101_54 => ?_)
                refine z_iconst (pc := 104) (v := 0) C dX10_readCrime_104 (by decide) ?_
                exact z_zret (pc := 105) C hr (z01 (zB.wk (a' := 0) (b' := 1) (zB.of (x := 0) 0 (by decide)) (by decide) (by decide))) dX10_readCrime_105 ⟨⟨_, rfl, (zB.wk (a' := 0) (b' := 1) (zB.of (x := 0) 0 (by decide)) (by decide) (by decide))⟩, hI54, hF54, (by
                                                                                          intro v hv; cases hv
                                                                                          have em : ((v43).toInt : Int) = max 1 v43.toInt := by
                                                                                            have c1 : (1 : Int32).toInt = 1 := by decide
                                                                                            omega
                                                                                          rw [em] at hd54
                                                                                          refine Or.inl ⟨_, ?_, hb54, hq54, rfl⟩
                                                                                          unfold zCr zmkR; simp only [zbd, znd, hc22, if_neg hc25, hd43, if_pos hc46, if_pos hc47, hd54])⟩
              · skip
                have hd54 : znu T n v43.toInt 40 (zsp T n (zsp T n (u43) + 1) + 1) = _ := hc54
                have h1854 : g54 25 0 16 = nI n := (hF54q 25 0 16 rfl).trans h1847
                have hTp54 : ∀ i, i < n → g54 36 0 i = T i := fun i hi => (hF54q 36 0 i rfl).trans (hTp47 i hi)
                have kk37_54 : ∀ x j, g54 37 x j = f 37 x j := fun x j => (hF54q 37 x j rfl).trans (kk37_47 x j)
                have bo54x : zB v54 1 40 := by have qk54_1 : (40 : Int32).toInt = 40 := (by decide); constructor <;> omega
                refine z_istore (pc := 97) C dX10_readCrime_97 (by rw [hn]; decide) rfl ?_
                refine z_iload (pc := 99) C dX10_readCrime_99 rfl ?_
                refine z_if_ge (pc := 101) 106 C dX10_readCrime_101 (by decide) (fun h101_55 => ?_) (fun h101_55 => absurd h101_55 (by have q1 := bo54x; have q2 := (zB.of (x := 0) 0 (by decide)); first | (simp only [z32lt, z32le, z32eq]; omega) | (simp only [z32lt, z32le, z32eq] at *; omega)))
                exact J0 v21 b21x (by have qc0 : (0 : Int32).toInt = 0 := (by decide); omega) v22 bo22x 0 (zB.wk (a' := 0) (b' := 63) (zB.of (x := 0) 0 (by decide)) (by decide) (by decide)) v43 (zB.wk (a' := 0) (b' := 40) b53x (by decide) (by decide)) v54 bo54x g54 hI54 hF54 c54_25_0_18x (by exact h1854) (by exact hTp54) (by rw [hq54, nI_tt (by have := hb54; omega)]; exact hb54) (by have qc0 : (0 : Int32).toInt = 0 := (by decide); omega) (by have qc0 : (0 : Int32).toInt = 0 := (by decide); omega) (by exact kk37_54) (by
                                                                                          have em : ((v43).toInt : Int) = max 1 v43.toInt := by
                                                                                            have c1 : (1 : Int32).toInt = 1 := by decide
                                                                                            omega
                                                                                          rw [em] at hd54
                                                                                          rw [hq54, nI_tt (by have := hb54; omega)]
                                                                                          unfold zCr zmkR
                                                                                          simp only [zbd, znd, hc22, if_neg hc25, hd43, if_pos hc46, if_pos hc47, hd54]) (by have qc0 : (0 : Int32).toInt = 0 := (by decide); omega)
          · skip
            have hb47 : zsp T n (zsp T n (u43) + 1) ≤ n := zsp_len hb46
            refine z_if_ne (pc := 75) 80 C dX10_readCrime_75 (by decide) (fun h => absurd (by decide) h) (fun _ => ?_)
            refine z_iconst (pc := 78) (v := 0) C dX10_readCrime_78 (by decide) ?_
            exact z_zret (pc := 79) C hr (z01 (zB.wk (a' := 0) (b' := 1) (zB.of (x := 0) 0 (by decide)) (by decide) (by decide))) dX10_readCrime_79 ⟨⟨_, rfl, (zB.wk (a' := 0) (b' := 1) (zB.of (x := 0) 0 (by decide)) (by decide) (by decide))⟩, hI47, hF47, (by
                                                                                          intro v hv; cases hv
                                                                                          refine Or.inl ⟨_, ?_, hb47, hq47, rfl⟩
                                                                                          unfold zCr zmkR; simp only [zbd, znd, hc22, if_neg hc25, hd43, if_pos hc46, if_neg hc47])⟩
        · skip
          have hb46 : zsp T n (u43) ≤ n := zsp_len hb43
          refine z_if_eq (pc := 66) 78 C dX10_readCrime_66 (by decide) (fun _ => ?_) (fun h => absurd (by decide) h)
          refine z_iconst (pc := 78) (v := 0) C dX10_readCrime_78 (by decide) ?_
          exact z_zret (pc := 79) C hr (z01 (zB.wk (a' := 0) (b' := 1) (zB.of (x := 0) 0 (by decide)) (by decide) (by decide))) dX10_readCrime_79 ⟨⟨_, rfl, (zB.wk (a' := 0) (b' := 1) (zB.of (x := 0) 0 (by decide)) (by decide) (by decide))⟩, hI46, hF46, (by
                                                                                          intro v hv; cases hv
                                                                                          refine Or.inl ⟨_, ?_, hb46, hq46, rfl⟩
                                                                                          unfold zCr zmkR; simp only [zbd, znd, hc22, if_neg hc25, hd43, if_neg hc46])⟩
