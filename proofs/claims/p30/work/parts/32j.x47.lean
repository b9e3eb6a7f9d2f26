theorem zkp_hit {f : zM} {k a i q : Nat} (h : q < i) : zkp f k a i 39 0 (a + q) = f k 0 q := by
  unfold zkp; rw [if_neg (by omega), if_pos (by omega), show a + q - a = q by omega]
theorem zkp_ne {f : zM} {k a i x y z : Nat} (h1 : ¬ (x = 25 ∧ y = 0 ∧ z = 24)) (h2 : ¬ (x = 39 ∧ y = 0 ∧ a ≤ z ∧ z < a + i)) : zkp f k a i x y z = f x y z := by
  unfold zkp; rw [if_neg h1, if_neg h2]
theorem zbr_hit {f : zM} {k a i q : Nat} (h : q < i) (hk : k ≠ 25) : zbr f k a i k 0 q = f 39 0 (a + q) := by
  unfold zbr; rw [if_neg (by omega), if_pos (by omega)]
theorem zbr_ne {f : zM} {k a i x y z : Nat} (h1 : ¬ (x = 25 ∧ y = 0 ∧ z = 24)) (h2 : ¬ (x = k ∧ y = 0 ∧ z < i)) : zbr f k a i x y z = f x y z := by
  unfold zbr; rw [if_neg h1, if_neg h2]
theorem zim_c0 (f : zM) : zim f 39 0 0 = f 25 0 0 := by
  unfold zim
  rw [zup_ne _ _ (by omega), zkp_ne (by omega) (by omega), zkp_ne (by omega) (by omega), zkp_ne (by omega) (by omega), zkp_ne (by omega) (by omega), zkp_ne (by omega) (by omega)]
  refine (zkp_hit (a := 0) (q := 0) (by decide)).trans ?_
  rw [zup_ne _ _ (by omega), zup_ne _ _ (by omega), zup_ne _ _ (by omega), zup_same]
theorem zre_c0 (f : zM) : zre f 25 0 0 = f 39 0 0 := by
  unfold zre
  rw [zbr_ne (by omega) (by omega), zbr_ne (by omega) (by omega), zbr_ne (by omega) (by omega), zbr_ne (by omega) (by omega), zbr_ne (by omega) (by omega), zup_ne _ _ (by omega), zup_ne _ _ (by omega), zup_ne _ _ (by omega), zup_same]
theorem zim_c1 (f : zM) : zim f 39 0 1 = f 25 0 2 := by
  unfold zim
  rw [zup_ne _ _ (by omega), zkp_ne (by omega) (by omega), zkp_ne (by omega) (by omega), zkp_ne (by omega) (by omega), zkp_ne (by omega) (by omega), zkp_ne (by omega) (by omega)]
  refine (zkp_hit (a := 0) (q := 1) (by decide)).trans ?_
  rw [zup_ne _ _ (by omega), zup_ne _ _ (by omega), zup_same]
theorem zre_c1 (f : zM) : zre f 25 0 2 = f 39 0 1 := by
  unfold zre
  rw [zbr_ne (by omega) (by omega), zbr_ne (by omega) (by omega), zbr_ne (by omega) (by omega), zbr_ne (by omega) (by omega), zbr_ne (by omega) (by omega), zup_ne _ _ (by omega), zup_ne _ _ (by omega), zup_same]
theorem zim_c2 (f : zM) : zim f 39 0 2 = f 25 0 4 := by
  unfold zim
  rw [zup_ne _ _ (by omega), zkp_ne (by omega) (by omega), zkp_ne (by omega) (by omega), zkp_ne (by omega) (by omega), zkp_ne (by omega) (by omega), zkp_ne (by omega) (by omega)]
  refine (zkp_hit (a := 0) (q := 2) (by decide)).trans ?_
  rw [zup_ne _ _ (by omega), zup_same]
theorem zre_c2 (f : zM) : zre f 25 0 4 = f 39 0 2 := by
  unfold zre
  rw [zbr_ne (by omega) (by omega), zbr_ne (by omega) (by omega), zbr_ne (by omega) (by omega), zbr_ne (by omega) (by omega), zbr_ne (by omega) (by omega), zup_ne _ _ (by omega), zup_same]
theorem zim_c3 (f : zM) : zim f 39 0 3 = f 25 0 6 := by
  unfold zim
  rw [zup_ne _ _ (by omega), zkp_ne (by omega) (by omega), zkp_ne (by omega) (by omega), zkp_ne (by omega) (by omega), zkp_ne (by omega) (by omega), zkp_ne (by omega) (by omega)]
  refine (zkp_hit (a := 0) (q := 3) (by decide)).trans ?_
  rw [zup_same]
theorem zre_c3 (f : zM) : zre f 25 0 6 = f 39 0 3 := by
  unfold zre
  rw [zbr_ne (by omega) (by omega), zbr_ne (by omega) (by omega), zbr_ne (by omega) (by omega), zbr_ne (by omega) (by omega), zbr_ne (by omega) (by omega), zup_same]
theorem zim_26 (f : zM) {q : Nat} (h : q < 144) : zim f 39 0 (4 + q) = f 26 0 q := by
  unfold zim
  rw [zup_ne _ _ (by omega), zkp_ne (by omega) (by omega), zkp_ne (by omega) (by omega), zkp_ne (by omega) (by omega), zkp_ne (by omega) (by omega), zkp_hit h, zkp_ne (by omega) (by omega), zup_ne _ _ (by omega), zup_ne _ _ (by omega), zup_ne _ _ (by omega), zup_ne _ _ (by omega), zup_ne _ _ (by omega)]
theorem zre_26 (f : zM) {q : Nat} (h : q < 144) : zre f 26 0 q = f 39 0 (4 + q) := by
  unfold zre
  rw [zbr_ne (by omega) (by omega), zbr_ne (by omega) (by omega), zbr_ne (by omega) (by omega), zbr_ne (by omega) (by omega), zbr_hit h (by decide), zup_ne _ _ (by omega), zup_ne _ _ (by omega), zup_ne _ _ (by omega), zup_ne _ _ (by omega), zbr_ne (by omega) (by omega), zup_ne _ _ (by omega)]
theorem zim_27 (f : zM) {q : Nat} (h : q < 40) : zim f 39 0 (148 + q) = f 27 0 q := by
  unfold zim
  rw [zup_ne _ _ (by omega), zkp_ne (by omega) (by omega), zkp_ne (by omega) (by omega), zkp_ne (by omega) (by omega), zkp_hit h, zkp_ne (by omega) (by omega), zkp_ne (by omega) (by omega), zup_ne _ _ (by omega), zup_ne _ _ (by omega), zup_ne _ _ (by omega), zup_ne _ _ (by omega), zup_ne _ _ (by omega)]
theorem zre_27 (f : zM) {q : Nat} (h : q < 40) : zre f 27 0 q = f 39 0 (148 + q) := by
  unfold zre
  rw [zbr_ne (by omega) (by omega), zbr_ne (by omega) (by omega), zbr_ne (by omega) (by omega), zbr_hit h (by decide), zbr_ne (by omega) (by omega), zup_ne _ _ (by omega), zup_ne _ _ (by omega), zup_ne _ _ (by omega), zup_ne _ _ (by omega), zbr_ne (by omega) (by omega), zup_ne _ _ (by omega)]
theorem zim_28 (f : zM) {q : Nat} (h : q < 96) : zim f 39 0 (188 + q) = f 28 0 q := by
  unfold zim
  rw [zup_ne _ _ (by omega), zkp_ne (by omega) (by omega), zkp_ne (by omega) (by omega), zkp_hit h, zkp_ne (by omega) (by omega), zkp_ne (by omega) (by omega), zkp_ne (by omega) (by omega), zup_ne _ _ (by omega), zup_ne _ _ (by omega), zup_ne _ _ (by omega), zup_ne _ _ (by omega), zup_ne _ _ (by omega)]
theorem zre_28 (f : zM) {q : Nat} (h : q < 96) : zre f 28 0 q = f 39 0 (188 + q) := by
  unfold zre
  rw [zbr_ne (by omega) (by omega), zbr_ne (by omega) (by omega), zbr_hit h (by decide), zbr_ne (by omega) (by omega), zbr_ne (by omega) (by omega), zup_ne _ _ (by omega), zup_ne _ _ (by omega), zup_ne _ _ (by omega), zup_ne _ _ (by omega), zbr_ne (by omega) (by omega), zup_ne _ _ (by omega)]
theorem zim_29 (f : zM) {q : Nat} (h : q < 24) : zim f 39 0 (284 + q) = f 29 0 q := by
  unfold zim
  rw [zup_ne _ _ (by omega), zkp_ne (by omega) (by omega), zkp_hit h, zkp_ne (by omega) (by omega), zkp_ne (by omega) (by omega), zkp_ne (by omega) (by omega), zkp_ne (by omega) (by omega), zup_ne _ _ (by omega), zup_ne _ _ (by omega), zup_ne _ _ (by omega), zup_ne _ _ (by omega), zup_ne _ _ (by omega)]
theorem zre_29 (f : zM) {q : Nat} (h : q < 24) : zre f 29 0 q = f 39 0 (284 + q) := by
  unfold zre
  rw [zbr_ne (by omega) (by omega), zbr_hit h (by decide), zbr_ne (by omega) (by omega), zbr_ne (by omega) (by omega), zbr_ne (by omega) (by omega), zup_ne _ _ (by omega), zup_ne _ _ (by omega), zup_ne _ _ (by omega), zup_ne _ _ (by omega), zbr_ne (by omega) (by omega), zup_ne _ _ (by omega)]
theorem zim_30 (f : zM) {q : Nat} (h : q < 7) : zim f 39 0 (308 + q) = f 30 0 q := by
  unfold zim
  rw [zup_ne _ _ (by omega), zkp_hit h, zkp_ne (by omega) (by omega), zkp_ne (by omega) (by omega), zkp_ne (by omega) (by omega), zkp_ne (by omega) (by omega), zkp_ne (by omega) (by omega), zup_ne _ _ (by omega), zup_ne _ _ (by omega), zup_ne _ _ (by omega), zup_ne _ _ (by omega), zup_ne _ _ (by omega)]
theorem zre_30 (f : zM) {q : Nat} (h : q < 7) : zre f 30 0 q = f 39 0 (308 + q) := by
  unfold zre
  rw [zbr_hit h (by decide), zbr_ne (by omega) (by omega), zbr_ne (by omega) (by omega), zbr_ne (by omega) (by omega), zbr_ne (by omega) (by omega), zup_ne _ _ (by omega), zup_ne _ _ (by omega), zup_ne _ _ (by omega), zup_ne _ _ (by omega), zbr_ne (by omega) (by omega), zup_ne _ _ (by omega)]
theorem zim_o (f : zM) {x y z : Nat} (h1 : x ≠ 39) (h2 : x ≠ 40) (h3 : ¬ (x = 25 ∧ y = 0 ∧ z = 22)) (h4 : ¬ (x = 25 ∧ y = 0 ∧ z = 24)) : zim f x y z = f x y z := by
  unfold zim
  rw [zup_ne _ _ (by omega), zkp_ne (by omega) (by omega), zkp_ne (by omega) (by omega), zkp_ne (by omega) (by omega), zkp_ne (by omega) (by omega), zkp_ne (by omega) (by omega), zkp_ne (by omega) (by omega), zup_ne _ _ (by omega), zup_ne _ _ (by omega), zup_ne _ _ (by omega), zup_ne _ _ (by omega), zup_ne _ _ (by omega)]
theorem zre_o (f : zM) {x y z : Nat} (h1 : ¬ (26 ≤ x ∧ x ≤ 30)) (h2 : x ≠ 40) (h3 : x ≠ 25) : zre f x y z = f x y z := by
  unfold zre
  rw [zbr_ne (by omega) (by omega), zbr_ne (by omega) (by omega), zbr_ne (by omega) (by omega), zbr_ne (by omega) (by omega), zbr_ne (by omega) (by omega), zup_ne _ _ (by omega), zup_ne _ _ (by omega), zup_ne _ _ (by omega), zup_ne _ _ (by omega), zbr_ne (by omega) (by omega), zup_ne _ _ (by omega)]
theorem zre_25 (f : zM) {z : Nat} (h : ¬ (z = 0 ∨ z = 2 ∨ z = 4 ∨ z = 6 ∨ z = 24)) : zre f 25 0 z = f 25 0 z := by
  unfold zre
  rw [zbr_ne (by omega) (by omega), zbr_ne (by omega) (by omega), zbr_ne (by omega) (by omega), zbr_ne (by omega) (by omega), zbr_ne (by omega) (by omega), zup_ne _ _ (by omega), zup_ne _ _ (by omega), zup_ne _ _ (by omega), zup_ne _ _ (by omega), zbr_ne (by omega) (by omega), zup_ne _ _ (by omega)]
theorem zim_25 (f : zM) {z : Nat} (h : z ≠ 24) (h2 : z ≠ 22) : zim f 25 0 z = f 25 0 z := zim_o f (by decide) (by decide) (by omega) (by omega)
theorem zim_22 (f : zM) : zim f 25 0 22 = 1 := by unfold zim; exact zup_same _ _ _ _ _
theorem zim_inv {f : zM} (hI : zInv f) : zInv (zim f) := by
  unfold zim
  refine zInv.up (k := 25) (n := 0) (j := 22) (zkp_inv (zkp_inv (zkp_inv (zkp_inv (zkp_inv (zkp_inv ?_ (by decide) zr39_40) (by decide) zr39_26) (by decide) zr39_27) (by decide) zr39_28) (by decide) zr39_29) (by decide) zr39_30) (show (0 : Int) ≤ (1 : Int32).toInt ∧ (1 : Int32).toInt ≤ 1 from by decide)
  refine zInv.up (k := 40) (n := 0) (j := 3) ?_ (show (0 : Int) ≤ (f 25 0 6).toInt ∧ (f 25 0 6).toInt ≤ 8 from hI 25 0 6)
  refine zInv.up (k := 40) (n := 0) (j := 2) ?_ (show (0 : Int) ≤ (f 25 0 4).toInt ∧ (f 25 0 4).toInt ≤ 12 from hI 25 0 4)
  refine zInv.up (k := 40) (n := 0) (j := 1) ?_ (show (0 : Int) ≤ (f 25 0 2).toInt ∧ (f 25 0 2).toInt ≤ 8 from hI 25 0 2)
  refine zInv.up (k := 40) (n := 0) (j := 0) ?_ (show (0 : Int) ≤ (f 25 0 0).toInt ∧ (f 25 0 0).toInt ≤ 24 from hI 25 0 0)
  exact zInv.up (k := 25) (n := 0) (j := 24) hI (show (0 : Int) ≤ (0 : Int32).toInt ∧ (0 : Int32).toInt ≤ 320 from by decide)
theorem qd_image {f g : zM} (hI : zInv f) (Ri : zRi f) (Rc : zRc f) (Rd : zRd f) (hF : zFr [(0, some 5), (1, some 5), (1, some 6), (1, some 7), (1, some 8), (6, some 0), (6, some 1), (6, some 2), (6, some 3), (6, some 4), (6, some 5), (6, some 6), (7, some 0), (7, some 1), (7, some 2), (7, some 3), (7, some 4), (7, some 5), (8, some 0), (8, some 1), (8, some 2), (8, some 3), (8, some 4), (8, some 5), (8, some 6), (8, some 7), (9, none), (10, none), (11, some 0), (11, some 1), (11, some 2), (11, some 3), (11, some 4), (11, some 5), (11, some 6), (11, some 7), (12, some 0), (12, some 1), (12, some 2)] f g) (h0 : g 1 1 5 = f 1 0 5) (h1 : g 1 1 6 = f 1 0 6) (h2 : g 1 1 7 = f 1 0 7) (h3 : g 1 1 8 = f 1 0 8) (h4 : g 1 0 5 = f 1 0 5) (h5 : g 1 0 6 = f 1 0 6) (h6 : g 1 0 7 = f 1 0 7) (h7 : g 1 0 8 = f 1 0 8) (h8 : zcpd f g 7 24 0 (f 1 0 5).toInt.toNat 6 24) (h9 : zcpd f g 8 8 0 (f 1 0 6).toInt.toNat 5 8) (h10 : zcpd f g 11 12 0 (f 1 0 7).toInt.toNat 8 12) (h11 : zcpd f g 12 8 0 (f 1 0 8).toInt.toNat 3 8) (h12 : ∀ j, j < 7 → g 6 1 j = f 6 0 j) (h13 : ∀ j, j < 7 → g 6 0 j = f 6 0 j) (h14 : g 0 0 5 = 1) (h15 : zRl f → zRl g) : zRi (zim g) ∧ zRc (zim g) ∧ zRd (zim g) := by
  have k27 : ∀ j, g 27 0 j = f 27 0 j := fun j => hF 27 0 j rfl
  have k2 : g 25 0 2 = f 25 0 2 := hF 25 0 2 rfl
  have k6 : g 25 0 6 = f 25 0 6 := hF 25 0 6 rfl
  have z1 : ∀ n j, zim g 1 n j = g 1 n j := fun n j => zim_o g (by decide) (by decide) (by omega) (by omega)
  have z8 : ∀ n j, zim g 8 n j = g 8 n j := fun n j => zim_o g (by decide) (by decide) (by omega) (by omega)
  have z27 : ∀ j, zim g 27 0 j = g 27 0 j := fun j => zim_o g (by decide) (by decide) (by omega) (by omega)
  have b8 : (f 1 0 6).toInt ≤ 8 := (hI 1 0 6).2
  refine ⟨?_, ⟨?_, ?_, ?_, ?_⟩, fun i j hi hj => ?_, fun i j hi hj => ?_⟩
  · show zim g 0 0 5 = zim g 25 0 22
    rw [zim_22, zim_o g (by decide) (by decide) (by omega) (by omega)]; exact h14
  · rw [z1, h5, zim_25 g (by decide) (by decide), k2]; exact Rc.1
  · rw [z1, h1, zim_c1, k2]; exact Rc.1
  · rw [z1, h7, zim_25 g (by decide) (by decide), k6]; exact Rc.2.2.1
  · rw [z1, h3, zim_c3, k6]; exact Rc.2.2.1
  · rw [z1, h5] at hi
    have e := h9.2 i j (by omega) hj
    rw [Nat.zero_add] at e
    rw [z8, e, z27, k27]; exact Rd.1 i j hi hj
  · rw [z1, h1] at hi
    have e := h9.1 i j (by omega) hj
    rw [Nat.zero_add] at e
    rw [z8, e, zim_27 g (by omega), k27]; exact Rd.1 i j hi hj
theorem qd_restore {f g : zM} (hI : zInv f) (Ri : zRi f) (Rc : zRc f) (Rd : zRd f) (hF : zFr [(1, some 5), (1, some 6), (1, some 7), (1, some 8), (6, some 0), (6, some 1), (6, some 2), (6, some 3), (6, some 4), (6, some 5), (6, some 6), (7, some 0), (7, some 1), (7, some 2), (7, some 3), (7, some 4), (7, some 5), (8, some 0), (8, some 1), (8, some 2), (8, some 3), (8, some 4), (8, some 5), (8, some 6), (8, some 7), (9, none), (10, none), (11, some 0), (11, some 1), (11, some 2), (11, some 3), (11, some 4), (11, some 5), (11, some 6), (11, some 7), (12, some 0), (12, some 1), (12, some 2)] f g) (h0 : g 1 0 5 = f 1 1 5) (h1 : g 1 0 6 = f 1 1 6) (h2 : g 1 0 7 = f 1 1 7) (h3 : g 1 0 8 = f 1 1 8) (h4 : g 1 1 5 = f 1 1 5) (h5 : g 1 1 6 = f 1 1 6) (h6 : g 1 1 7 = f 1 1 7) (h7 : g 1 1 8 = f 1 1 8) (h8 : zcpd f g 7 0 24 (f 1 1 5).toInt.toNat 6 24) (h9 : zcpd f g 8 0 8 (f 1 1 6).toInt.toNat 5 8) (h10 : zcpd f g 11 0 12 (f 1 1 7).toInt.toNat 8 12) (h11 : zcpd f g 12 0 8 (f 1 1 8).toInt.toNat 3 8) (h12 : ∀ j, j < 7 → g 6 0 j = f 6 1 j) (h13 : ∀ j, j < 7 → g 6 1 j = f 6 1 j) (h14 : ∀ i, i < (f 1 1 6).toInt.toNat → zLk g i (fun k j => g 7 k j) (g 1 0 5).toInt.toNat) : zRi (zre g) ∧ zRc (zre g) ∧ zRd (zre g) := by
  have k39 : ∀ j, g 39 0 j = f 39 0 j := fun j => hF 39 0 j rfl
  have z1 : ∀ n j, zre g 1 n j = g 1 n j := fun n j => zre_o g (by omega) (by decide) (by decide)
  have z8 : ∀ n j, zre g 8 n j = g 8 n j := fun n j => zre_o g (by omega) (by decide) (by decide)
  have z39 : ∀ j, zre g 39 0 j = g 39 0 j := fun j => zre_o g (by omega) (by decide) (by decide)
  have b8 : (f 1 1 6).toInt ≤ 8 := (hI 1 1 6).2
  refine ⟨?_, ⟨?_, ?_, ?_, ?_⟩, fun i j hi hj => ?_, fun i j hi hj => ?_⟩
  · show zre g 0 0 5 = zre g 25 0 22
    rw [zre_25 g (by decide), zre_o g (by omega) (by decide) (by decide), hF 0 0 5 rfl, hF 25 0 22 rfl]; exact Ri
  · rw [z1, h1, zre_c1, k39]; exact Rc.2.1
  · rw [z1, h5, z39, k39]; exact Rc.2.1
  · rw [z1, h3, zre_c3, k39]; exact Rc.2.2.2
  · rw [z1, h7, z39, k39]; exact Rc.2.2.2
  · rw [z1, h1] at hi
    have e := h9.1 i j (by omega) hj
    rw [Nat.zero_add] at e
    rw [z8, e, zre_27 g (by omega), k39]; exact Rd.2 i j hi hj
  · rw [z1, h5] at hi
    have e := h9.2 i j (by omega) hj
    rw [z8, e, z39, k39]; exact Rd.2 i j hi hj
theorem ztp_o {k kl jl : Nat} {f : zM} {w : Int64} {l N c x y z : Nat} (h1 : ¬ (x = kl ∧ y = 0 ∧ z = jl)) (h2 : x ≠ k) : ztp k kl jl f w l N c x y z = f x y z := by
  unfold ztp; rw [if_neg h1, if_neg (by omega)]
theorem ztp_at {k kl jl : Nat} {f : zM} {w : Int64} {l N c z : Nat} (hk : k ≠ kl) : ztp k kl jl f w l N c k 0 z = if l ≤ z ∧ z < l + c then zby w (nI (N - 1 - (z - l))) else f k 0 z := by
  unfold ztp; rw [if_neg (by omega)]
  by_cases h : l ≤ z ∧ z < l + c
  · rw [if_pos ⟨rfl, rfl, h⟩, if_pos h]
  · rw [if_neg (by omega), if_neg h]
theorem qd_type {f : zM} {w : Int64} {l N : Nat} (h : l + N ≤ 120) (hl : f 18 0 3 = nI l) (Rt : zRt f) : zRt (ztp 36 25 16 (ztp 19 18 3 f w l N N) w l N N) := by
  have e1 : ztp 36 25 16 (ztp 19 18 3 f w l N N) w l N N 18 0 3 = nI (l + N) := (ztp_o (by omega) (by decide)).trans ztp_len
  refine ⟨e1.trans ztp_len.symm, fun i hi => ?_⟩
  rw [e1, nI_toInt (by omega)] at hi
  rw [ztp_o (by omega) (by decide), ztp_at (by decide), ztp_at (by decide), ztp_o (by omega) (by decide)]
  by_cases q : l ≤ i ∧ i < l + N
  · rw [if_pos q, if_pos q]
  · rw [if_neg q, if_neg q]
    refine Rt.2 i ?_
    rw [hl, nI_toInt (by omega)]
    omega
theorem zfill_an {f : zM} (hI : zInv f) {k n len : Nat} {v : Int32} (h : ∀ j, (zrg k j).1 ≤ v.toInt ∧ v.toInt ≤ (zrg k j).2) : zInv (zfill f k n len v) := by
  intro a b c
  unfold zfill
  split
  · rename_i q
    obtain ⟨rfl, rfl, _⟩ := q
    exact h c
  · exact hI a b c
theorem zfo_an {f : zM} (hI : zInv f) {k n a len : Nat} {v : Int32} (h : ∀ j, (zrg k j).1 ≤ v.toInt ∧ v.toInt ≤ (zrg k j).2) : zInv (zfo f k n a len v) := by
  intro x y z
  unfold zfo
  split
  · rename_i q
    obtain ⟨rfl, rfl, _⟩ := q
    exact h z
  · exact hI x y z
theorem zfo_ne {f : zM} {k n a len x y z : Nat} {v : Int32} (h : ¬ (x = k ∧ y = n ∧ a ≤ z ∧ z < a + len)) : zfo f k n a len v x y z = f x y z := by
  unfold zfo; rw [if_neg h]
theorem zfo_hit {f : zM} {k n a len z : Nat} {v : Int32} (h : a ≤ z ∧ z < a + len) : zfo f k n a len v k n z = v := by
  unfold zfo; rw [if_pos ⟨rfl, rfl, h⟩]
theorem zfill_hit {f : zM} {k n len z : Nat} {v : Int32} (h : z < len) : zfill f k n len v k n z = v := by
  unfold zfill; rw [if_pos ⟨rfl, rfl, h⟩]
theorem qd_sheet {f : zM} {s : Nat} {a2 a3 : Int32} (Rs : zRs f) : zRs (zfo (zup (zup (zfill (zup (zup f 23 s 1 a2) 23 s 2 a3) 24 s 16 0) 41 0 s a2) 42 0 s a3) 43 0 (16 * s) 16 0) := by
  intro s2 hs2
  obtain ⟨r1, r2, r3⟩ := Rs s2 hs2
  by_cases e : s2 = s
  · subst e
    refine ⟨?_, ?_, fun i hi => ?_⟩
    · rw [zfo_ne (by omega), zup_ne _ _ (by omega), zup_ne _ _ (by omega), zfill_ne (by omega), zup_ne _ _ (by omega), zup_same, zfo_ne (by omega), zup_ne _ _ (by omega), zup_same]
    · rw [zfo_ne (by omega), zup_ne _ _ (by omega), zup_ne _ _ (by omega), zfill_ne (by omega), zup_same, zfo_ne (by omega), zup_same]
    · rw [zfo_ne (by omega), zup_ne _ _ (by omega), zup_ne _ _ (by omega), zfill_hit hi, zfo_hit (by omega)]
  · refine ⟨?_, ?_, fun i hi => ?_⟩
    · rw [zfo_ne (by omega), zup_ne _ _ (by omega), zup_ne _ _ (by omega), zfill_ne (by omega), zup_ne _ _ (by omega), zup_ne _ _ (by omega), zfo_ne (by omega), zup_ne _ _ (by omega), zup_ne _ _ (by omega), zfill_ne (by omega), zup_ne _ _ (by omega), zup_ne _ _ (by omega)]; exact r1
    · rw [zfo_ne (by omega), zup_ne _ _ (by omega), zup_ne _ _ (by omega), zfill_ne (by omega), zup_ne _ _ (by omega), zup_ne _ _ (by omega), zfo_ne (by omega), zup_ne _ _ (by omega), zup_ne _ _ (by omega), zfill_ne (by omega), zup_ne _ _ (by omega), zup_ne _ _ (by omega)]; exact r2
    · rw [zfo_ne (by omega), zup_ne _ _ (by omega), zup_ne _ _ (by omega), zfill_ne (by omega), zup_ne _ _ (by omega), zup_ne _ _ (by omega), zfo_ne (by omega), zup_ne _ _ (by omega), zup_ne _ _ (by omega), zfill_ne (by omega), zup_ne _ _ (by omega), zup_ne _ _ (by omega)]; exact r3 i hi
theorem qd_drop {f : zM} {s : Nat} (Rs : zRs f) : zRs (zup (zup f 23 s 1 (-1)) 41 0 s (-1)) := by
  intro s2 hs2
  obtain ⟨r1, r2, r3⟩ := Rs s2 hs2
  refine ⟨?_, ?_, fun i hi => ?_⟩
  · by_cases e : s2 = s
    · subst e
      rw [zup_ne _ _ (by omega), zup_same, zup_same]
    · rw [zup_ne _ _ (by omega), zup_ne _ _ (by omega), zup_ne _ _ (by omega), zup_ne _ _ (by omega)]; exact r1
  · rw [zup_ne _ _ (by omega), zup_ne _ _ (by omega), zup_ne _ _ (by omega), zup_ne _ _ (by omega)]; exact r2
  · rw [zup_ne _ _ (by omega), zup_ne _ _ (by omega), zup_ne _ _ (by omega), zup_ne _ _ (by omega)]; exact r3 i hi
