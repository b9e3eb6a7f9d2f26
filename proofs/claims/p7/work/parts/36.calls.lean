theorem zbl_B (x : Int32) : zB (zbl x) 0 1 := by unfold zbl; split <;> decide
theorem qc_0 (f : zM) (hI : zInv f) (hR : zRa f) (a : Nat → Int32) : zCall_0 f a (fun g => zInv g ∧ zRa g) := ZM.mono (w_X9_crime 11 f ((a 1)) (zB_any _) ((a 2)) (zB_any _) ((a 3)) (zB_any _) ((a 4)) (zB_any _) ((a 5)) (zB_any _) ((zbl (a 6))) (zbl_B _) hI) (fun r g h => by
  obtain ⟨⟨v, rfl, _⟩, hg, hF⟩ := h
  obtain ⟨Ri, Rc, Rd, Rt, Rs⟩ := hR
  refine ⟨v, rfl, ?_⟩
  refine ZM.mono (w_X10_crime 12 g ((a 1)) (zB_any _) ((a 2)) (zB_any _) ((a 3)) (zB_any _) ((a 4)) (zB_any _) ((a 5)) (zB_any _) ((zbl (a 6))) (zbl_B _) hg) (fun r2 g2 h2 => ?_)
  obtain ⟨⟨v2, rfl, _⟩, hg2, hG⟩ := h2
  exact ⟨⟨v2, rfl⟩, hg2, zRi_k Ri ((hG 0 0 5 rfl).trans (hF 0 0 5 rfl)) ((hG 25 0 22 rfl).trans (hF 25 0 22 rfl)), zRc_k Rc (fun n => (hG 1 n 6 rfl).trans (hF 1 n 6 rfl)) (fun n => (hG 1 n 8 rfl).trans (hF 1 n 8 rfl)) ((hG 25 0 2 rfl).trans (hF 25 0 2 rfl)) ((hG 25 0 6 rfl).trans (hF 25 0 6 rfl)) (fun j => (hG 39 0 j rfl).trans (hF 39 0 j rfl)), zRd_k Rd (fun n => (hG 1 n 6 rfl).trans (hF 1 n 6 rfl)) (fun n j hj => by rcases (show j = 0 ∨ j = 1 ∨ j = 2 ∨ j = 3 ∨ j = 4 by omega) with rfl | rfl | rfl | rfl | rfl <;> exact (hG 8 n _ rfl).trans (hF 8 n _ rfl)) (fun j => (hG 27 0 j rfl).trans (hF 27 0 j rfl)) (fun j => (hG 39 0 j rfl).trans (hF 39 0 j rfl)), zRt_k Rt ((hG 18 0 3 rfl).trans (hF 18 0 3 rfl)) ((hG 25 0 16 rfl).trans (hF 25 0 16 rfl)) (fun i => (hG 19 0 i rfl).trans (hF 19 0 i rfl)) (fun i => (hG 36 0 i rfl).trans (hF 36 0 i rfl)), zRs_k Rs (fun s => (hG 23 s 1 rfl).trans (hF 23 s 1 rfl)) (fun s => (hG 23 s 2 rfl).trans (hF 23 s 2 rfl)) (fun s i => (hG 24 s i rfl).trans (hF 24 s i rfl)) (fun i => (hG 41 0 i rfl).trans (hF 41 0 i rfl)) (fun i => (hG 42 0 i rfl).trans (hF 42 0 i rfl)) (fun i => (hG 43 0 i rfl).trans (hF 43 0 i rfl))⟩)
theorem qc_1 (f : zM) (hI : zInv f) (hR : zRa f) (a : Nat → Int32) : zCall_1 f a (fun g => zInv g ∧ zRa g) := ZM.mono (x_X9_deed 10 f ((a 1)) (zB_any _) ((a 2)) (zB_any _) ((a 3)) (zB_any _) ((a 4)) (zB_any _) hI) (fun r g h => by
  obtain ⟨⟨v, rfl, _⟩, hg, hF, hP⟩ := h
  have hP := hP v rfl
  obtain ⟨Ri, Rc, Rd, Rt, Rs⟩ := hR
  refine ⟨v, rfl, ?_⟩
  refine ZM.mono (x_X10_deed 12 g ((a 1)) (zB_any _) ((a 2)) (zB_any _) ((a 3)) (zB_any _) ((a 4)) (zB_any _) hg) (fun r2 g2 h2 => ?_)
  obtain ⟨⟨v2, rfl, _⟩, hg2, hG, hQ⟩ := h2
  have hQ := hQ v2 rfl
  obtain ⟨hv, H1, H2⟩ := qd_deed hI hg Ri Rc Rd Rt Rs hF hG hP hQ
  exact ⟨⟨_, rfl⟩, hg2, zRi_k Ri ((hG 0 0 5 rfl).trans (hF 0 0 5 rfl)) ((hG 25 0 22 rfl).trans (hF 25 0 22 rfl)), H1, H2, zRt_k Rt ((hG 18 0 3 rfl).trans (hF 18 0 3 rfl)) ((hG 25 0 16 rfl).trans (hF 25 0 16 rfl)) (fun i => (hG 19 0 i rfl).trans (hF 19 0 i rfl)) (fun i => (hG 36 0 i rfl).trans (hF 36 0 i rfl)), zRs_k Rs (fun s => (hG 23 s 1 rfl).trans (hF 23 s 1 rfl)) (fun s => (hG 23 s 2 rfl).trans (hF 23 s 2 rfl)) (fun s i => (hG 24 s i rfl).trans (hF 24 s i rfl)) (fun i => (hG 41 0 i rfl).trans (hF 41 0 i rfl)) (fun i => (hG 42 0 i rfl).trans (hF 42 0 i rfl)) (fun i => (hG 43 0 i rfl).trans (hF 43 0 i rfl))⟩)
theorem qc_2 (f : zM) (hI : zInv f) (hR : zRa f) (a : Nat → Int32) : zCall_2 f a (fun g => zInv g ∧ zRa g) := ZM.mono (w_X9_years 12 f ((a 1)) (zB_any _) ((a 2)) (zB_any _) ((a 3)) (zB_any _) ((a 4)) (zB_any _) ((a 5)) (zB_any _) ((a 6)) (zB_any _) hI) (fun r g h => by
  obtain ⟨⟨v, rfl, _⟩, hg, hF⟩ := h
  obtain ⟨Ri, Rc, Rd, Rt, Rs⟩ := hR
  refine ⟨v, rfl, ?_⟩
  refine ZM.mono (w_X10_years 11 g ((a 1)) (zB_any _) ((a 2)) (zB_any _) ((a 3)) (zB_any _) ((a 4)) (zB_any _) ((a 5)) (zB_any _) ((a 6)) (zB_any _) hg) (fun r2 g2 h2 => ?_)
  obtain ⟨⟨v2, rfl, _⟩, hg2, hG⟩ := h2
  exact ⟨⟨v2, rfl⟩, hg2, zRi_k Ri ((hG 0 0 5 rfl).trans (hF 0 0 5 rfl)) ((hG 25 0 22 rfl).trans (hF 25 0 22 rfl)), zRc_k Rc (fun n => (hG 1 n 6 rfl).trans (hF 1 n 6 rfl)) (fun n => (hG 1 n 8 rfl).trans (hF 1 n 8 rfl)) ((hG 25 0 2 rfl).trans (hF 25 0 2 rfl)) ((hG 25 0 6 rfl).trans (hF 25 0 6 rfl)) (fun j => (hG 39 0 j rfl).trans (hF 39 0 j rfl)), zRd_k Rd (fun n => (hG 1 n 6 rfl).trans (hF 1 n 6 rfl)) (fun n j hj => by rcases (show j = 0 ∨ j = 1 ∨ j = 2 ∨ j = 3 ∨ j = 4 by omega) with rfl | rfl | rfl | rfl | rfl <;> exact (hG 8 n _ rfl).trans (hF 8 n _ rfl)) (fun j => (hG 27 0 j rfl).trans (hF 27 0 j rfl)) (fun j => (hG 39 0 j rfl).trans (hF 39 0 j rfl)), zRt_k Rt ((hG 18 0 3 rfl).trans (hF 18 0 3 rfl)) ((hG 25 0 16 rfl).trans (hF 25 0 16 rfl)) (fun i => (hG 19 0 i rfl).trans (hF 19 0 i rfl)) (fun i => (hG 36 0 i rfl).trans (hF 36 0 i rfl)), zRs_k Rs (fun s => (hG 23 s 1 rfl).trans (hF 23 s 1 rfl)) (fun s => (hG 23 s 2 rfl).trans (hF 23 s 2 rfl)) (fun s i => (hG 24 s i rfl).trans (hF 24 s i rfl)) (fun i => (hG 41 0 i rfl).trans (hF 41 0 i rfl)) (fun i => (hG 42 0 i rfl).trans (hF 42 0 i rfl)) (fun i => (hG 43 0 i rfl).trans (hF 43 0 i rfl))⟩)
theorem qc_3 (f : zM) (hI : zInv f) (hR : zRa f) (a : Nat → Int32) : zCall_3 f a (fun g => zInv g ∧ zRa g) := ZM.mono (w_X9_named 12 f ((a 1)) (zB_any _) ((a 2)) (zB_any _) ((a 3)) (zB_any _) ((a 4)) (zB_any _) ((a 5)) (zB_any _) ((a 6)) (zB_any _) hI) (fun r g h => by
  obtain ⟨⟨v, rfl, _⟩, hg, hF⟩ := h
  obtain ⟨Ri, Rc, Rd, Rt, Rs⟩ := hR
  refine ⟨v, rfl, ?_⟩
  refine ZM.mono (w_X10_named 11 g ((a 1)) (zB_any _) ((a 2)) (zB_any _) ((a 3)) (zB_any _) ((a 4)) (zB_any _) ((a 5)) (zB_any _) ((a 6)) (zB_any _) hg) (fun r2 g2 h2 => ?_)
  obtain ⟨⟨v2, rfl, _⟩, hg2, hG⟩ := h2
  exact ⟨⟨v2, rfl⟩, hg2, zRi_k Ri ((hG 0 0 5 rfl).trans (hF 0 0 5 rfl)) ((hG 25 0 22 rfl).trans (hF 25 0 22 rfl)), zRc_k Rc (fun n => (hG 1 n 6 rfl).trans (hF 1 n 6 rfl)) (fun n => (hG 1 n 8 rfl).trans (hF 1 n 8 rfl)) ((hG 25 0 2 rfl).trans (hF 25 0 2 rfl)) ((hG 25 0 6 rfl).trans (hF 25 0 6 rfl)) (fun j => (hG 39 0 j rfl).trans (hF 39 0 j rfl)), zRd_k Rd (fun n => (hG 1 n 6 rfl).trans (hF 1 n 6 rfl)) (fun n j hj => by rcases (show j = 0 ∨ j = 1 ∨ j = 2 ∨ j = 3 ∨ j = 4 by omega) with rfl | rfl | rfl | rfl | rfl <;> exact (hG 8 n _ rfl).trans (hF 8 n _ rfl)) (fun j => (hG 27 0 j rfl).trans (hF 27 0 j rfl)) (fun j => (hG 39 0 j rfl).trans (hF 39 0 j rfl)), zRt_k Rt ((hG 18 0 3 rfl).trans (hF 18 0 3 rfl)) ((hG 25 0 16 rfl).trans (hF 25 0 16 rfl)) (fun i => (hG 19 0 i rfl).trans (hF 19 0 i rfl)) (fun i => (hG 36 0 i rfl).trans (hF 36 0 i rfl)), zRs_k Rs (fun s => (hG 23 s 1 rfl).trans (hF 23 s 1 rfl)) (fun s => (hG 23 s 2 rfl).trans (hF 23 s 2 rfl)) (fun s i => (hG 24 s i rfl).trans (hF 24 s i rfl)) (fun i => (hG 41 0 i rfl).trans (hF 41 0 i rfl)) (fun i => (hG 42 0 i rfl).trans (hF 42 0 i rfl)) (fun i => (hG 43 0 i rfl).trans (hF 43 0 i rfl))⟩)
theorem qc_4 (f : zM) (hI : zInv f) (hR : zRa f) (a : Nat → Int32) : zCall_4 f a (fun g => zInv g ∧ zRa g) := ZM.mono (w_X9_custom 12 f ((a 1)) (zB_any _) ((a 2)) (zB_any _) ((a 3)) (zB_any _) ((a 4)) (zB_any _) ((a 5)) (zB_any _) hI) (fun r g h => by
  obtain ⟨⟨v, rfl, _⟩, hg, hF⟩ := h
  obtain ⟨Ri, Rc, Rd, Rt, Rs⟩ := hR
  refine ⟨v, rfl, ?_⟩
  refine ZM.mono (w_X10_custom 11 g ((a 1)) (zB_any _) ((a 2)) (zB_any _) ((a 3)) (zB_any _) ((a 4)) (zB_any _) ((a 5)) (zB_any _) hg) (fun r2 g2 h2 => ?_)
  obtain ⟨⟨v2, rfl, _⟩, hg2, hG⟩ := h2
  exact ⟨⟨v2, rfl⟩, hg2, zRi_k Ri ((hG 0 0 5 rfl).trans (hF 0 0 5 rfl)) ((hG 25 0 22 rfl).trans (hF 25 0 22 rfl)), zRc_k Rc (fun n => (hG 1 n 6 rfl).trans (hF 1 n 6 rfl)) (fun n => (hG 1 n 8 rfl).trans (hF 1 n 8 rfl)) ((hG 25 0 2 rfl).trans (hF 25 0 2 rfl)) ((hG 25 0 6 rfl).trans (hF 25 0 6 rfl)) (fun j => (hG 39 0 j rfl).trans (hF 39 0 j rfl)), zRd_k Rd (fun n => (hG 1 n 6 rfl).trans (hF 1 n 6 rfl)) (fun n j hj => by rcases (show j = 0 ∨ j = 1 ∨ j = 2 ∨ j = 3 ∨ j = 4 by omega) with rfl | rfl | rfl | rfl | rfl <;> exact (hG 8 n _ rfl).trans (hF 8 n _ rfl)) (fun j => (hG 27 0 j rfl).trans (hF 27 0 j rfl)) (fun j => (hG 39 0 j rfl).trans (hF 39 0 j rfl)), zRt_k Rt ((hG 18 0 3 rfl).trans (hF 18 0 3 rfl)) ((hG 25 0 16 rfl).trans (hF 25 0 16 rfl)) (fun i => (hG 19 0 i rfl).trans (hF 19 0 i rfl)) (fun i => (hG 36 0 i rfl).trans (hF 36 0 i rfl)), zRs_k Rs (fun s => (hG 23 s 1 rfl).trans (hF 23 s 1 rfl)) (fun s => (hG 23 s 2 rfl).trans (hF 23 s 2 rfl)) (fun s i => (hG 24 s i rfl).trans (hF 24 s i rfl)) (fun i => (hG 41 0 i rfl).trans (hF 41 0 i rfl)) (fun i => (hG 42 0 i rfl).trans (hF 42 0 i rfl)) (fun i => (hG 43 0 i rfl).trans (hF 43 0 i rfl))⟩)
theorem qc_5 (f : zM) (hI : zInv f) (hR : zRa f) (a : Nat → Int32) : zCall_5 f a (fun g => zInv g ∧ zRa g) := by
  obtain ⟨Ri, Rc, Rd, Rt, Rs⟩ := id hR
  have q1 : zB (f 18 0 3) 0 120 := hI 18 0 3
  obtain ⟨hl, u1⟩ := nI_ofI (x := f 18 0 3) q1.1
  have l120 : (f 18 0 3).toInt.toNat ≤ 120 := by have := q1.2; omega
  generalize (f 18 0 3).toInt.toNat = l at hl u1 l120
  have hm : f 25 0 16 = nI l := Rt.1.symm.trans hl
  refine ZM.mono (x_X9_type 13 f ((a 1).toInt64 <<< ((32 : Int32).toInt64 &&& 63) ||| (a 2).toInt64 &&& 4294967295) (a 3) l hl l120) (fun r g h => ?_)
  rcases h with ⟨h1, rfl, rfl⟩ | ⟨h1, h2, rfl, rfl⟩ | ⟨h1, h2, rfl, rfl⟩
  · refine ⟨_, rfl, ?_⟩
    refine ZM.mono (x_X10_type 13 g ((a 1).toInt64 <<< ((32 : Int32).toInt64 &&& 63) ||| (a 2).toInt64 &&& 4294967295) (a 3) l hm l120) (fun r2 g2 h2 => ?_)
    rcases h2 with ⟨_, rfl, rfl⟩ | ⟨q1, _⟩ | ⟨q1, _⟩
    · exact ⟨rfl, hI, hR⟩
    · exact absurd q1 h1
    · exact absurd q1 h1
  · refine ⟨_, rfl, ?_⟩
    refine ZM.mono (x_X10_type 13 g ((a 1).toInt64 <<< ((32 : Int32).toInt64 &&& 63) ||| (a 2).toInt64 &&& 4294967295) (a 3) l hm l120) (fun r2 g2 h3 => ?_)
    rcases h3 with ⟨q1, _⟩ | ⟨_, _, rfl, rfl⟩ | ⟨_, q2, _⟩
    · exact absurd h1 q1
    · exact ⟨rfl, hI, hR⟩
    · omega
  · refine ⟨_, rfl, ?_⟩
    refine ZM.mono (x_X10_type 13 _ ((a 1).toInt64 <<< ((32 : Int32).toInt64 &&& 63) ||| (a 2).toInt64 &&& 4294967295) (a 3) l ((ztp_o (by omega) (by decide)).trans hm) l120) (fun r2 g2 h3 => ?_)
    rcases h3 with ⟨q1, _⟩ | ⟨_, q2, _⟩ | ⟨_, _, rfl, rfl⟩
    · exact absurd h1 q1
    · omega
    · have hg2 : zInv (ztp 36 25 16 (ztp 19 18 3 f ((a 1).toInt64 <<< ((32 : Int32).toInt64 &&& 63) ||| (a 2).toInt64 &&& 4294967295) l (a 3).toInt.toNat (a 3).toInt.toNat) ((a 1).toInt64 <<< ((32 : Int32).toInt64 &&& 63) ||| (a 2).toInt64 &&& 4294967295) l (a 3).toInt.toNat (a 3).toInt.toNat) := ztp_inv (ztp_inv hI h2 rfl (fun _ => rfl)) h2 rfl (fun _ => rfl)
      exact ⟨rfl, hg2, zRi_k Ri ((ztp_o (x := 0) (y := 0) (z := 5) (by omega) (by decide)).trans (ztp_o (by omega) (by decide))) ((ztp_o (x := 25) (y := 0) (z := 22) (by omega) (by decide)).trans (ztp_o (by omega) (by decide))), zRc_k Rc (fun n => (ztp_o (x := 1) (y := n) (z := 6) (by omega) (by decide)).trans (ztp_o (by omega) (by decide))) (fun n => (ztp_o (x := 1) (y := n) (z := 8) (by omega) (by decide)).trans (ztp_o (by omega) (by decide))) ((ztp_o (x := 25) (y := 0) (z := 2) (by omega) (by decide)).trans (ztp_o (by omega) (by decide))) ((ztp_o (x := 25) (y := 0) (z := 6) (by omega) (by decide)).trans (ztp_o (by omega) (by decide))) (fun j => (ztp_o (x := 39) (y := 0) (z := j) (by omega) (by decide)).trans (ztp_o (by omega) (by decide))), zRd_k Rd (fun n => (ztp_o (x := 1) (y := n) (z := 6) (by omega) (by decide)).trans (ztp_o (by omega) (by decide))) (fun n j hj => by rcases (show j = 0 ∨ j = 1 ∨ j = 2 ∨ j = 3 ∨ j = 4 by omega) with rfl | rfl | rfl | rfl | rfl <;> exact (ztp_o (x := 8) (y := n) (z := _) (by omega) (by decide)).trans (ztp_o (by omega) (by decide))) (fun j => (ztp_o (x := 27) (y := 0) (z := j) (by omega) (by decide)).trans (ztp_o (by omega) (by decide))) (fun j => (ztp_o (x := 39) (y := 0) (z := j) (by omega) (by decide)).trans (ztp_o (by omega) (by decide))), qd_type h2 hl Rt, zRs_k Rs (fun s => (ztp_o (x := 23) (y := s) (z := 1) (by omega) (by decide)).trans (ztp_o (by omega) (by decide))) (fun s => (ztp_o (x := 23) (y := s) (z := 2) (by omega) (by decide)).trans (ztp_o (by omega) (by decide))) (fun s i => (ztp_o (x := 24) (y := s) (z := i) (by omega) (by decide)).trans (ztp_o (by omega) (by decide))) (fun i => (ztp_o (x := 41) (y := 0) (z := i) (by omega) (by decide)).trans (ztp_o (by omega) (by decide))) (fun i => (ztp_o (x := 42) (y := 0) (z := i) (by omega) (by decide)).trans (ztp_o (by omega) (by decide))) (fun i => (ztp_o (x := 43) (y := 0) (z := i) (by omega) (by decide)).trans (ztp_o (by omega) (by decide)))⟩
theorem qc_6 (f : zM) (hI : zInv f) (hR : zRa f) (a : Nat → Int32) : zCall_6 f a (fun g => zInv g ∧ zRa g) := ZMs.mono (w_X9_worldL 5 f hI) (fun r g h => by
  obtain ⟨⟨v, rfl, _⟩, hg, hF, hP⟩ := h
  have hP := hP v rfl
  obtain ⟨Ri, Rc, Rd, Rt, Rs⟩ := hR
  refine ⟨v, rfl, ?_⟩
  refine ZM.mono (w_X10_worldL 10 g hg) (fun r2 g2 h2 => ?_)
  obtain ⟨⟨v2, rfl, _⟩, hg2, hG, hQ⟩ := h2
  have hQ := hQ v2 rfl
  have e1 : g2 18 0 3 = g 18 0 3 := hG 18 0 3 rfl
  refine ⟨⟨_, rfl⟩, hg2, zRi_k Ri ((hG 0 0 5 rfl).trans (hF 0 0 5 rfl)) ((hG 25 0 22 rfl).trans (hF 25 0 22 rfl)), zRc_k Rc (fun n => (hG 1 n 6 rfl).trans (hF 1 n 6 rfl)) (fun n => (hG 1 n 8 rfl).trans (hF 1 n 8 rfl)) ((hG 25 0 2 rfl).trans (hF 25 0 2 rfl)) ((hG 25 0 6 rfl).trans (hF 25 0 6 rfl)) (fun j => (hG 39 0 j rfl).trans (hF 39 0 j rfl)), zRd_k Rd (fun n => (hG 1 n 6 rfl).trans (hF 1 n 6 rfl)) (fun n j hj => by rcases (show j = 0 ∨ j = 1 ∨ j = 2 ∨ j = 3 ∨ j = 4 by omega) with rfl | rfl | rfl | rfl | rfl <;> exact (hG 8 n _ rfl).trans (hF 8 n _ rfl)) (fun j => (hG 27 0 j rfl).trans (hF 27 0 j rfl)) (fun j => (hG 39 0 j rfl).trans (hF 39 0 j rfl)), ⟨?_, fun i hi => ?_⟩, zRs_k Rs (fun s => (hG 23 s 1 rfl).trans (hF 23 s 1 rfl)) (fun s => (hG 23 s 2 rfl).trans (hF 23 s 2 rfl)) (fun s i => (hG 24 s i rfl).trans (hF 24 s i rfl)) (fun i => (hG 41 0 i rfl).trans (hF 41 0 i rfl)) (fun i => (hG 42 0 i rfl).trans (hF 42 0 i rfl)) (fun i => (hG 43 0 i rfl).trans (hF 43 0 i rfl))⟩
  · rw [e1, z32eq]; omega
  · rw [e1] at hi; omega)
theorem qc_7 (f : zM) (hI : zInv f) (hR : zRa f) (a : Nat → Int32) : zCall_7 f a (fun g => zInv g ∧ zRa g) := ZM.mono (w_X9_crimeOf 14 f ((a 1)) (zB_any _) ((a 2)) (zB_any _) hI) (fun r g h => by
  obtain ⟨⟨v, rfl, _⟩, hg, hF⟩ := h
  obtain ⟨Ri, Rc, Rd, Rt, Rs⟩ := hR
  refine ⟨v, rfl, ?_⟩
  refine ZM.mono (w_X10_crimeOf 13 g ((a 1)) (zB_any _) ((a 2)) (zB_any _) hg) (fun r2 g2 h2 => ?_)
  obtain ⟨⟨v2, rfl, _⟩, hg2, hG⟩ := h2
  exact ⟨⟨v2, rfl⟩, hg2, zRi_k Ri ((hG 0 0 5 rfl).trans (hF 0 0 5 rfl)) ((hG 25 0 22 rfl).trans (hF 25 0 22 rfl)), zRc_k Rc (fun n => (hG 1 n 6 rfl).trans (hF 1 n 6 rfl)) (fun n => (hG 1 n 8 rfl).trans (hF 1 n 8 rfl)) ((hG 25 0 2 rfl).trans (hF 25 0 2 rfl)) ((hG 25 0 6 rfl).trans (hF 25 0 6 rfl)) (fun j => (hG 39 0 j rfl).trans (hF 39 0 j rfl)), zRd_k Rd (fun n => (hG 1 n 6 rfl).trans (hF 1 n 6 rfl)) (fun n j hj => by rcases (show j = 0 ∨ j = 1 ∨ j = 2 ∨ j = 3 ∨ j = 4 by omega) with rfl | rfl | rfl | rfl | rfl <;> exact (hG 8 n _ rfl).trans (hF 8 n _ rfl)) (fun j => (hG 27 0 j rfl).trans (hF 27 0 j rfl)) (fun j => (hG 39 0 j rfl).trans (hF 39 0 j rfl)), zRt_k Rt ((hG 18 0 3 rfl).trans (hF 18 0 3 rfl)) ((hG 25 0 16 rfl).trans (hF 25 0 16 rfl)) (fun i => (hG 19 0 i rfl).trans (hF 19 0 i rfl)) (fun i => (hG 36 0 i rfl).trans (hF 36 0 i rfl)), zRs_k Rs (fun s => (hG 23 s 1 rfl).trans (hF 23 s 1 rfl)) (fun s => (hG 23 s 2 rfl).trans (hF 23 s 2 rfl)) (fun s i => (hG 24 s i rfl).trans (hF 24 s i rfl)) (fun i => (hG 41 0 i rfl).trans (hF 41 0 i rfl)) (fun i => (hG 42 0 i rfl).trans (hF 42 0 i rfl)) (fun i => (hG 43 0 i rfl).trans (hF 43 0 i rfl))⟩)
theorem qc_8 (f : zM) (hI : zInv f) (hR : zRa f) (a : Nat → Int32) : zCall_8 f a (fun g => zInv g ∧ zRa g) := ZM.mono (w_X9_paper 13 f ((a 1)) (zB_any _) ((a 2)) (zB_any _) hI) (fun r g h => by
  obtain ⟨⟨v, rfl, _⟩, hg, hF⟩ := h
  obtain ⟨Ri, Rc, Rd, Rt, Rs⟩ := hR
  refine ⟨v, rfl, ?_⟩
  refine ZM.mono (w_X10_paper 12 g ((a 1)) (zB_any _) ((a 2)) (zB_any _) hg) (fun r2 g2 h2 => ?_)
  obtain ⟨⟨v2, rfl, _⟩, hg2, hG⟩ := h2
  exact ⟨⟨v2, rfl⟩, hg2, zRi_k Ri ((hG 0 0 5 rfl).trans (hF 0 0 5 rfl)) ((hG 25 0 22 rfl).trans (hF 25 0 22 rfl)), zRc_k Rc (fun n => (hG 1 n 6 rfl).trans (hF 1 n 6 rfl)) (fun n => (hG 1 n 8 rfl).trans (hF 1 n 8 rfl)) ((hG 25 0 2 rfl).trans (hF 25 0 2 rfl)) ((hG 25 0 6 rfl).trans (hF 25 0 6 rfl)) (fun j => (hG 39 0 j rfl).trans (hF 39 0 j rfl)), zRd_k Rd (fun n => (hG 1 n 6 rfl).trans (hF 1 n 6 rfl)) (fun n j hj => by rcases (show j = 0 ∨ j = 1 ∨ j = 2 ∨ j = 3 ∨ j = 4 by omega) with rfl | rfl | rfl | rfl | rfl <;> exact (hG 8 n _ rfl).trans (hF 8 n _ rfl)) (fun j => (hG 27 0 j rfl).trans (hF 27 0 j rfl)) (fun j => (hG 39 0 j rfl).trans (hF 39 0 j rfl)), zRt_k Rt ((hG 18 0 3 rfl).trans (hF 18 0 3 rfl)) ((hG 25 0 16 rfl).trans (hF 25 0 16 rfl)) (fun i => (hG 19 0 i rfl).trans (hF 19 0 i rfl)) (fun i => (hG 36 0 i rfl).trans (hF 36 0 i rfl)), zRs_k Rs (fun s => (hG 23 s 1 rfl).trans (hF 23 s 1 rfl)) (fun s => (hG 23 s 2 rfl).trans (hF 23 s 2 rfl)) (fun s i => (hG 24 s i rfl).trans (hF 24 s i rfl)) (fun i => (hG 41 0 i rfl).trans (hF 41 0 i rfl)) (fun i => (hG 42 0 i rfl).trans (hF 42 0 i rfl)) (fun i => (hG 43 0 i rfl).trans (hF 43 0 i rfl))⟩)
theorem qc_9 (f : zM) (hI : zInv f) (hR : zRa f) (a : Nat → Int32) : zCall_9 f a (fun g => zInv g ∧ zRa g) := ZM.mono (w_X9_bars 13 f ((a 1)) (zB_any _) ((a 2)) (zB_any _) hI) (fun r g h => by
  obtain ⟨⟨v, rfl, _⟩, hg, hF⟩ := h
  obtain ⟨Ri, Rc, Rd, Rt, Rs⟩ := hR
  refine ⟨v, rfl, ?_⟩
  refine ZM.mono (w_X10_bars 12 g ((a 1)) (zB_any _) ((a 2)) (zB_any _) hg) (fun r2 g2 h2 => ?_)
  obtain ⟨⟨v2, rfl, _⟩, hg2, hG⟩ := h2
  exact ⟨⟨v2, rfl⟩, hg2, zRi_k Ri ((hG 0 0 5 rfl).trans (hF 0 0 5 rfl)) ((hG 25 0 22 rfl).trans (hF 25 0 22 rfl)), zRc_k Rc (fun n => (hG 1 n 6 rfl).trans (hF 1 n 6 rfl)) (fun n => (hG 1 n 8 rfl).trans (hF 1 n 8 rfl)) ((hG 25 0 2 rfl).trans (hF 25 0 2 rfl)) ((hG 25 0 6 rfl).trans (hF 25 0 6 rfl)) (fun j => (hG 39 0 j rfl).trans (hF 39 0 j rfl)), zRd_k Rd (fun n => (hG 1 n 6 rfl).trans (hF 1 n 6 rfl)) (fun n j hj => by rcases (show j = 0 ∨ j = 1 ∨ j = 2 ∨ j = 3 ∨ j = 4 by omega) with rfl | rfl | rfl | rfl | rfl <;> exact (hG 8 n _ rfl).trans (hF 8 n _ rfl)) (fun j => (hG 27 0 j rfl).trans (hF 27 0 j rfl)) (fun j => (hG 39 0 j rfl).trans (hF 39 0 j rfl)), zRt_k Rt ((hG 18 0 3 rfl).trans (hF 18 0 3 rfl)) ((hG 25 0 16 rfl).trans (hF 25 0 16 rfl)) (fun i => (hG 19 0 i rfl).trans (hF 19 0 i rfl)) (fun i => (hG 36 0 i rfl).trans (hF 36 0 i rfl)), zRs_k Rs (fun s => (hG 23 s 1 rfl).trans (hF 23 s 1 rfl)) (fun s => (hG 23 s 2 rfl).trans (hF 23 s 2 rfl)) (fun s i => (hG 24 s i rfl).trans (hF 24 s i rfl)) (fun i => (hG 41 0 i rfl).trans (hF 41 0 i rfl)) (fun i => (hG 42 0 i rfl).trans (hF 42 0 i rfl)) (fun i => (hG 43 0 i rfl).trans (hF 43 0 i rfl))⟩)
theorem qc_10 (f : zM) (hI : zInv f) (hR : zRa f) (a : Nat → Int32) : zCall_10 f a (fun g => zInv g ∧ zRa g) := ZM.mono (w_X9_matches 13 f ((a 1)) (zB_any _) ((a 2)) (zB_any _) ((a 3)) (zB_any _) hI) (fun r g h => by
  obtain ⟨⟨v, rfl, _⟩, hg, hF⟩ := h
  obtain ⟨Ri, Rc, Rd, Rt, Rs⟩ := hR
  refine ⟨v, rfl, ?_⟩
  refine ZM.mono (w_X10_matches 12 g ((a 1)) (zB_any _) ((a 2)) (zB_any _) ((a 3)) (zB_any _) hg) (fun r2 g2 h2 => ?_)
  obtain ⟨⟨v2, rfl, _⟩, hg2, hG⟩ := h2
  exact ⟨⟨v2, rfl⟩, hg2, zRi_k Ri ((hG 0 0 5 rfl).trans (hF 0 0 5 rfl)) ((hG 25 0 22 rfl).trans (hF 25 0 22 rfl)), zRc_k Rc (fun n => (hG 1 n 6 rfl).trans (hF 1 n 6 rfl)) (fun n => (hG 1 n 8 rfl).trans (hF 1 n 8 rfl)) ((hG 25 0 2 rfl).trans (hF 25 0 2 rfl)) ((hG 25 0 6 rfl).trans (hF 25 0 6 rfl)) (fun j => (hG 39 0 j rfl).trans (hF 39 0 j rfl)), zRd_k Rd (fun n => (hG 1 n 6 rfl).trans (hF 1 n 6 rfl)) (fun n j hj => by rcases (show j = 0 ∨ j = 1 ∨ j = 2 ∨ j = 3 ∨ j = 4 by omega) with rfl | rfl | rfl | rfl | rfl <;> exact (hG 8 n _ rfl).trans (hF 8 n _ rfl)) (fun j => (hG 27 0 j rfl).trans (hF 27 0 j rfl)) (fun j => (hG 39 0 j rfl).trans (hF 39 0 j rfl)), zRt_k Rt ((hG 18 0 3 rfl).trans (hF 18 0 3 rfl)) ((hG 25 0 16 rfl).trans (hF 25 0 16 rfl)) (fun i => (hG 19 0 i rfl).trans (hF 19 0 i rfl)) (fun i => (hG 36 0 i rfl).trans (hF 36 0 i rfl)), zRs_k Rs (fun s => (hG 23 s 1 rfl).trans (hF 23 s 1 rfl)) (fun s => (hG 23 s 2 rfl).trans (hF 23 s 2 rfl)) (fun s i => (hG 24 s i rfl).trans (hF 24 s i rfl)) (fun i => (hG 41 0 i rfl).trans (hF 41 0 i rfl)) (fun i => (hG 42 0 i rfl).trans (hF 42 0 i rfl)) (fun i => (hG 43 0 i rfl).trans (hF 43 0 i rfl))⟩)
theorem qc_11 (f : zM) (hI : zInv f) (hR : zRa f) (a : Nat → Int32) : zCall_11 f a (fun g => zInv g ∧ zRa g) := ZM.mono (w_X9_yearsOf 13 f ((a 1)) (zB_any _) ((a 2)) (zB_any _) ((a 3)) (zB_any _) hI) (fun r g h => by
  obtain ⟨⟨v, rfl, _⟩, hg, hF⟩ := h
  obtain ⟨Ri, Rc, Rd, Rt, Rs⟩ := hR
  refine ⟨v, rfl, ?_⟩
  refine ZM.mono (w_X10_yearsOf 11 g ((a 1)) (zB_any _) ((a 2)) (zB_any _) ((a 3)) (zB_any _) hg) (fun r2 g2 h2 => ?_)
  obtain ⟨⟨v2, rfl, _⟩, hg2, hG⟩ := h2
  exact ⟨⟨v2, rfl⟩, hg2, zRi_k Ri ((hG 0 0 5 rfl).trans (hF 0 0 5 rfl)) ((hG 25 0 22 rfl).trans (hF 25 0 22 rfl)), zRc_k Rc (fun n => (hG 1 n 6 rfl).trans (hF 1 n 6 rfl)) (fun n => (hG 1 n 8 rfl).trans (hF 1 n 8 rfl)) ((hG 25 0 2 rfl).trans (hF 25 0 2 rfl)) ((hG 25 0 6 rfl).trans (hF 25 0 6 rfl)) (fun j => (hG 39 0 j rfl).trans (hF 39 0 j rfl)), zRd_k Rd (fun n => (hG 1 n 6 rfl).trans (hF 1 n 6 rfl)) (fun n j hj => by rcases (show j = 0 ∨ j = 1 ∨ j = 2 ∨ j = 3 ∨ j = 4 by omega) with rfl | rfl | rfl | rfl | rfl <;> exact (hG 8 n _ rfl).trans (hF 8 n _ rfl)) (fun j => (hG 27 0 j rfl).trans (hF 27 0 j rfl)) (fun j => (hG 39 0 j rfl).trans (hF 39 0 j rfl)), zRt_k Rt ((hG 18 0 3 rfl).trans (hF 18 0 3 rfl)) ((hG 25 0 16 rfl).trans (hF 25 0 16 rfl)) (fun i => (hG 19 0 i rfl).trans (hF 19 0 i rfl)) (fun i => (hG 36 0 i rfl).trans (hF 36 0 i rfl)), zRs_k Rs (fun s => (hG 23 s 1 rfl).trans (hF 23 s 1 rfl)) (fun s => (hG 23 s 2 rfl).trans (hF 23 s 2 rfl)) (fun s i => (hG 24 s i rfl).trans (hF 24 s i rfl)) (fun i => (hG 41 0 i rfl).trans (hF 41 0 i rfl)) (fun i => (hG 42 0 i rfl).trans (hF 42 0 i rfl)) (fun i => (hG 43 0 i rfl).trans (hF 43 0 i rfl))⟩)
theorem qc_12 (f : zM) (hI : zInv f) (hR : zRa f) (a : Nat → Int32) : zCall_12 f a (fun g => zInv g ∧ zRa g) := ZM.mono (x_X9_shows 11 f ((a 1)) (zB_any _) ((a 2)) (zB_any _) ((a 3)) (zB_any _) ((a 4)) (zB_any _) hI) (fun r g h => by
  obtain ⟨⟨v, rfl, _⟩, hg, hF, hP⟩ := h
  have hP := hP v rfl
  obtain ⟨Ri, Rc, Rd, Rt, Rs⟩ := hR
  refine ⟨v, rfl, ?_⟩
  refine ZM.mono (x_X10_shows 12 g ((a 1)) (zB_any _) ((a 2)) (zB_any _) ((a 3)) (zB_any _) ((a 4)) (zB_any _) hg) (fun r2 g2 h2 => ?_)
  obtain ⟨⟨v2, rfl, _⟩, hg2, hG, hQ⟩ := h2
  have hQ := hQ v2 rfl
  obtain ⟨hv, H1⟩ := qd_shows hI hg Ri Rc Rd Rt Rs hF hG hP hQ
  exact ⟨⟨_, rfl⟩, hg2, zRi_k Ri ((hG 0 0 5 rfl).trans (hF 0 0 5 rfl)) ((hG 25 0 22 rfl).trans (hF 25 0 22 rfl)), zRc_k Rc (fun n => (hG 1 n 6 rfl).trans (hF 1 n 6 rfl)) (fun n => (hG 1 n 8 rfl).trans (hF 1 n 8 rfl)) ((hG 25 0 2 rfl).trans (hF 25 0 2 rfl)) ((hG 25 0 6 rfl).trans (hF 25 0 6 rfl)) (fun j => (hG 39 0 j rfl).trans (hF 39 0 j rfl)), H1, zRt_k Rt ((hG 18 0 3 rfl).trans (hF 18 0 3 rfl)) ((hG 25 0 16 rfl).trans (hF 25 0 16 rfl)) (fun i => (hG 19 0 i rfl).trans (hF 19 0 i rfl)) (fun i => (hG 36 0 i rfl).trans (hF 36 0 i rfl)), zRs_k Rs (fun s => (hG 23 s 1 rfl).trans (hF 23 s 1 rfl)) (fun s => (hG 23 s 2 rfl).trans (hF 23 s 2 rfl)) (fun s i => (hG 24 s i rfl).trans (hF 24 s i rfl)) (fun i => (hG 41 0 i rfl).trans (hF 41 0 i rfl)) (fun i => (hG 42 0 i rfl).trans (hF 42 0 i rfl)) (fun i => (hG 43 0 i rfl).trans (hF 43 0 i rfl))⟩)
theorem qc_13 (f : zM) (hI : zInv f) (hR : zRa f) (a : Nat → Int32) : zCall_13 f a (fun g => zInv g ∧ zRa g) := ZM.mono (w_X9_count 14 f ((a 1)) (zB_any _) hI) (fun r g h => by
  obtain ⟨⟨v, rfl, _⟩, hg, hF⟩ := h
  obtain ⟨Ri, Rc, Rd, Rt, Rs⟩ := hR
  refine ⟨v, rfl, ?_⟩
  refine ZM.mono (w_X10_count 14 g ((a 1)) (zB_any _) hg) (fun r2 g2 h2 => ?_)
  obtain ⟨⟨v2, rfl, _⟩, hg2, hG⟩ := h2
  exact ⟨⟨v2, rfl⟩, hg2, zRi_k Ri ((hG 0 0 5 rfl).trans (hF 0 0 5 rfl)) ((hG 25 0 22 rfl).trans (hF 25 0 22 rfl)), zRc_k Rc (fun n => (hG 1 n 6 rfl).trans (hF 1 n 6 rfl)) (fun n => (hG 1 n 8 rfl).trans (hF 1 n 8 rfl)) ((hG 25 0 2 rfl).trans (hF 25 0 2 rfl)) ((hG 25 0 6 rfl).trans (hF 25 0 6 rfl)) (fun j => (hG 39 0 j rfl).trans (hF 39 0 j rfl)), zRd_k Rd (fun n => (hG 1 n 6 rfl).trans (hF 1 n 6 rfl)) (fun n j hj => by rcases (show j = 0 ∨ j = 1 ∨ j = 2 ∨ j = 3 ∨ j = 4 by omega) with rfl | rfl | rfl | rfl | rfl <;> exact (hG 8 n _ rfl).trans (hF 8 n _ rfl)) (fun j => (hG 27 0 j rfl).trans (hF 27 0 j rfl)) (fun j => (hG 39 0 j rfl).trans (hF 39 0 j rfl)), zRt_k Rt ((hG 18 0 3 rfl).trans (hF 18 0 3 rfl)) ((hG 25 0 16 rfl).trans (hF 25 0 16 rfl)) (fun i => (hG 19 0 i rfl).trans (hF 19 0 i rfl)) (fun i => (hG 36 0 i rfl).trans (hF 36 0 i rfl)), zRs_k Rs (fun s => (hG 23 s 1 rfl).trans (hF 23 s 1 rfl)) (fun s => (hG 23 s 2 rfl).trans (hF 23 s 2 rfl)) (fun s i => (hG 24 s i rfl).trans (hF 24 s i rfl)) (fun i => (hG 41 0 i rfl).trans (hF 41 0 i rfl)) (fun i => (hG 42 0 i rfl).trans (hF 42 0 i rfl)) (fun i => (hG 43 0 i rfl).trans (hF 43 0 i rfl))⟩)
theorem qc_14 (f : zM) (hI : zInv f) (hR : zRa f) (a : Nat → Int32) : zCall_14 f a (fun g => zInv g ∧ zRa g) := ZM.mono (w_X9_man 13 f ((a 1)) (zB_any _) ((a 2)) (zB_any _) hI) (fun r g h => by
  obtain ⟨⟨v, rfl, _⟩, hg, hF⟩ := h
  obtain ⟨Ri, Rc, Rd, Rt, Rs⟩ := hR
  refine ⟨v, rfl, ?_⟩
  refine ZM.mono (w_X10_man 12 g ((a 1)) (zB_any _) ((a 2)) (zB_any _) hg) (fun r2 g2 h2 => ?_)
  obtain ⟨⟨v2, rfl, _⟩, hg2, hG⟩ := h2
  exact ⟨⟨v2, rfl⟩, hg2, zRi_k Ri ((hG 0 0 5 rfl).trans (hF 0 0 5 rfl)) ((hG 25 0 22 rfl).trans (hF 25 0 22 rfl)), zRc_k Rc (fun n => (hG 1 n 6 rfl).trans (hF 1 n 6 rfl)) (fun n => (hG 1 n 8 rfl).trans (hF 1 n 8 rfl)) ((hG 25 0 2 rfl).trans (hF 25 0 2 rfl)) ((hG 25 0 6 rfl).trans (hF 25 0 6 rfl)) (fun j => (hG 39 0 j rfl).trans (hF 39 0 j rfl)), zRd_k Rd (fun n => (hG 1 n 6 rfl).trans (hF 1 n 6 rfl)) (fun n j hj => by rcases (show j = 0 ∨ j = 1 ∨ j = 2 ∨ j = 3 ∨ j = 4 by omega) with rfl | rfl | rfl | rfl | rfl <;> exact (hG 8 n _ rfl).trans (hF 8 n _ rfl)) (fun j => (hG 27 0 j rfl).trans (hF 27 0 j rfl)) (fun j => (hG 39 0 j rfl).trans (hF 39 0 j rfl)), zRt_k Rt ((hG 18 0 3 rfl).trans (hF 18 0 3 rfl)) ((hG 25 0 16 rfl).trans (hF 25 0 16 rfl)) (fun i => (hG 19 0 i rfl).trans (hF 19 0 i rfl)) (fun i => (hG 36 0 i rfl).trans (hF 36 0 i rfl)), zRs_k Rs (fun s => (hG 23 s 1 rfl).trans (hF 23 s 1 rfl)) (fun s => (hG 23 s 2 rfl).trans (hF 23 s 2 rfl)) (fun s i => (hG 24 s i rfl).trans (hF 24 s i rfl)) (fun i => (hG 41 0 i rfl).trans (hF 41 0 i rfl)) (fun i => (hG 42 0 i rfl).trans (hF 42 0 i rfl)) (fun i => (hG 43 0 i rfl).trans (hF 43 0 i rfl))⟩)
theorem qc_15 (f : zM) (hI : zInv f) (hR : zRa f) (a : Nat → Int32) : zCall_15 f a (fun g => zInv g ∧ zRa g) := ZM.mono (x_X9_judged 13 f ((a 1)) (zB_any _) ((zbl (a 2))) (zbl_B _) hI) (fun r g h => by
  obtain ⟨⟨v, rfl, _⟩, hg, hF, hP⟩ := h
  have hP := hP v rfl
  obtain ⟨Ri, Rc, Rd, Rt, Rs⟩ := hR
  refine ⟨v, rfl, ?_⟩
  refine ZM.mono (x_X10_judged 12 g ((a 1)) (zB_any _) ((zbl (a 2))) (zbl_B _) hg) (fun r2 g2 h2 => ?_)
  obtain ⟨⟨v2, rfl, _⟩, hg2, hG, hQ⟩ := h2
  have hQ := hQ v2 rfl
  obtain ⟨hv, H1⟩ := qd_judged hI hg Ri Rc Rd Rt Rs hF hG hP hQ
  exact ⟨⟨_, rfl⟩, hg2, zRi_k Ri ((hG 0 0 5 rfl).trans (hF 0 0 5 rfl)) ((hG 25 0 22 rfl).trans (hF 25 0 22 rfl)), zRc_k Rc (fun n => (hG 1 n 6 rfl).trans (hF 1 n 6 rfl)) (fun n => (hG 1 n 8 rfl).trans (hF 1 n 8 rfl)) ((hG 25 0 2 rfl).trans (hF 25 0 2 rfl)) ((hG 25 0 6 rfl).trans (hF 25 0 6 rfl)) (fun j => (hG 39 0 j rfl).trans (hF 39 0 j rfl)), H1, zRt_k Rt ((hG 18 0 3 rfl).trans (hF 18 0 3 rfl)) ((hG 25 0 16 rfl).trans (hF 25 0 16 rfl)) (fun i => (hG 19 0 i rfl).trans (hF 19 0 i rfl)) (fun i => (hG 36 0 i rfl).trans (hF 36 0 i rfl)), zRs_k Rs (fun s => (hG 23 s 1 rfl).trans (hF 23 s 1 rfl)) (fun s => (hG 23 s 2 rfl).trans (hF 23 s 2 rfl)) (fun s i => (hG 24 s i rfl).trans (hF 24 s i rfl)) (fun i => (hG 41 0 i rfl).trans (hF 41 0 i rfl)) (fun i => (hG 42 0 i rfl).trans (hF 42 0 i rfl)) (fun i => (hG 43 0 i rfl).trans (hF 43 0 i rfl))⟩)
theorem qc_16 (f : zM) (hI : zInv f) (hR : zRa f) (a : Nat → Int32) : zCall_16 f a (fun g => zInv g ∧ zRa g) := ZM.mono (w_X9_bound 13 f ((a 1)) (zB_any _) hI) (fun r g h => by
  obtain ⟨⟨v, rfl, _⟩, hg, hF⟩ := h
  obtain ⟨Ri, Rc, Rd, Rt, Rs⟩ := hR
  refine ⟨v, rfl, ?_⟩
  refine ZM.mono (w_X10_bound 13 g ((a 1)) (zB_any _) hg) (fun r2 g2 h2 => ?_)
  obtain ⟨⟨v2, rfl, _⟩, hg2, hG⟩ := h2
  exact ⟨⟨v2, rfl⟩, hg2, zRi_k Ri ((hG 0 0 5 rfl).trans (hF 0 0 5 rfl)) ((hG 25 0 22 rfl).trans (hF 25 0 22 rfl)), zRc_k Rc (fun n => (hG 1 n 6 rfl).trans (hF 1 n 6 rfl)) (fun n => (hG 1 n 8 rfl).trans (hF 1 n 8 rfl)) ((hG 25 0 2 rfl).trans (hF 25 0 2 rfl)) ((hG 25 0 6 rfl).trans (hF 25 0 6 rfl)) (fun j => (hG 39 0 j rfl).trans (hF 39 0 j rfl)), zRd_k Rd (fun n => (hG 1 n 6 rfl).trans (hF 1 n 6 rfl)) (fun n j hj => by rcases (show j = 0 ∨ j = 1 ∨ j = 2 ∨ j = 3 ∨ j = 4 by omega) with rfl | rfl | rfl | rfl | rfl <;> exact (hG 8 n _ rfl).trans (hF 8 n _ rfl)) (fun j => (hG 27 0 j rfl).trans (hF 27 0 j rfl)) (fun j => (hG 39 0 j rfl).trans (hF 39 0 j rfl)), zRt_k Rt ((hG 18 0 3 rfl).trans (hF 18 0 3 rfl)) ((hG 25 0 16 rfl).trans (hF 25 0 16 rfl)) (fun i => (hG 19 0 i rfl).trans (hF 19 0 i rfl)) (fun i => (hG 36 0 i rfl).trans (hF 36 0 i rfl)), zRs_k Rs (fun s => (hG 23 s 1 rfl).trans (hF 23 s 1 rfl)) (fun s => (hG 23 s 2 rfl).trans (hF 23 s 2 rfl)) (fun s i => (hG 24 s i rfl).trans (hF 24 s i rfl)) (fun i => (hG 41 0 i rfl).trans (hF 41 0 i rfl)) (fun i => (hG 42 0 i rfl).trans (hF 42 0 i rfl)) (fun i => (hG 43 0 i rfl).trans (hF 43 0 i rfl))⟩)
theorem qc_17 (f : zM) (hI : zInv f) (hR : zRa f) (a : Nat → Int32) : zCall_17 f a (fun g => zInv g ∧ zRa g) := ZM.mono (w_X9_covers 12 f ((a 1)) (zB_any _) hI) (fun r g h => by
  obtain ⟨⟨v, rfl, _⟩, hg, hF⟩ := h
  obtain ⟨Ri, Rc, Rd, Rt, Rs⟩ := hR
  refine ⟨v, rfl, ?_⟩
  refine ZM.mono (w_X10_covers 10 g ((a 1)) (zB_any _) hg) (fun r2 g2 h2 => ?_)
  obtain ⟨⟨v2, rfl, _⟩, hg2, hG⟩ := h2
  exact ⟨⟨v2, rfl⟩, hg2, zRi_k Ri ((hG 0 0 5 rfl).trans (hF 0 0 5 rfl)) ((hG 25 0 22 rfl).trans (hF 25 0 22 rfl)), zRc_k Rc (fun n => (hG 1 n 6 rfl).trans (hF 1 n 6 rfl)) (fun n => (hG 1 n 8 rfl).trans (hF 1 n 8 rfl)) ((hG 25 0 2 rfl).trans (hF 25 0 2 rfl)) ((hG 25 0 6 rfl).trans (hF 25 0 6 rfl)) (fun j => (hG 39 0 j rfl).trans (hF 39 0 j rfl)), zRd_k Rd (fun n => (hG 1 n 6 rfl).trans (hF 1 n 6 rfl)) (fun n j hj => by rcases (show j = 0 ∨ j = 1 ∨ j = 2 ∨ j = 3 ∨ j = 4 by omega) with rfl | rfl | rfl | rfl | rfl <;> exact (hG 8 n _ rfl).trans (hF 8 n _ rfl)) (fun j => (hG 27 0 j rfl).trans (hF 27 0 j rfl)) (fun j => (hG 39 0 j rfl).trans (hF 39 0 j rfl)), zRt_k Rt ((hG 18 0 3 rfl).trans (hF 18 0 3 rfl)) ((hG 25 0 16 rfl).trans (hF 25 0 16 rfl)) (fun i => (hG 19 0 i rfl).trans (hF 19 0 i rfl)) (fun i => (hG 36 0 i rfl).trans (hF 36 0 i rfl)), zRs_k Rs (fun s => (hG 23 s 1 rfl).trans (hF 23 s 1 rfl)) (fun s => (hG 23 s 2 rfl).trans (hF 23 s 2 rfl)) (fun s i => (hG 24 s i rfl).trans (hF 24 s i rfl)) (fun i => (hG 41 0 i rfl).trans (hF 41 0 i rfl)) (fun i => (hG 42 0 i rfl).trans (hF 42 0 i rfl)) (fun i => (hG 43 0 i rfl).trans (hF 43 0 i rfl))⟩)
theorem qc_18 (f : zM) (hI : zInv f) (hR : zRa f) (a : Nat → Int32) : zCall_18 f a (fun g => zInv g ∧ zRa g) := ZM.mono (w_X9_lets 11 f ((a 1)) (zB_any _) hI) (fun r g h => by
  obtain ⟨⟨v, rfl, _⟩, hg, hF, _⟩ := h
  obtain ⟨Ri, Rc, Rd, Rt, Rs⟩ := hR
  refine ⟨v, rfl, ?_⟩
  refine ZM.mono (w_X10_lets 8 g ((a 1)) (zB_any _) hg) (fun r2 g2 h2 => ?_)
  obtain ⟨⟨v2, rfl, _⟩, hg2, hG, _⟩ := h2
  exact ⟨⟨v2, rfl⟩, hg2, zRi_k Ri ((hG 0 0 5 rfl).trans (hF 0 0 5 rfl)) ((hG 25 0 22 rfl).trans (hF 25 0 22 rfl)), zRc_k Rc (fun n => (hG 1 n 6 rfl).trans (hF 1 n 6 rfl)) (fun n => (hG 1 n 8 rfl).trans (hF 1 n 8 rfl)) ((hG 25 0 2 rfl).trans (hF 25 0 2 rfl)) ((hG 25 0 6 rfl).trans (hF 25 0 6 rfl)) (fun j => (hG 39 0 j rfl).trans (hF 39 0 j rfl)), zRd_k Rd (fun n => (hG 1 n 6 rfl).trans (hF 1 n 6 rfl)) (fun n j hj => by rcases (show j = 0 ∨ j = 1 ∨ j = 2 ∨ j = 3 ∨ j = 4 by omega) with rfl | rfl | rfl | rfl | rfl <;> exact (hG 8 n _ rfl).trans (hF 8 n _ rfl)) (fun j => (hG 27 0 j rfl).trans (hF 27 0 j rfl)) (fun j => (hG 39 0 j rfl).trans (hF 39 0 j rfl)), zRt_k Rt ((hG 18 0 3 rfl).trans (hF 18 0 3 rfl)) ((hG 25 0 16 rfl).trans (hF 25 0 16 rfl)) (fun i => (hG 19 0 i rfl).trans (hF 19 0 i rfl)) (fun i => (hG 36 0 i rfl).trans (hF 36 0 i rfl)), zRs_k Rs (fun s => (hG 23 s 1 rfl).trans (hF 23 s 1 rfl)) (fun s => (hG 23 s 2 rfl).trans (hF 23 s 2 rfl)) (fun s i => (hG 24 s i rfl).trans (hF 24 s i rfl)) (fun i => (hG 41 0 i rfl).trans (hF 41 0 i rfl)) (fun i => (hG 42 0 i rfl).trans (hF 42 0 i rfl)) (fun i => (hG 43 0 i rfl).trans (hF 43 0 i rfl))⟩)
theorem qc_19 (f : zM) (hI : zInv f) (hR : zRa f) (a : Nat → Int32) : zCall_19 f a (fun g => zInv g ∧ zRa g) := ZM.mono (w_X9_barred 12 f ((a 1)) (zB_any _) ((a 2)) (zB_any _) hI) (fun r g h => by
  obtain ⟨⟨v, rfl, _⟩, hg, hF⟩ := h
  obtain ⟨Ri, Rc, Rd, Rt, Rs⟩ := hR
  refine ⟨v, rfl, ?_⟩
  refine ZM.mono (w_X10_barred 10 g ((a 1)) (zB_any _) ((a 2)) (zB_any _) hg) (fun r2 g2 h2 => ?_)
  obtain ⟨⟨v2, rfl, _⟩, hg2, hG⟩ := h2
  exact ⟨⟨v2, rfl⟩, hg2, zRi_k Ri ((hG 0 0 5 rfl).trans (hF 0 0 5 rfl)) ((hG 25 0 22 rfl).trans (hF 25 0 22 rfl)), zRc_k Rc (fun n => (hG 1 n 6 rfl).trans (hF 1 n 6 rfl)) (fun n => (hG 1 n 8 rfl).trans (hF 1 n 8 rfl)) ((hG 25 0 2 rfl).trans (hF 25 0 2 rfl)) ((hG 25 0 6 rfl).trans (hF 25 0 6 rfl)) (fun j => (hG 39 0 j rfl).trans (hF 39 0 j rfl)), zRd_k Rd (fun n => (hG 1 n 6 rfl).trans (hF 1 n 6 rfl)) (fun n j hj => by rcases (show j = 0 ∨ j = 1 ∨ j = 2 ∨ j = 3 ∨ j = 4 by omega) with rfl | rfl | rfl | rfl | rfl <;> exact (hG 8 n _ rfl).trans (hF 8 n _ rfl)) (fun j => (hG 27 0 j rfl).trans (hF 27 0 j rfl)) (fun j => (hG 39 0 j rfl).trans (hF 39 0 j rfl)), zRt_k Rt ((hG 18 0 3 rfl).trans (hF 18 0 3 rfl)) ((hG 25 0 16 rfl).trans (hF 25 0 16 rfl)) (fun i => (hG 19 0 i rfl).trans (hF 19 0 i rfl)) (fun i => (hG 36 0 i rfl).trans (hF 36 0 i rfl)), zRs_k Rs (fun s => (hG 23 s 1 rfl).trans (hF 23 s 1 rfl)) (fun s => (hG 23 s 2 rfl).trans (hF 23 s 2 rfl)) (fun s i => (hG 24 s i rfl).trans (hF 24 s i rfl)) (fun i => (hG 41 0 i rfl).trans (hF 41 0 i rfl)) (fun i => (hG 42 0 i rfl).trans (hF 42 0 i rfl)) (fun i => (hG 43 0 i rfl).trans (hF 43 0 i rfl))⟩)
theorem qc_20 (f : zM) (hI : zInv f) (hR : zRa f) (a : Nat → Int32) : zCall_20 f a (fun g => zInv g ∧ zRa g) := ZM.mono (w_X9_send 10 f ((a 1)) (zB_any _) hI) (fun r g h => by
  obtain ⟨⟨v, rfl, _⟩, hg, hF⟩ := h
  obtain ⟨Ri, Rc, Rd, Rt, Rs⟩ := hR
  refine ⟨v, rfl, ?_⟩
  refine ZM.mono (w_X10_send 7 g ((a 1)) (zB_any _) hg) (fun r2 g2 h2 => ?_)
  obtain ⟨⟨v2, rfl, _⟩, hg2, hG⟩ := h2
  exact ⟨⟨v2, rfl⟩, hg2, zRi_k Ri ((hG 0 0 5 rfl).trans (hF 0 0 5 rfl)) ((hG 25 0 22 rfl).trans (hF 25 0 22 rfl)), zRc_k Rc (fun n => (hG 1 n 6 rfl).trans (hF 1 n 6 rfl)) (fun n => (hG 1 n 8 rfl).trans (hF 1 n 8 rfl)) ((hG 25 0 2 rfl).trans (hF 25 0 2 rfl)) ((hG 25 0 6 rfl).trans (hF 25 0 6 rfl)) (fun j => (hG 39 0 j rfl).trans (hF 39 0 j rfl)), zRd_k Rd (fun n => (hG 1 n 6 rfl).trans (hF 1 n 6 rfl)) (fun n j hj => by rcases (show j = 0 ∨ j = 1 ∨ j = 2 ∨ j = 3 ∨ j = 4 by omega) with rfl | rfl | rfl | rfl | rfl <;> exact (hG 8 n _ rfl).trans (hF 8 n _ rfl)) (fun j => (hG 27 0 j rfl).trans (hF 27 0 j rfl)) (fun j => (hG 39 0 j rfl).trans (hF 39 0 j rfl)), zRt_k Rt ((hG 18 0 3 rfl).trans (hF 18 0 3 rfl)) ((hG 25 0 16 rfl).trans (hF 25 0 16 rfl)) (fun i => (hG 19 0 i rfl).trans (hF 19 0 i rfl)) (fun i => (hG 36 0 i rfl).trans (hF 36 0 i rfl)), zRs_k Rs (fun s => (hG 23 s 1 rfl).trans (hF 23 s 1 rfl)) (fun s => (hG 23 s 2 rfl).trans (hF 23 s 2 rfl)) (fun s i => (hG 24 s i rfl).trans (hF 24 s i rfl)) (fun i => (hG 41 0 i rfl).trans (hF 41 0 i rfl)) (fun i => (hG 42 0 i rfl).trans (hF 42 0 i rfl)) (fun i => (hG 43 0 i rfl).trans (hF 43 0 i rfl))⟩)
theorem qc_21 (f : zM) (hI : zInv f) (hR : zRa f) (a : Nat → Int32) : zCall_21 f a (fun g => zInv g ∧ zRa g) := ZM.mono (w_X9_tried 12 f  hI) (fun r g h => by
  obtain ⟨⟨v, rfl, _⟩, hg, hF⟩ := h
  obtain ⟨Ri, Rc, Rd, Rt, Rs⟩ := hR
  refine ⟨v, rfl, ?_⟩
  refine ZM.mono (w_X10_tried 10 g  hg) (fun r2 g2 h2 => ?_)
  obtain ⟨⟨v2, rfl, _⟩, hg2, hG⟩ := h2
  exact ⟨⟨v2, rfl⟩, hg2, zRi_k Ri ((hG 0 0 5 rfl).trans (hF 0 0 5 rfl)) ((hG 25 0 22 rfl).trans (hF 25 0 22 rfl)), zRc_k Rc (fun n => (hG 1 n 6 rfl).trans (hF 1 n 6 rfl)) (fun n => (hG 1 n 8 rfl).trans (hF 1 n 8 rfl)) ((hG 25 0 2 rfl).trans (hF 25 0 2 rfl)) ((hG 25 0 6 rfl).trans (hF 25 0 6 rfl)) (fun j => (hG 39 0 j rfl).trans (hF 39 0 j rfl)), zRd_k Rd (fun n => (hG 1 n 6 rfl).trans (hF 1 n 6 rfl)) (fun n j hj => by rcases (show j = 0 ∨ j = 1 ∨ j = 2 ∨ j = 3 ∨ j = 4 by omega) with rfl | rfl | rfl | rfl | rfl <;> exact (hG 8 n _ rfl).trans (hF 8 n _ rfl)) (fun j => (hG 27 0 j rfl).trans (hF 27 0 j rfl)) (fun j => (hG 39 0 j rfl).trans (hF 39 0 j rfl)), zRt_k Rt ((hG 18 0 3 rfl).trans (hF 18 0 3 rfl)) ((hG 25 0 16 rfl).trans (hF 25 0 16 rfl)) (fun i => (hG 19 0 i rfl).trans (hF 19 0 i rfl)) (fun i => (hG 36 0 i rfl).trans (hF 36 0 i rfl)), zRs_k Rs (fun s => (hG 23 s 1 rfl).trans (hF 23 s 1 rfl)) (fun s => (hG 23 s 2 rfl).trans (hF 23 s 2 rfl)) (fun s i => (hG 24 s i rfl).trans (hF 24 s i rfl)) (fun i => (hG 41 0 i rfl).trans (hF 41 0 i rfl)) (fun i => (hG 42 0 i rfl).trans (hF 42 0 i rfl)) (fun i => (hG 43 0 i rfl).trans (hF 43 0 i rfl))⟩)
theorem qc_22 (f : zM) (hI : zInv f) (hR : zRa f) (a : Nat → Int32) : zCall_22 f a (fun g => zInv g ∧ zRa g) := ZM.mono (w_X9_road 10 f ((a 1)) (zB_any _) ((a 2)) (zB_any _) ((a 3)) (zB_any _) hI) (fun r g h => by
  obtain ⟨⟨v, rfl, _⟩, hg, hF⟩ := h
  obtain ⟨Ri, Rc, Rd, Rt, Rs⟩ := hR
  refine ⟨v, rfl, ?_⟩
  refine ZM.mono (w_X10_road 8 g ((a 1)) (zB_any _) ((a 2)) (zB_any _) ((a 3)) (zB_any _) hg) (fun r2 g2 h2 => ?_)
  obtain ⟨⟨v2, rfl, _⟩, hg2, hG⟩ := h2
  exact ⟨⟨v2, rfl⟩, hg2, zRi_k Ri ((hG 0 0 5 rfl).trans (hF 0 0 5 rfl)) ((hG 25 0 22 rfl).trans (hF 25 0 22 rfl)), zRc_k Rc (fun n => (hG 1 n 6 rfl).trans (hF 1 n 6 rfl)) (fun n => (hG 1 n 8 rfl).trans (hF 1 n 8 rfl)) ((hG 25 0 2 rfl).trans (hF 25 0 2 rfl)) ((hG 25 0 6 rfl).trans (hF 25 0 6 rfl)) (fun j => (hG 39 0 j rfl).trans (hF 39 0 j rfl)), zRd_k Rd (fun n => (hG 1 n 6 rfl).trans (hF 1 n 6 rfl)) (fun n j hj => by rcases (show j = 0 ∨ j = 1 ∨ j = 2 ∨ j = 3 ∨ j = 4 by omega) with rfl | rfl | rfl | rfl | rfl <;> exact (hG 8 n _ rfl).trans (hF 8 n _ rfl)) (fun j => (hG 27 0 j rfl).trans (hF 27 0 j rfl)) (fun j => (hG 39 0 j rfl).trans (hF 39 0 j rfl)), zRt_k Rt ((hG 18 0 3 rfl).trans (hF 18 0 3 rfl)) ((hG 25 0 16 rfl).trans (hF 25 0 16 rfl)) (fun i => (hG 19 0 i rfl).trans (hF 19 0 i rfl)) (fun i => (hG 36 0 i rfl).trans (hF 36 0 i rfl)), zRs_k Rs (fun s => (hG 23 s 1 rfl).trans (hF 23 s 1 rfl)) (fun s => (hG 23 s 2 rfl).trans (hF 23 s 2 rfl)) (fun s i => (hG 24 s i rfl).trans (hF 24 s i rfl)) (fun i => (hG 41 0 i rfl).trans (hF 41 0 i rfl)) (fun i => (hG 42 0 i rfl).trans (hF 42 0 i rfl)) (fun i => (hG 43 0 i rfl).trans (hF 43 0 i rfl))⟩)
theorem qc_23 (f : zM) (hI : zInv f) (hR : zRa f) (a : Nat → Int32) : zCall_23 f a (fun g => zInv g ∧ zRa g) := ZM.mono (w_X9_lands 10 f  hI) (fun r g h => by
  obtain ⟨⟨v, rfl, _⟩, hg, hF⟩ := h
  obtain ⟨Ri, Rc, Rd, Rt, Rs⟩ := hR
  refine ⟨v, rfl, ?_⟩
  refine ZM.mono (w_X10_lands 8 g  hg) (fun r2 g2 h2 => ?_)
  obtain ⟨⟨v2, rfl, _⟩, hg2, hG⟩ := h2
  exact ⟨⟨v2, rfl⟩, hg2, zRi_k Ri ((hG 0 0 5 rfl).trans (hF 0 0 5 rfl)) ((hG 25 0 22 rfl).trans (hF 25 0 22 rfl)), zRc_k Rc (fun n => (hG 1 n 6 rfl).trans (hF 1 n 6 rfl)) (fun n => (hG 1 n 8 rfl).trans (hF 1 n 8 rfl)) ((hG 25 0 2 rfl).trans (hF 25 0 2 rfl)) ((hG 25 0 6 rfl).trans (hF 25 0 6 rfl)) (fun j => (hG 39 0 j rfl).trans (hF 39 0 j rfl)), zRd_k Rd (fun n => (hG 1 n 6 rfl).trans (hF 1 n 6 rfl)) (fun n j hj => by rcases (show j = 0 ∨ j = 1 ∨ j = 2 ∨ j = 3 ∨ j = 4 by omega) with rfl | rfl | rfl | rfl | rfl <;> exact (hG 8 n _ rfl).trans (hF 8 n _ rfl)) (fun j => (hG 27 0 j rfl).trans (hF 27 0 j rfl)) (fun j => (hG 39 0 j rfl).trans (hF 39 0 j rfl)), zRt_k Rt ((hG 18 0 3 rfl).trans (hF 18 0 3 rfl)) ((hG 25 0 16 rfl).trans (hF 25 0 16 rfl)) (fun i => (hG 19 0 i rfl).trans (hF 19 0 i rfl)) (fun i => (hG 36 0 i rfl).trans (hF 36 0 i rfl)), zRs_k Rs (fun s => (hG 23 s 1 rfl).trans (hF 23 s 1 rfl)) (fun s => (hG 23 s 2 rfl).trans (hF 23 s 2 rfl)) (fun s i => (hG 24 s i rfl).trans (hF 24 s i rfl)) (fun i => (hG 41 0 i rfl).trans (hF 41 0 i rfl)) (fun i => (hG 42 0 i rfl).trans (hF 42 0 i rfl)) (fun i => (hG 43 0 i rfl).trans (hF 43 0 i rfl))⟩)
theorem qc_24 (f : zM) (hI : zInv f) (hR : zRa f) (a : Nat → Int32) : zCall_24 f a (fun g => zInv g ∧ zRa g) := ZM.mono (w_X9_safe 10 f ((a 1)) (zB_any _) hI) (fun r g h => by
  obtain ⟨⟨v, rfl, _⟩, hg, hF⟩ := h
  obtain ⟨Ri, Rc, Rd, Rt, Rs⟩ := hR
  refine ⟨v, rfl, ?_⟩
  refine ZM.mono (w_X10_safe 9 g ((a 1)) (zB_any _) hg) (fun r2 g2 h2 => ?_)
  obtain ⟨⟨v2, rfl, _⟩, hg2, hG⟩ := h2
  exact ⟨⟨v2, rfl⟩, hg2, zRi_k Ri ((hG 0 0 5 rfl).trans (hF 0 0 5 rfl)) ((hG 25 0 22 rfl).trans (hF 25 0 22 rfl)), zRc_k Rc (fun n => (hG 1 n 6 rfl).trans (hF 1 n 6 rfl)) (fun n => (hG 1 n 8 rfl).trans (hF 1 n 8 rfl)) ((hG 25 0 2 rfl).trans (hF 25 0 2 rfl)) ((hG 25 0 6 rfl).trans (hF 25 0 6 rfl)) (fun j => (hG 39 0 j rfl).trans (hF 39 0 j rfl)), zRd_k Rd (fun n => (hG 1 n 6 rfl).trans (hF 1 n 6 rfl)) (fun n j hj => by rcases (show j = 0 ∨ j = 1 ∨ j = 2 ∨ j = 3 ∨ j = 4 by omega) with rfl | rfl | rfl | rfl | rfl <;> exact (hG 8 n _ rfl).trans (hF 8 n _ rfl)) (fun j => (hG 27 0 j rfl).trans (hF 27 0 j rfl)) (fun j => (hG 39 0 j rfl).trans (hF 39 0 j rfl)), zRt_k Rt ((hG 18 0 3 rfl).trans (hF 18 0 3 rfl)) ((hG 25 0 16 rfl).trans (hF 25 0 16 rfl)) (fun i => (hG 19 0 i rfl).trans (hF 19 0 i rfl)) (fun i => (hG 36 0 i rfl).trans (hF 36 0 i rfl)), zRs_k Rs (fun s => (hG 23 s 1 rfl).trans (hF 23 s 1 rfl)) (fun s => (hG 23 s 2 rfl).trans (hF 23 s 2 rfl)) (fun s i => (hG 24 s i rfl).trans (hF 24 s i rfl)) (fun i => (hG 41 0 i rfl).trans (hF 41 0 i rfl)) (fun i => (hG 42 0 i rfl).trans (hF 42 0 i rfl)) (fun i => (hG 43 0 i rfl).trans (hF 43 0 i rfl))⟩)
theorem qc_25 (f : zM) (hI : zInv f) (hR : zRa f) (a : Nat → Int32) : zCall_25 f a (fun g => zInv g ∧ zRa g) := ZM.mono (x_X9_demand 13 f ((a 1)) (zB_any _) ((a 2)) (zB_any _) ((a 3)) (zB_any _) hI) (fun r g h => by
  obtain ⟨⟨v, rfl, _⟩, hg, hF, hP⟩ := h
  have hP := hP v rfl
  obtain ⟨Ri, Rc, Rd, Rt, Rs⟩ := hR
  refine ⟨v, rfl, ?_⟩
  refine ZM.mono (x_X10_demand 12 g ((a 1)) (zB_any _) ((a 2)) (zB_any _) ((a 3)) (zB_any _) hg) (fun r2 g2 h2 => ?_)
  obtain ⟨⟨v2, rfl, _⟩, hg2, hG, hQ⟩ := h2
  have hQ := hQ v2 rfl
  obtain ⟨hv, H1⟩ := qd_demand hI hg Ri Rc Rd Rt Rs hF hG hP hQ
  exact ⟨⟨_, rfl⟩, hg2, zRi_k Ri ((hG 0 0 5 rfl).trans (hF 0 0 5 rfl)) ((hG 25 0 22 rfl).trans (hF 25 0 22 rfl)), H1, zRd_k Rd (fun n => (hG 1 n 6 rfl).trans (hF 1 n 6 rfl)) (fun n j hj => by rcases (show j = 0 ∨ j = 1 ∨ j = 2 ∨ j = 3 ∨ j = 4 by omega) with rfl | rfl | rfl | rfl | rfl <;> exact (hG 8 n _ rfl).trans (hF 8 n _ rfl)) (fun j => (hG 27 0 j rfl).trans (hF 27 0 j rfl)) (fun j => (hG 39 0 j rfl).trans (hF 39 0 j rfl)), zRt_k Rt ((hG 18 0 3 rfl).trans (hF 18 0 3 rfl)) ((hG 25 0 16 rfl).trans (hF 25 0 16 rfl)) (fun i => (hG 19 0 i rfl).trans (hF 19 0 i rfl)) (fun i => (hG 36 0 i rfl).trans (hF 36 0 i rfl)), zRs_k Rs (fun s => (hG 23 s 1 rfl).trans (hF 23 s 1 rfl)) (fun s => (hG 23 s 2 rfl).trans (hF 23 s 2 rfl)) (fun s i => (hG 24 s i rfl).trans (hF 24 s i rfl)) (fun i => (hG 41 0 i rfl).trans (hF 41 0 i rfl)) (fun i => (hG 42 0 i rfl).trans (hF 42 0 i rfl)) (fun i => (hG 43 0 i rfl).trans (hF 43 0 i rfl))⟩)
theorem qc_26 (f : zM) (hI : zInv f) (hR : zRa f) (a : Nat → Int32) : zCall_26 f a (fun g => zInv g ∧ zRa g) := ZM.mono (w_X9_ahead 10 f ((a 1)) (zB_any _) hI) (fun r g h => by
  obtain ⟨⟨v, rfl, _⟩, hg, hF⟩ := h
  obtain ⟨Ri, Rc, Rd, Rt, Rs⟩ := hR
  refine ⟨v, rfl, ?_⟩
  refine ZM.mono (w_X10_ahead 5 g ((a 1)) (zB_any _) hg) (fun r2 g2 h2 => ?_)
  obtain ⟨⟨v2, rfl, _⟩, hg2, hG⟩ := h2
  exact ⟨⟨v2, rfl⟩, hg2, zRi_k Ri ((hG 0 0 5 rfl).trans (hF 0 0 5 rfl)) ((hG 25 0 22 rfl).trans (hF 25 0 22 rfl)), zRc_k Rc (fun n => (hG 1 n 6 rfl).trans (hF 1 n 6 rfl)) (fun n => (hG 1 n 8 rfl).trans (hF 1 n 8 rfl)) ((hG 25 0 2 rfl).trans (hF 25 0 2 rfl)) ((hG 25 0 6 rfl).trans (hF 25 0 6 rfl)) (fun j => (hG 39 0 j rfl).trans (hF 39 0 j rfl)), zRd_k Rd (fun n => (hG 1 n 6 rfl).trans (hF 1 n 6 rfl)) (fun n j hj => by rcases (show j = 0 ∨ j = 1 ∨ j = 2 ∨ j = 3 ∨ j = 4 by omega) with rfl | rfl | rfl | rfl | rfl <;> exact (hG 8 n _ rfl).trans (hF 8 n _ rfl)) (fun j => (hG 27 0 j rfl).trans (hF 27 0 j rfl)) (fun j => (hG 39 0 j rfl).trans (hF 39 0 j rfl)), zRt_k Rt ((hG 18 0 3 rfl).trans (hF 18 0 3 rfl)) ((hG 25 0 16 rfl).trans (hF 25 0 16 rfl)) (fun i => (hG 19 0 i rfl).trans (hF 19 0 i rfl)) (fun i => (hG 36 0 i rfl).trans (hF 36 0 i rfl)), zRs_k Rs (fun s => (hG 23 s 1 rfl).trans (hF 23 s 1 rfl)) (fun s => (hG 23 s 2 rfl).trans (hF 23 s 2 rfl)) (fun s i => (hG 24 s i rfl).trans (hF 24 s i rfl)) (fun i => (hG 41 0 i rfl).trans (hF 41 0 i rfl)) (fun i => (hG 42 0 i rfl).trans (hF 42 0 i rfl)) (fun i => (hG 43 0 i rfl).trans (hF 43 0 i rfl))⟩)
theorem qc_27 (f : zM) (hI : zInv f) (hR : zRa f) (a : Nat → Int32) : zCall_27 f a (fun g => zInv g ∧ zRa g) := ZM.mono (w_X9_promises 10 f ((a 1)) (zB_any _) ((a 2)) (zB_any _) hI) (fun r g h => by
  obtain ⟨⟨v, rfl, _⟩, hg, hF⟩ := h
  obtain ⟨Ri, Rc, Rd, Rt, Rs⟩ := hR
  refine ⟨v, rfl, ?_⟩
  refine ZM.mono (w_X10_promises 8 g ((a 1)) (zB_any _) ((a 2)) (zB_any _) hg) (fun r2 g2 h2 => ?_)
  obtain ⟨⟨v2, rfl, _⟩, hg2, hG⟩ := h2
  exact ⟨⟨v2, rfl⟩, hg2, zRi_k Ri ((hG 0 0 5 rfl).trans (hF 0 0 5 rfl)) ((hG 25 0 22 rfl).trans (hF 25 0 22 rfl)), zRc_k Rc (fun n => (hG 1 n 6 rfl).trans (hF 1 n 6 rfl)) (fun n => (hG 1 n 8 rfl).trans (hF 1 n 8 rfl)) ((hG 25 0 2 rfl).trans (hF 25 0 2 rfl)) ((hG 25 0 6 rfl).trans (hF 25 0 6 rfl)) (fun j => (hG 39 0 j rfl).trans (hF 39 0 j rfl)), zRd_k Rd (fun n => (hG 1 n 6 rfl).trans (hF 1 n 6 rfl)) (fun n j hj => by rcases (show j = 0 ∨ j = 1 ∨ j = 2 ∨ j = 3 ∨ j = 4 by omega) with rfl | rfl | rfl | rfl | rfl <;> exact (hG 8 n _ rfl).trans (hF 8 n _ rfl)) (fun j => (hG 27 0 j rfl).trans (hF 27 0 j rfl)) (fun j => (hG 39 0 j rfl).trans (hF 39 0 j rfl)), zRt_k Rt ((hG 18 0 3 rfl).trans (hF 18 0 3 rfl)) ((hG 25 0 16 rfl).trans (hF 25 0 16 rfl)) (fun i => (hG 19 0 i rfl).trans (hF 19 0 i rfl)) (fun i => (hG 36 0 i rfl).trans (hF 36 0 i rfl)), zRs_k Rs (fun s => (hG 23 s 1 rfl).trans (hF 23 s 1 rfl)) (fun s => (hG 23 s 2 rfl).trans (hF 23 s 2 rfl)) (fun s i => (hG 24 s i rfl).trans (hF 24 s i rfl)) (fun i => (hG 41 0 i rfl).trans (hF 41 0 i rfl)) (fun i => (hG 42 0 i rfl).trans (hF 42 0 i rfl)) (fun i => (hG 43 0 i rfl).trans (hF 43 0 i rfl))⟩)
theorem qc_28 (f : zM) (hI : zInv f) (hR : zRa f) (a : Nat → Int32) : zCall_28 f a (fun g => zInv g ∧ zRa g) := ZM.mono (w_X9_mended 10 f ((a 1)) (zB_any _) ((a 2)) (zB_any _) hI) (fun r g h => by
  obtain ⟨⟨v, rfl, _⟩, hg, hF⟩ := h
  obtain ⟨Ri, Rc, Rd, Rt, Rs⟩ := hR
  refine ⟨v, rfl, ?_⟩
  refine ZM.mono (w_X10_mended 9 g ((a 1)) (zB_any _) ((a 2)) (zB_any _) hg) (fun r2 g2 h2 => ?_)
  obtain ⟨⟨v2, rfl, _⟩, hg2, hG⟩ := h2
  exact ⟨⟨v2, rfl⟩, hg2, zRi_k Ri ((hG 0 0 5 rfl).trans (hF 0 0 5 rfl)) ((hG 25 0 22 rfl).trans (hF 25 0 22 rfl)), zRc_k Rc (fun n => (hG 1 n 6 rfl).trans (hF 1 n 6 rfl)) (fun n => (hG 1 n 8 rfl).trans (hF 1 n 8 rfl)) ((hG 25 0 2 rfl).trans (hF 25 0 2 rfl)) ((hG 25 0 6 rfl).trans (hF 25 0 6 rfl)) (fun j => (hG 39 0 j rfl).trans (hF 39 0 j rfl)), zRd_k Rd (fun n => (hG 1 n 6 rfl).trans (hF 1 n 6 rfl)) (fun n j hj => by rcases (show j = 0 ∨ j = 1 ∨ j = 2 ∨ j = 3 ∨ j = 4 by omega) with rfl | rfl | rfl | rfl | rfl <;> exact (hG 8 n _ rfl).trans (hF 8 n _ rfl)) (fun j => (hG 27 0 j rfl).trans (hF 27 0 j rfl)) (fun j => (hG 39 0 j rfl).trans (hF 39 0 j rfl)), zRt_k Rt ((hG 18 0 3 rfl).trans (hF 18 0 3 rfl)) ((hG 25 0 16 rfl).trans (hF 25 0 16 rfl)) (fun i => (hG 19 0 i rfl).trans (hF 19 0 i rfl)) (fun i => (hG 36 0 i rfl).trans (hF 36 0 i rfl)), zRs_k Rs (fun s => (hG 23 s 1 rfl).trans (hF 23 s 1 rfl)) (fun s => (hG 23 s 2 rfl).trans (hF 23 s 2 rfl)) (fun s i => (hG 24 s i rfl).trans (hF 24 s i rfl)) (fun i => (hG 41 0 i rfl).trans (hF 41 0 i rfl)) (fun i => (hG 42 0 i rfl).trans (hF 42 0 i rfl)) (fun i => (hG 43 0 i rfl).trans (hF 43 0 i rfl))⟩)
theorem qc_29 (f : zM) (hI : zInv f) (hR : zRa f) (a : Nat → Int32) : zCall_29 f a (fun g => zInv g ∧ zRa g) := ZM.mono (w_X9_part 12 f ((a 1)) (zB_any _) ((a 2)) (zB_any _) ((a 3)) (zB_any _) hI) (fun r g h => by
  obtain ⟨⟨v, rfl, _⟩, hg, hF⟩ := h
  obtain ⟨Ri, Rc, Rd, Rt, Rs⟩ := hR
  refine ⟨v, rfl, ?_⟩
  refine ZM.mono (w_X10_part 12 g ((a 1)) (zB_any _) ((a 2)) (zB_any _) ((a 3)) (zB_any _) hg) (fun r2 g2 h2 => ?_)
  obtain ⟨⟨v2, rfl, _⟩, hg2, hG⟩ := h2
  exact ⟨⟨v2, rfl⟩, hg2, zRi_k Ri ((hG 0 0 5 rfl).trans (hF 0 0 5 rfl)) ((hG 25 0 22 rfl).trans (hF 25 0 22 rfl)), zRc_k Rc (fun n => (hG 1 n 6 rfl).trans (hF 1 n 6 rfl)) (fun n => (hG 1 n 8 rfl).trans (hF 1 n 8 rfl)) ((hG 25 0 2 rfl).trans (hF 25 0 2 rfl)) ((hG 25 0 6 rfl).trans (hF 25 0 6 rfl)) (fun j => (hG 39 0 j rfl).trans (hF 39 0 j rfl)), zRd_k Rd (fun n => (hG 1 n 6 rfl).trans (hF 1 n 6 rfl)) (fun n j hj => by rcases (show j = 0 ∨ j = 1 ∨ j = 2 ∨ j = 3 ∨ j = 4 by omega) with rfl | rfl | rfl | rfl | rfl <;> exact (hG 8 n _ rfl).trans (hF 8 n _ rfl)) (fun j => (hG 27 0 j rfl).trans (hF 27 0 j rfl)) (fun j => (hG 39 0 j rfl).trans (hF 39 0 j rfl)), zRt_k Rt ((hG 18 0 3 rfl).trans (hF 18 0 3 rfl)) ((hG 25 0 16 rfl).trans (hF 25 0 16 rfl)) (fun i => (hG 19 0 i rfl).trans (hF 19 0 i rfl)) (fun i => (hG 36 0 i rfl).trans (hF 36 0 i rfl)), zRs_k Rs (fun s => (hG 23 s 1 rfl).trans (hF 23 s 1 rfl)) (fun s => (hG 23 s 2 rfl).trans (hF 23 s 2 rfl)) (fun s i => (hG 24 s i rfl).trans (hF 24 s i rfl)) (fun i => (hG 41 0 i rfl).trans (hF 41 0 i rfl)) (fun i => (hG 42 0 i rfl).trans (hF 42 0 i rfl)) (fun i => (hG 43 0 i rfl).trans (hF 43 0 i rfl))⟩)
theorem qc_30 (f : zM) (hI : zInv f) (hR : zRa f) (a : Nat → Int32) : zCall_30 f a (fun g => zInv g ∧ zRa g) := ZM.mono (x_X9_image 10 f hI) (fun r g h => by
  obtain ⟨⟨v, rfl, hb⟩, hg, hF, p0, p1, p2, p3, p4, p5, p6, p7, p8, p9, p10, p11, p12, p13, p14⟩ := h
  obtain ⟨Ri, Rc, Rd, Rt, Rs⟩ := hR
  refine ⟨v, rfl, ?_⟩
  refine ZM.mono (m_X10_image 13 g) (fun r2 g2 h2 => ?_)
  obtain ⟨rfl, rfl⟩ := h2
  have hZ : ∀ x y z, x ≠ 39 → x ≠ 40 → ¬ (x = 25 ∧ y = 0 ∧ z = 22) → ¬ (x = 25 ∧ y = 0 ∧ z = 24) → zim g x y z = g x y z := fun x y z h1 h2 h3 h4 => zim_o g h1 h2 h3 h4
  obtain ⟨H1, H2, H3⟩ := qd_image hI Ri Rc Rd hF (p0 v rfl) (p1 v rfl) (p2 v rfl) (p3 v rfl) (p4 v rfl) (p5 v rfl) (p6 v rfl) (p7 v rfl) (p8 v rfl) (p9 v rfl) (p10 v rfl) (p11 v rfl) (p12 v rfl) (p13 v rfl) (p14 v rfl)
  have hv : (1 : Int32) = v := (z32eq 1 v).mpr (by have c1 : (1 : Int32).toInt = 1 := by decide
                                                   omega)
  exact ⟨⟨_, rfl⟩, zim_inv hg, H1, H2, H3, zRt_k Rt ((hZ 18 0 3 (by decide) (by decide) (by omega) (by omega)).trans (hF 18 0 3 rfl)) ((hZ 25 0 16 (by decide) (by decide) (by omega) (by omega)).trans (hF 25 0 16 rfl)) (fun i => (hZ 19 0 i (by decide) (by decide) (by omega) (by omega)).trans (hF 19 0 i rfl)) (fun i => (hZ 36 0 i (by decide) (by decide) (by omega) (by omega)).trans (hF 36 0 i rfl)), zRs_k Rs (fun s => (hZ 23 s 1 (by decide) (by decide) (by omega) (by omega)).trans (hF 23 s 1 rfl)) (fun s => (hZ 23 s 2 (by decide) (by decide) (by omega) (by omega)).trans (hF 23 s 2 rfl)) (fun s i => (hZ 24 s i (by decide) (by decide) (by omega) (by omega)).trans (hF 24 s i rfl)) (fun i => (hZ 41 0 i (by decide) (by decide) (by omega) (by omega)).trans (hF 41 0 i rfl)) (fun i => (hZ 42 0 i (by decide) (by decide) (by omega) (by omega)).trans (hF 42 0 i rfl)) (fun i => (hZ 43 0 i (by decide) (by decide) (by omega) (by omega)).trans (hF 43 0 i rfl))⟩)
theorem qc_31 (f : zM) (hI : zInv f) (hR : zRa f) (a : Nat → Int32) : zCall_31 f a (fun g => zInv g ∧ zRa g) := ZM.mono (x_X9_restore 10 f hI) (fun r g h => by
  obtain ⟨⟨v, rfl, hb⟩, hg, hF, hP⟩ := h
  have hP := hP v rfl
  obtain ⟨Ri, Rc, Rd, Rt, Rs⟩ := id hR
  refine ⟨v, rfl, ?_⟩
  refine ZM.mono (m_X10_restore 13 g) (fun r2 g2 h2 => ?_)
  have e22 : g 25 0 22 = f 0 0 5 := (hF 25 0 22 rfl).trans Ri.symm
  rw [e22] at h2
  rcases hP with ⟨p1, hv, rfl⟩ | ⟨p1, hv, p2, p3, p4, p5, p6, p7, p8, p9, p10, p11, p12, p13, p14, p15⟩ <;> rcases h2 with ⟨q1, rfl, rfl⟩ | ⟨q1, rfl, rfl⟩
  · exact ⟨⟨_, rfl⟩, hg, hR⟩
  · exact absurd p1 q1
  · exact absurd q1 p1
  · obtain ⟨H1, H2, H3⟩ := qd_restore hI Ri Rc Rd hF p2 p3 p4 p5 p6 p7 p8 p9 p10 p11 p12 p13 p14 p15
    exact ⟨⟨_, rfl⟩, zre_inv hg, H1, H2, H3, zRt_k Rt ((zre_o g (x := 18) (y := 0) (z := 3) (by omega) (by decide) (by decide)).trans (hF 18 0 3 rfl)) ((zre_25 g (z := 16) (by decide)).trans (hF 25 0 16 rfl)) (fun i => (zre_o g (x := 19) (y := 0) (z := i) (by omega) (by decide) (by decide)).trans (hF 19 0 i rfl)) (fun i => (zre_o g (x := 36) (y := 0) (z := i) (by omega) (by decide) (by decide)).trans (hF 36 0 i rfl)), zRs_k Rs (fun s => (zre_o g (x := 23) (y := s) (z := 1) (by omega) (by decide) (by decide)).trans (hF 23 s 1 rfl)) (fun s => (zre_o g (x := 23) (y := s) (z := 2) (by omega) (by decide) (by decide)).trans (hF 23 s 2 rfl)) (fun s i => (zre_o g (x := 24) (y := s) (z := i) (by omega) (by decide) (by decide)).trans (hF 24 s i rfl)) (fun i => (zre_o g (x := 41) (y := 0) (z := i) (by omega) (by decide) (by decide)).trans (hF 41 0 i rfl)) (fun i => (zre_o g (x := 42) (y := 0) (z := i) (by omega) (by decide) (by decide)).trans (hF 42 0 i rfl)) (fun i => (zre_o g (x := 43) (y := 0) (z := i) (by omega) (by decide) (by decide)).trans (hF 43 0 i rfl))⟩)
theorem qc_32 (f : zM) (hI : zInv f) (hR : zRa f) (a : Nat → Int32) : zCall_32 f a (fun g => zInv g ∧ zRa g) := ZM.mono (m_X9_sheet 12 f (a 1) (a 2) (a 3)) (fun r g h => by
  obtain ⟨Ri, Rc, Rd, Rt, Rs⟩ := id hR
  rcases h with ⟨hg, h0, rfl, rfl⟩ | ⟨hg, h0, rfl, rfl⟩ | ⟨hg, rfl, rfl⟩
  · refine ⟨_, rfl, ?_⟩
    refine ZM.mono (m_X10_sheet 12 _ (a 1) (a 2) (a 3)) (fun r2 g2 h2 => ?_)
    rcases h2 with ⟨_, _, rfl, rfl⟩ | ⟨_, h1, _, _⟩ | ⟨h1, _, _⟩
    · refine ⟨⟨_, rfl⟩, ?_, zRi_k Ri ((show _ = _ from by rw [zfo_ne (by omega), zup_ne _ _ (by omega), zup_ne _ _ (by omega), zfill_ne (by omega), zup_ne _ _ (by omega), zup_ne _ _ (by omega)])) ((show _ = _ from by rw [zfo_ne (by omega), zup_ne _ _ (by omega), zup_ne _ _ (by omega), zfill_ne (by omega), zup_ne _ _ (by omega), zup_ne _ _ (by omega)])), zRc_k Rc (fun n => (show _ = _ from by rw [zfo_ne (by omega), zup_ne _ _ (by omega), zup_ne _ _ (by omega), zfill_ne (by omega), zup_ne _ _ (by omega), zup_ne _ _ (by omega)])) (fun n => (show _ = _ from by rw [zfo_ne (by omega), zup_ne _ _ (by omega), zup_ne _ _ (by omega), zfill_ne (by omega), zup_ne _ _ (by omega), zup_ne _ _ (by omega)])) ((show _ = _ from by rw [zfo_ne (by omega), zup_ne _ _ (by omega), zup_ne _ _ (by omega), zfill_ne (by omega), zup_ne _ _ (by omega), zup_ne _ _ (by omega)])) ((show _ = _ from by rw [zfo_ne (by omega), zup_ne _ _ (by omega), zup_ne _ _ (by omega), zfill_ne (by omega), zup_ne _ _ (by omega), zup_ne _ _ (by omega)])) (fun j => (show _ = _ from by rw [zfo_ne (by omega), zup_ne _ _ (by omega), zup_ne _ _ (by omega), zfill_ne (by omega), zup_ne _ _ (by omega), zup_ne _ _ (by omega)])), zRd_k Rd (fun n => (show _ = _ from by rw [zfo_ne (by omega), zup_ne _ _ (by omega), zup_ne _ _ (by omega), zfill_ne (by omega), zup_ne _ _ (by omega), zup_ne _ _ (by omega)])) (fun n j hj => by rcases (show j = 0 ∨ j = 1 ∨ j = 2 ∨ j = 3 ∨ j = 4 by omega) with rfl | rfl | rfl | rfl | rfl <;> exact (show _ = _ from by rw [zfo_ne (by omega), zup_ne _ _ (by omega), zup_ne _ _ (by omega), zfill_ne (by omega), zup_ne _ _ (by omega), zup_ne _ _ (by omega)])) (fun j => (show _ = _ from by rw [zfo_ne (by omega), zup_ne _ _ (by omega), zup_ne _ _ (by omega), zfill_ne (by omega), zup_ne _ _ (by omega), zup_ne _ _ (by omega)])) (fun j => (show _ = _ from by rw [zfo_ne (by omega), zup_ne _ _ (by omega), zup_ne _ _ (by omega), zfill_ne (by omega), zup_ne _ _ (by omega), zup_ne _ _ (by omega)])), zRt_k Rt ((show _ = _ from by rw [zfo_ne (by omega), zup_ne _ _ (by omega), zup_ne _ _ (by omega), zfill_ne (by omega), zup_ne _ _ (by omega), zup_ne _ _ (by omega)])) ((show _ = _ from by rw [zfo_ne (by omega), zup_ne _ _ (by omega), zup_ne _ _ (by omega), zfill_ne (by omega), zup_ne _ _ (by omega), zup_ne _ _ (by omega)])) (fun i => (show _ = _ from by rw [zfo_ne (by omega), zup_ne _ _ (by omega), zup_ne _ _ (by omega), zfill_ne (by omega), zup_ne _ _ (by omega), zup_ne _ _ (by omega)])) (fun i => (show _ = _ from by rw [zfo_ne (by omega), zup_ne _ _ (by omega), zup_ne _ _ (by omega), zfill_ne (by omega), zup_ne _ _ (by omega), zup_ne _ _ (by omega)])), qd_sheet Rs⟩
      refine zfo_an (k := 43) (v := 0) (zInv.up (k := 42) (zInv.up (k := 41) (zfill_an (k := 24) (v := 0) (zInv.up (k := 23) (j := 2) (zInv.up (k := 23) (j := 1) hI ?_) ?_) (fun j => (show (-2147483648 : Int) ≤ (0 : Int32).toInt ∧ (0 : Int32).toInt ≤ 2147483647 from by decide))) ?_) ?_) (fun j => (show (-2147483648 : Int) ≤ (0 : Int32).toInt ∧ (0 : Int32).toInt ≤ 2147483647 from by decide))
      · exact ⟨by show (-1 : Int) ≤ _; omega, by show _ ≤ (2 : Int); omega⟩
      · exact ⟨by show (0 : Int) ≤ _; omega, by show _ ≤ (16 : Int); omega⟩
      · exact ⟨by show (-1 : Int) ≤ _; omega, by show _ ≤ (2 : Int); omega⟩
      · exact ⟨by show (0 : Int) ≤ _; omega, by show _ ≤ (16 : Int); omega⟩
    · omega
    · exact absurd hg h1
  · refine ⟨_, rfl, ?_⟩
    refine ZM.mono (m_X10_sheet 12 _ (a 1) (a 2) (a 3)) (fun r2 g2 h2 => ?_)
    rcases h2 with ⟨_, h1, _, _⟩ | ⟨_, _, rfl, rfl⟩ | ⟨h1, _, _⟩
    · omega
    · exact ⟨⟨_, rfl⟩, hI, hR⟩
    · exact absurd hg h1
  · refine ⟨_, rfl, ?_⟩
    refine ZM.mono (m_X10_sheet 12 _ (a 1) (a 2) (a 3)) (fun r2 g2 h2 => ?_)
    rcases h2 with ⟨h1, _, _, _⟩ | ⟨h1, _, _, _⟩ | ⟨_, rfl, rfl⟩
    · exact absurd h1 hg
    · exact absurd h1 hg
    · exact ⟨⟨_, rfl⟩, hI, hR⟩)
theorem qc_33 (f : zM) (hI : zInv f) (hR : zRa f) (a : Nat → Int32) : zCall_33 f a (fun g => zInv g ∧ zRa g) := ZM.mono (m_X9_drop 13 f (a 1)) (fun r g h => by
  obtain ⟨Ri, Rc, Rd, Rt, Rs⟩ := id hR
  rcases h with ⟨hg, rfl, rfl⟩ | ⟨hg, hl, rfl, rfl⟩ | ⟨hg, hl, rfl, rfl⟩
  · refine ⟨_, rfl, ?_⟩
    refine ZM.mono (m_X10_drop 13 _ (a 1)) (fun r2 g2 h2 => ?_)
    rcases h2 with ⟨_, rfl, rfl⟩ | ⟨h1, _, _, _⟩ | ⟨h1, _, _, _⟩
    · exact ⟨⟨_, rfl⟩, hI, hR⟩
    · exact absurd h1 hg
    · exact absurd h1 hg
  · have hs4 : (a 1).toNatClampNeg < 4 := (zidx (n := 4) hg.1 (by have := hg.2; omega)).2
    have e1 := (Rs _ hs4).1
    refine ⟨_, rfl, ?_⟩
    refine ZM.mono (m_X10_drop 13 _ (a 1)) (fun r2 g2 h2 => ?_)
    rcases h2 with ⟨h1, _, _⟩ | ⟨_, h2, rfl, rfl⟩ | ⟨_, h2, _, _⟩
    · exact absurd hg h1
    · exact ⟨⟨_, rfl⟩, hI, hR⟩
    · rw [← e1, hl] at h2; exact absurd (by decide) h2
  · have hs4 : (a 1).toNatClampNeg < 4 := (zidx (n := 4) hg.1 (by have := hg.2; omega)).2
    obtain ⟨e1, e2, _⟩ := Rs _ hs4
    have q : zB (f 41 0 (a 1).toNatClampNeg) (-1) 2 := hI 41 0 _
    have hl2 : ¬ f 41 0 (a 1).toNatClampNeg < 0 := by
      rw [e1, z32eq] at hl
      rw [z32lt]
      have q1 := q.1
      have c1 : (-1 : Int32).toInt = -1 := by decide
      have c0 : (0 : Int32).toInt = 0 := by decide
      omega
    have k41 : zup f 23 (a 1).toNatClampNeg 1 (-1) 41 0 (a 1).toNatClampNeg = f 41 0 (a 1).toNatClampNeg := zup_ne f (-1) (by omega)
    have k42 : zup f 23 (a 1).toNatClampNeg 1 (-1) 42 0 (a 1).toNatClampNeg = f 42 0 (a 1).toNatClampNeg := zup_ne f (-1) (by omega)
    refine ⟨_, rfl, ?_⟩
    refine ZM.mono (m_X10_drop 13 _ (a 1)) (fun r2 g2 h2 => ?_)
    rcases h2 with ⟨h1, _, _⟩ | ⟨_, h2, _, _⟩ | ⟨_, _, rfl, rfl⟩
    · exact absurd hg h1
    · rw [k41] at h2; exact absurd h2 hl2
    · refine ⟨⟨_, rfl⟩, ?_, zRi_k Ri ((show _ = _ from by rw [zup_ne _ _ (by omega), zup_ne _ _ (by omega)])) ((show _ = _ from by rw [zup_ne _ _ (by omega), zup_ne _ _ (by omega)])), zRc_k Rc (fun n => (show _ = _ from by rw [zup_ne _ _ (by omega), zup_ne _ _ (by omega)])) (fun n => (show _ = _ from by rw [zup_ne _ _ (by omega), zup_ne _ _ (by omega)])) ((show _ = _ from by rw [zup_ne _ _ (by omega), zup_ne _ _ (by omega)])) ((show _ = _ from by rw [zup_ne _ _ (by omega), zup_ne _ _ (by omega)])) (fun j => (show _ = _ from by rw [zup_ne _ _ (by omega), zup_ne _ _ (by omega)])), zRd_k Rd (fun n => (show _ = _ from by rw [zup_ne _ _ (by omega), zup_ne _ _ (by omega)])) (fun n j hj => by rcases (show j = 0 ∨ j = 1 ∨ j = 2 ∨ j = 3 ∨ j = 4 by omega) with rfl | rfl | rfl | rfl | rfl <;> rw [zup_ne _ _ (by omega), zup_ne _ _ (by omega)]) (fun j => (show _ = _ from by rw [zup_ne _ _ (by omega), zup_ne _ _ (by omega)])) (fun j => (show _ = _ from by rw [zup_ne _ _ (by omega), zup_ne _ _ (by omega)])), zRt_k Rt ((show _ = _ from by rw [zup_ne _ _ (by omega), zup_ne _ _ (by omega)])) ((show _ = _ from by rw [zup_ne _ _ (by omega), zup_ne _ _ (by omega)])) (fun i => (show _ = _ from by rw [zup_ne _ _ (by omega), zup_ne _ _ (by omega)])) (fun i => (show _ = _ from by rw [zup_ne _ _ (by omega), zup_ne _ _ (by omega)])), qd_drop Rs⟩
      exact zInv.up (k := 41) (n := 0) (zInv.up (k := 23) (j := 1) hI (show (-1 : Int) ≤ (-1 : Int32).toInt ∧ (-1 : Int32).toInt ≤ 2 from by decide)) (show (-1 : Int) ≤ (-1 : Int32).toInt ∧ (-1 : Int32).toInt ≤ 2 from by decide))
theorem qc_34 (f : zM) (hI : zInv f) (hR : zRa f) (a : Nat → Int32) : zCall_34 f a (fun g => zInv g ∧ zRa g) := ZM.mono (x_X9_item 13 f ((a 1)) (zB_any _) ((a 2)) (zB_any _) ((a 3)) (zB_any _) ((a 4)) (zB_any _) hI) (fun r g h => by
  obtain ⟨⟨v, rfl, _⟩, hg, hF, hP⟩ := h
  have hP := hP v rfl
  obtain ⟨Ri, Rc, Rd, Rt, Rs⟩ := hR
  refine ⟨v, rfl, ?_⟩
  refine ZM.mono (x_X10_item 12 g ((a 1)) (zB_any _) ((a 2)) (zB_any _) ((a 3)) (zB_any _) ((a 4)) (zB_any _) hg) (fun r2 g2 h2 => ?_)
  obtain ⟨⟨v2, rfl, _⟩, hg2, hG, hQ⟩ := h2
  have hQ := hQ v2 rfl
  obtain ⟨hv, H1⟩ := qd_item hI hg Ri Rc Rd Rt Rs hF hG hP hQ
  exact ⟨⟨_, rfl⟩, hg2, zRi_k Ri ((hG 0 0 5 rfl).trans (hF 0 0 5 rfl)) ((hG 25 0 22 rfl).trans (hF 25 0 22 rfl)), zRc_k Rc (fun n => (hG 1 n 6 rfl).trans (hF 1 n 6 rfl)) (fun n => (hG 1 n 8 rfl).trans (hF 1 n 8 rfl)) ((hG 25 0 2 rfl).trans (hF 25 0 2 rfl)) ((hG 25 0 6 rfl).trans (hF 25 0 6 rfl)) (fun j => (hG 39 0 j rfl).trans (hF 39 0 j rfl)), zRd_k Rd (fun n => (hG 1 n 6 rfl).trans (hF 1 n 6 rfl)) (fun n j hj => by rcases (show j = 0 ∨ j = 1 ∨ j = 2 ∨ j = 3 ∨ j = 4 by omega) with rfl | rfl | rfl | rfl | rfl <;> exact (hG 8 n _ rfl).trans (hF 8 n _ rfl)) (fun j => (hG 27 0 j rfl).trans (hF 27 0 j rfl)) (fun j => (hG 39 0 j rfl).trans (hF 39 0 j rfl)), zRt_k Rt ((hG 18 0 3 rfl).trans (hF 18 0 3 rfl)) ((hG 25 0 16 rfl).trans (hF 25 0 16 rfl)) (fun i => (hG 19 0 i rfl).trans (hF 19 0 i rfl)) (fun i => (hG 36 0 i rfl).trans (hF 36 0 i rfl)), H1⟩)
theorem qc_all (f : zM) (hI : zInv f ∧ zRa f) (a : Nat → Int32) : ∀ k, k < 35 → zCall k f a (fun g => zInv g ∧ zRa g)
  | 0, _ => qc_0 f hI.1 hI.2 a
  | 1, _ => qc_1 f hI.1 hI.2 a
  | 2, _ => qc_2 f hI.1 hI.2 a
  | 3, _ => qc_3 f hI.1 hI.2 a
  | 4, _ => qc_4 f hI.1 hI.2 a
  | 5, _ => qc_5 f hI.1 hI.2 a
  | 6, _ => qc_6 f hI.1 hI.2 a
  | 7, _ => qc_7 f hI.1 hI.2 a
  | 8, _ => qc_8 f hI.1 hI.2 a
  | 9, _ => qc_9 f hI.1 hI.2 a
  | 10, _ => qc_10 f hI.1 hI.2 a
  | 11, _ => qc_11 f hI.1 hI.2 a
  | 12, _ => qc_12 f hI.1 hI.2 a
  | 13, _ => qc_13 f hI.1 hI.2 a
  | 14, _ => qc_14 f hI.1 hI.2 a
  | 15, _ => qc_15 f hI.1 hI.2 a
  | 16, _ => qc_16 f hI.1 hI.2 a
  | 17, _ => qc_17 f hI.1 hI.2 a
  | 18, _ => qc_18 f hI.1 hI.2 a
  | 19, _ => qc_19 f hI.1 hI.2 a
  | 20, _ => qc_20 f hI.1 hI.2 a
  | 21, _ => qc_21 f hI.1 hI.2 a
  | 22, _ => qc_22 f hI.1 hI.2 a
  | 23, _ => qc_23 f hI.1 hI.2 a
  | 24, _ => qc_24 f hI.1 hI.2 a
  | 25, _ => qc_25 f hI.1 hI.2 a
  | 26, _ => qc_26 f hI.1 hI.2 a
  | 27, _ => qc_27 f hI.1 hI.2 a
  | 28, _ => qc_28 f hI.1 hI.2 a
  | 29, _ => qc_29 f hI.1 hI.2 a
  | 30, _ => qc_30 f hI.1 hI.2 a
  | 31, _ => qc_31 f hI.1 hI.2 a
  | 32, _ => qc_32 f hI.1 hI.2 a
  | 33, _ => qc_33 f hI.1 hI.2 a
  | 34, _ => qc_34 f hI.1 hI.2 a
  | k + 35, h => absurd h (by omega)
