theorem zfin_sp {α : Type} {T : Nat → Int32} {n q q' : Nat} (a : α) (h : zsp T n q = zsp T n q') : zfin T n (.inr (a, q)) = zfin T n (.inr (a, q')) := by
  unfold zfin; simp only [zbd, h]
theorem zfin_bad {α : Type} {T : Nat → Int32} {n q : Nat} (a : α) (h1 : ¬ zch T n (zsp T n q) = 59) (h2 : ¬ zch T n (zsp T n q) = -1) : zfin T n (.inr (a, q)) = .inl (zsp T n q) := by
  unfold zfin; simp only [zbd]; rw [if_neg (fun h => h.elim h1 h2)]
theorem zfin_map {α β : Type} (T : Nat → Int32) (n : Nat) (g : α → β) (x : zR α) : zfin T n (zbd x (fun c q => .inr (g c, q))) = zbd (zfin T n x) (fun c q => .inr (g c, q)) := by
  rcases x with e | ⟨a, q⟩
  · rfl
  · unfold zfin
    simp only [zbd]
    by_cases h : zch T n (zsp T n q) = 59 ∨ zch T n (zsp T n q) = -1
    · rw [if_pos h, if_pos h]
    · rw [if_neg h, if_neg h]
theorem zpp_ne {c : Int32} (h : ¬ zpp c = 0) : ¬ c = 59 ∧ ¬ c = -1 := by
  refine ⟨fun q => h (by rw [q]; decide), fun q => h (by rw [q]; decide)⟩
theorem zpb_ne {c : Int32} (h : 0 < (zpb c).toInt) : ¬ c = 59 ∧ ¬ c = -1 ∧ ¬ c = 116 ∧ ¬ c = 43 := by
  refine ⟨fun q => ?_, fun q => ?_, fun q => ?_, fun q => ?_⟩ <;> (rw [q] at h; exact absurd h (by decide))
theorem zPb_eq (T : Nat → Int32) (n : Nat) (kd fr to nn bars : Int32) {p q : Nat} (h : zsp T n p = zsp T n q) : zfin T n (zPb (zprC T n) T n kd fr to nn bars p) = zfin T n (zPb (zprR T n) T n kd fr to nn bars q) := by
  unfold zPb
  rw [h]
  generalize (if zch T n (zsp T n q) = 116 then znu T n 1 99 (zsp T n q + 1) else .inr (0, zsp T n q) : zR Int32) = X
  rcases X with e | ⟨age, p4⟩
  · first | (simp only [zbd]; done) | rfl
  · simp only [zbd]
    by_cases h2 : zch T n (zsp T n p4) = 43
    · rw [if_pos h2, if_pos h2]
      rcases zpr_CR T n (zsp T n p4 + 1) with ⟨e, g1, g2⟩ | ⟨m, r, g1, g2⟩ | ⟨m, r, g1, g2, g3⟩
      · rw [g1, g2]
      · rw [g1, g2]; exact zfin_sp _ (by rw [zsp_idem])
      · rw [g1, g2]
        have := zpp_ne g3
        exact (zfin_bad (q := zsp T n r) _ (by rw [zsp_idem]; exact this.1) (by rw [zsp_idem]; exact this.2)).symm ▸ (by rw [zsp_idem]; rfl)
    · rw [if_neg h2, if_neg h2]
theorem zPb_bar (T : Nat → Int32) (n : Nat) (kd fr to nn bars : Int32) {q : Nat} (h : 0 < (zpb (zch T n (zsp T n q))).toInt) : zfin T n (zPb (zprC T n) T n kd fr to nn bars q) = .inl (zsp T n q) := by
  obtain ⟨h1, h2, h3, h4⟩ := zpb_ne h
  unfold zPb
  rw [if_neg h3]
  simp only [zbd, zsp_idem]
  rw [if_neg h4]
  simp only
  rw [zfin_bad _ (by rw [zsp_idem]; exact h1) (by rw [zsp_idem]; exact h2), zsp_idem]
theorem zkn_eq (T : Nat → Int32) (n p1 : Nat) : (if zch T n (zsp T n p1) = 121 then zbd (znu T n 1 40 (zsp T n p1 + 1)) (fun v q => .inr ((0, v), q)) else zbd (znd T n 42 (zsp T n p1)) (fun _ q => .inr ((2, 1), q)) : zR (Int32 × Int32)) = (if zch T n (zsp T n p1) = 42 then .inr ((2, 1), zsp T n p1 + 1) else if zch T n (zsp T n (zsp T n p1)) = 121 then zbd (znu T n 1 40 (zsp T n (zsp T n p1) + 1)) (fun v q => .inr ((0, v), q)) else .inl (zsp T n (zsp T n p1)) : zR (Int32 × Int32)) := by
  rw [zsp_idem]
  by_cases h1 : zch T n (zsp T n p1) = 42
  · rw [if_pos h1, if_neg (by rw [h1]; decide)]
    unfold znd
    rw [zsp_idem, if_pos h1]
    rfl
  · rw [if_neg h1]
    by_cases h2 : zch T n (zsp T n p1) = 121
    · rw [if_pos h2, if_pos h2]
    · rw [if_neg h2, if_neg h2]
      unfold znd
      rw [zsp_idem, if_neg h1]
      rfl
theorem zpa_eq (T : Nat → Int32) (n : Nat) (land : Int32) (p : Nat) : zfin T n (zpaC T n land p) = zfin T n (zpaR T n land p) := by
  unfold zpaC zpaR zPa zPaR
  generalize zld T n land p = X
  rcases X with e | ⟨to, p1⟩
  · first | (simp only [zbd]; done) | rfl
  · simp only [zbd] at *
    have hk := zkn_eq T n p1
    simp only [zbd] at hk
    rw [hk]
    generalize (if zch T n (zsp T n p1) = 42 then _ else _ : zR (Int32 × Int32)) = Y
    rcases Y with e | ⟨kn, p2⟩
    · first | (simp only [zbd]; done) | rfl
    · simp only
      rcases zbr_CR T n p2 with ⟨e, g1, g2⟩ | ⟨m, r, g1, g2⟩ | ⟨m, r, g1, g2, g3⟩
      · rw [g1, g2]
      · rw [g1, g2]; exact zPb_eq T n _ _ _ _ _ (by rw [zsp_idem])
      · rw [g1, g2]; exact zPb_bar T n _ _ _ _ _ g3
theorem zcl_eq (T : Nat → Int32) (n p : Nat) : zfin T n (zclC T n p) = zfin T n (zclR T n p) := by
  unfold zclC zclR zCl
  generalize zld T n (-4) p = X
  rcases X with e | ⟨land, p1⟩
  · first | (simp only [zbd]; done) | rfl
  · show zfin T n (if zch T n (zsp T n p1) = 58 then _ else _) = zfin T n (if zch T n (zsp T n p1) = 58 then _ else _)
    by_cases h1 : zch T n (zsp T n p1) = 58
    · rw [if_pos h1, if_pos h1, zCr_eq]
    · rw [if_neg h1, if_neg h1]
      by_cases h2 : zch T n (zsp T n (zsp T n p1)) = 62
      · rw [if_pos h2, if_pos h2, zfin_map, zfin_map, zpa_eq]
      · rw [if_neg h2, if_neg h2]
theorem zwd_eq (T : Nat → Int32) (n : Nat) : ∀ k p, zwd (zclC T n) T n k p = zwd (zclR T n) T n k p
  | 0, p => rfl
  | k + 1, p => by
    unfold zwd
    rw [zcl_eq]
    generalize zfin T n (zclR T n p) = X
    rcases X with e | ⟨a, q⟩
    · rfl
    · simp only
      rw [zwd_eq T n k (q + 1)]
