/-! ===== the reference's search: what is seen is queued once ===== -/
def zcn (b : Nat → Int32) : Nat → Nat
  | 0 => 0
  | n + 1 => zcn b n + (if b n = -4 then 0 else 1)
theorem zcn_le (b : Nat → Int32) : ∀ n, zcn b n ≤ n
  | 0 => Nat.le_refl 0
  | n + 1 => by
    have := zcn_le b n
    unfold zcn
    split <;> omega
theorem zcn_lt (b : Nat → Int32) {s : Nat} (hb : b s = -4) : ∀ n, s < n → zcn b n < n
  | 0, h => absurd h (Nat.not_lt_zero s)
  | n + 1, h => by
    have h1 := zcn_le b n
    unfold zcn
    by_cases hs : s = n
    · subst hs; rw [if_pos hb]; omega
    · have := zcn_lt b hb n (by omega)
      split <;> omega
theorem zcn_congr {b c : Nat → Int32} : ∀ n, (∀ i, i < n → b i = c i) → zcn b n = zcn c n
  | 0, _ => rfl
  | n + 1, h => by
    unfold zcn
    rw [zcn_congr n (fun i hi => h i (by omega)), h n (by omega)]
theorem zcn_up {b c : Nat → Int32} {s : Nat} (hb : b s = -4) (hc : ¬ c s = -4) (ho : ∀ i, i ≠ s → c i = b i) : ∀ n, s < n → zcn c n = zcn b n + 1
  | 0, h => absurd h (Nat.not_lt_zero s)
  | n + 1, h => by
    unfold zcn
    by_cases hs : s = n
    · subst hs
      rw [if_pos hb, if_neg hc, zcn_congr s (fun i hi => ho i (by omega))]
    · rw [zcn_up hb hc ho n (by omega), ho n (by omega)]
      omega
theorem zcn_0 {b : Nat → Int32} : ∀ n, (∀ i, i < n → b i = -4) → zcn b n = 0
  | 0, _ => rfl
  | n + 1, h => by
    unfold zcn
    rw [zcn_0 n (fun i hi => h i (by omega)), if_pos (h n (by omega))]
