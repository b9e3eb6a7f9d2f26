/-! ===== the reading of a tape, purely ===== -/
abbrev zR (α : Type) : Type := Nat ⊕ (α × Nat)
def zbd {α β : Type} (x : zR α) (k : α → Nat → zR β) : zR β := match x with
  | .inl e => .inl e
  | .inr q => k q.1 q.2
theorem zsk_congr {T U : Nat → Int32} {n : Nat} (h : ∀ i, i < n → U i = T i) : ∀ m p, zsk U n m p = zsk T n m p
  | 0, p => rfl
  | m + 1, p => by
    unfold zsk
    by_cases q : p < n
    · rw [h p q, zsk_congr h m (p + 1)]
    · rw [if_neg (fun x => q x.1), if_neg (fun x => q x.1)]
theorem zsp_congr {T U : Nat → Int32} {n : Nat} (h : ∀ i, i < n → U i = T i) (p : Nat) : zsp U n p = zsp T n p := zsk_congr h _ p
theorem zsp_len {T : Nat → Int32} {n p : Nat} (h : p ≤ n) : zsp T n p ≤ n := by
  have := zsp_le T n p
  omega
theorem zsp_idem (T : Nat → Int32) (n p : Nat) : zsp T n (zsp T n p) = zsp T n p := by
  by_cases h : zsp T n p < n
  · exact zsp_fix T n _ h (zsp_nb T n p h)
  · exact (zsk_le T n (n - zsp T n p) (zsp T n p)).2.2 (by omega)
/-- the byte at a place, -1 at the end -/
def zch (T : Nat → Int32) (n p : Nat) : Int32 := if p < n then T p else -1
theorem zch_lt {T : Nat → Int32} {n p : Nat} (h : ¬ zch T n p = -1) : p < n := by
  unfold zch at h
  split at h
  · assumption
  · exact absurd rfl h
def znd (T : Nat → Int32) (n : Nat) (c : Int32) (p : Nat) : zR Unit := if zch T n (zsp T n p) = c then .inr ((), zsp T n p + 1) else .inl (zsp T n p)
def zld (T : Nat → Int32) (n : Nat) (no : Int32) (p : Nat) : zR Int32 := if (0 ≤ (zch T n (zsp T n p) - 65).toInt ∧ (zch T n (zsp T n p) - 65).toInt ≤ 5) ∧ ¬ zch T n (zsp T n p) - 65 = no then .inr (zch T n (zsp T n p) - 65, zsp T n p + 1) else .inl (zsp T n p)
def zdk (T : Nat → Int32) (n : Nat) : Nat → Nat → Nat
  | 0, p => p
  | m + 1, p => if p < n ∧ 48 ≤ (T p).toInt ∧ (T p).toInt ≤ 57 then zdk T n m (p + 1) else p
def zdv (T : Nat → Int32) (n : Nat) : Nat → Nat → Int → Int
  | 0, _, a => a
  | m + 1, p, a => if p < n ∧ 48 ≤ (T p).toInt ∧ (T p).toInt ≤ 57 then zdv T n m (p + 1) (min (10 * a + ((T p).toInt - 48)) 1000) else a
theorem zdk_stop {T : Nat → Int32} {n p : Nat} (h : ¬ (p < n ∧ 48 ≤ (T p).toInt ∧ (T p).toInt ≤ 57)) : ∀ m, zdk T n m p = p
  | 0 => rfl
  | m + 1 => by unfold zdk; rw [if_neg h]
theorem zdv_stop {T : Nat → Int32} {n p : Nat} {a : Int} (h : ¬ (p < n ∧ 48 ≤ (T p).toInt ∧ (T p).toInt ≤ 57)) : ∀ m, zdv T n m p a = a
  | 0 => rfl
  | m + 1 => by unfold zdv; rw [if_neg h]
theorem zdk_step {T : Nat → Int32} {n p : Nat} (h : p < n ∧ 48 ≤ (T p).toInt ∧ (T p).toInt ≤ 57) : zdk T n (n - p) p = zdk T n (n - (p + 1)) (p + 1) := by
  rw [show n - p = n - (p + 1) + 1 by omega, zdk, if_pos h]
theorem zdv_step {T : Nat → Int32} {n p : Nat} {a : Int} (h : p < n ∧ 48 ≤ (T p).toInt ∧ (T p).toInt ≤ 57) : zdv T n (n - p) p a = zdv T n (n - (p + 1)) (p + 1) (min (10 * a + ((T p).toInt - 48)) 1000) := by
  rw [show n - p = n - (p + 1) + 1 by omega, zdv, if_pos h]
def znu (T : Nat → Int32) (n : Nat) (lo hi : Int) (p : Nat) : zR Int32 := if zdk T n (n - zsp T n p) (zsp T n p) = zsp T n p ∨ zdv T n (n - zsp T n p) (zsp T n p) 0 < lo ∨ hi < zdv T n (n - zsp T n p) (zsp T n p) 0 then .inl (zsp T n p) else .inr (Int32.ofInt (zdv T n (n - zsp T n p) (zsp T n p) 0), zdk T n (n - zsp T n p) (zsp T n p))
/-- marks, as the class reads them (k: how many more) -/
def zcm (T : Nat → Int32) (n : Nat) (no : Int32) : Nat → Nat → Int32 → zR Int32
  | 0, p, m => if m = 0 then .inl p else .inr (m, p)
  | k + 1, p, m => if 0 ≤ (zch T n (zsp T n p) - 97).toInt ∧ (zch T n (zsp T n p) - 97).toInt ≤ 5 then (if (1 <<< ((zch T n (zsp T n p) - 97) &&& 31) : Int32).toInt ≤ m.toInt ∨ ¬ (1 <<< ((zch T n (zsp T n p) - 97) &&& 31) : Int32) &&& no = 0 then .inl (zsp T n p) else zcm T n no k (zsp T n p + 1) (m ||| 1 <<< ((zch T n (zsp T n p) - 97) &&& 31))) else if m = 0 then .inl (zsp T n p) else .inr (m, zsp T n p)
/-- marks, as the reference reads them -/
def zrm (T : Nat → Int32) (n : Nat) (no : Int32) : Nat → Nat → Int32 → Int32 → zR Int32
  | 0, p, _, _ => .inl p
  | k + 1, p, m, l => if 0 ≤ (zch T n (zsp T n p) - 97).toInt ∧ (zch T n (zsp T n p) - 97).toInt ≤ 5 then (if (zch T n (zsp T n p) - 97).toInt ≤ l.toInt ∨ no >>> ((zch T n (zsp T n p) - 97) &&& 31) &&& 1 = 1 then .inl (zsp T n p) else zrm T n no k (zsp T n p + 1) (m ||| 1 <<< ((zch T n (zsp T n p) - 97) &&& 31)) (zch T n (zsp T n p) - 97)) else if m = 0 then .inl (zsp T n p) else .inr (m, zsp T n p)
/-- the place of a byte in the text of bars (0), of promises (1); -1: it is not in it -/
def zix (i : Nat) (c : Int32) : Int32 := if i = 0 then (if c = 111 then 0 else if c = 106 then 1 else if c = 112 then 2 else if c = 107 then 3 else if c = 104 then 4 else -1) else (if c = 68 then 0 else if c = 83 then 1 else if c = 79 then 2 else -1)
/-- letters, as the class reads them -/
def zcl (T : Nat → Int32) (n i : Nat) (ri : Int32) : Nat → Nat → Int32 → zR Int32
  | 0, p, b => .inr (b, p)
  | k + 1, p, b => if (zix i (zch T n (zsp T n p))).toInt < 0 then .inr (b, zsp T n p) else if ¬ b &&& (1 <<< (zix i (zch T n (zsp T n p)) &&& 31)) = 0 ∨ (¬ ri = 0 ∧ (1 <<< (zix i (zch T n (zsp T n p)) &&& 31) : Int32).toInt < b.toInt) then .inl (zsp T n p) else zcl T n i ri k (zsp T n p + 1) (b ||| 1 <<< (zix i (zch T n (zsp T n p)) &&& 31))
def zpb (c : Int32) : Int32 := if c = 111 then 1 else if c = 106 then 2 else if c = 112 then 4 else if c = 107 then 8 else if c = 104 then 16 else 0
def zpp (c : Int32) : Int32 := if c = 68 then 1 else if c = 83 then 2 else if c = 79 then 4 else 0
/-- bars, promises, as the reference reads them -/
def zrb (T : Nat → Int32) (n : Nat) : Nat → Nat → Int32 → zR Int32
  | 0, p, _ => .inl p
  | k + 1, p, b => if (zpb (zch T n (zsp T n p))).toInt ≤ 0 then .inr (b, zsp T n p) else if ¬ b &&& zpb (zch T n (zsp T n p)) = 0 then .inl (zsp T n p) else zrb T n k (zsp T n p + 1) (b ||| zpb (zch T n (zsp T n p)))
def zrp (T : Nat → Int32) (n : Nat) : Nat → Nat → Int32 → zR Int32
  | 0, p, _ => .inl p
  | k + 1, p, b => if (zpp (zch T n (zsp T n p))).toInt ≤ b.toInt then (if b = 0 then .inl (zsp T n p) else .inr (b, zsp T n p)) else zrp T n k (zsp T n p + 1) (b ||| zpp (zch T n (zsp T n p)))
/-- what a row of six, of eight holds -/
def zc6 (a b c d e g : Int32) : Nat → Int32
  | 0 => a
  | 1 => b
  | 2 => c
  | 3 => d
  | 4 => e
  | _ => g
def zc8 (a b c d e g h i : Int32) : Nat → Int32
  | 0 => a
  | 1 => b
  | 2 => c
  | 3 => d
  | 4 => e
  | 5 => g
  | 6 => h
  | _ => i
/-- a CRIME behind its sign, with marks read so -/
def zCr (mk : Int32 → Nat → zR Int32) (T : Nat → Int32) (n : Nat) (land : Int32) (p : Nat) : zR (Nat → Int32) :=
  zbd (mk 0 p) fun must p1 =>
  zbd (if zch T n (zsp T n p1) = 45 then mk must (zsp T n p1 + 1) else .inr (0, zsp T n p1)) fun but p2 =>
  zbd (znu T n 0 40 p2) fun least p3 =>
  zbd (znd T n 46 p3) fun _ p4 =>
  zbd (znd T n 46 p4) fun _ p5 =>
  zbd (znu T n (max 1 least.toInt) 40 p5) fun most p6 =>
  if zch T n (zsp T n p6) = 33 then .inr (zc6 land must but least most 1, zsp T n p6 + 1) else .inr (zc6 land must but least most 0, zsp T n p6)
/-- the rest of a paper, behind its bars -/
def zPb (pr : Nat → zR Int32) (T : Nat → Int32) (n : Nat) (kd fr to nn bars : Int32) (p3 : Nat) : zR (Nat → Int32) :=
  zbd (if zch T n (zsp T n p3) = 116 then znu T n 1 99 (zsp T n p3 + 1) else .inr (0, zsp T n p3)) fun age p4 =>
  zbd (if zch T n (zsp T n p4) = 43 then pr (zsp T n p4 + 1) else .inr (0, zsp T n p4)) fun prm p5 =>
  .inr (zc8 kd fr to nn 0 bars age prm, p5)
/-- a paper behind its sign, as the class reads it -/
def zPa (br pr : Nat → zR Int32) (T : Nat → Int32) (n : Nat) (land : Int32) (p : Nat) : zR (Nat → Int32) :=
  zbd (zld T n land p) fun to p1 =>
  zbd (if zch T n (zsp T n p1) = 121 then zbd (znu T n 1 40 (zsp T n p1 + 1)) (fun v q => .inr ((0, v), q)) else zbd (znd T n 42 (zsp T n p1)) (fun _ q => .inr ((2, 1), q)) : zR (Int32 × Int32)) fun kn p2 =>
  zbd (br p2) fun bars p3 => zPb pr T n kn.1 land to kn.2 bars p3
/-- as the reference reads it -/
def zPaR (br pr : Nat → zR Int32) (T : Nat → Int32) (n : Nat) (land : Int32) (p : Nat) : zR (Nat → Int32) :=
  zbd (zld T n land p) fun to p1 =>
  zbd (if zch T n (zsp T n p1) = 42 then .inr ((2, 1), zsp T n p1 + 1) else if zch T n (zsp T n (zsp T n p1)) = 121 then zbd (znu T n 1 40 (zsp T n (zsp T n p1) + 1)) (fun v q => .inr ((0, v), q)) else .inl (zsp T n (zsp T n p1)) : zR (Int32 × Int32)) fun kn p2 =>
  zbd (br p2) fun bars p3 => zPb pr T n kn.1 land to kn.2 bars p3
/-- a CLAUSE -/
def zCl (mk : Int32 → Nat → zR Int32) (pa : Int32 → Nat → zR (Nat → Int32)) (T : Nat → Int32) (n p : Nat) : zR (Bool × (Nat → Int32)) :=
  zbd (zld T n (-4) p) fun land p1 =>
  if zch T n (zsp T n p1) = 58 then zbd (zCr mk T n land (zsp T n p1 + 1)) (fun c q => .inr ((false, c), q))
  else if zch T n (zsp T n (zsp T n p1)) = 62 then zbd (pa land (zsp T n (zsp T n p1) + 1)) (fun c q => .inr ((true, c), q))
  else .inl (zsp T n (zsp T n p1))
def zmkC (T : Nat → Int32) (n : Nat) (no : Int32) (p : Nat) : zR Int32 := zcm T n no 6 p 0
def zmkR (T : Nat → Int32) (n : Nat) (no : Int32) (p : Nat) : zR Int32 := zrm T n no 7 p 0 (-1)
def zbrC (T : Nat → Int32) (n p : Nat) : zR Int32 := zcl T n 0 0 5 p 0
def zbrR (T : Nat → Int32) (n p : Nat) : zR Int32 := zrb T n 6 p 0
def zprC (T : Nat → Int32) (n p : Nat) : zR Int32 := zbd (zcl T n 1 1 3 p 0) fun b q => if b = 0 then .inl q else .inr (b, q)
def zprR (T : Nat → Int32) (n p : Nat) : zR Int32 := zrp T n 4 p 0
def zpaC (T : Nat → Int32) (n : Nat) (land : Int32) (p : Nat) : zR (Nat → Int32) := zPa (zbrC T n) (zprC T n) T n land p
def zpaR (T : Nat → Int32) (n : Nat) (land : Int32) (p : Nat) : zR (Nat → Int32) := zPaR (zbrR T n) (zprR T n) T n land p
def zclC (T : Nat → Int32) (n p : Nat) : zR (Bool × (Nat → Int32)) := zCl (zmkC T n) (zpaC T n) T n p
def zclR (T : Nat → Int32) (n p : Nat) : zR (Bool × (Nat → Int32)) := zCl (zmkR T n) (zpaR T n) T n p
/-- how many bits of five -/
def zpc (b : Int32) : Nat := (if b &&& 1 = 0 then 0 else 1) + (if b &&& 2 = 0 then 0 else 1) + (if b &&& 4 = 0 then 0 else 1) + (if b &&& 8 = 0 then 0 else 1) + (if b &&& 16 = 0 then 0 else 1)
def zkd (c : Int32) : Int32 := if c = 0 then 0 else 2
/-- a CLAUSE with what must stand behind it: ; or the end -/
def zfin {α : Type} (T : Nat → Int32) (n : Nat) (x : zR α) : zR α := zbd x fun a q => if zch T n (zsp T n q) = 59 ∨ zch T n (zsp T n q) = -1 then .inr (a, zsp T n q) else .inl (zsp T n q)
/-- all CLAUSES from p on, k at most: CRIMES, papers, how many, or the place of a FAULT -/
def zwd (cl : Nat → zR (Bool × (Nat → Int32))) (T : Nat → Int32) (n : Nat) : Nat → Nat → Nat ⊕ (List (Nat → Int32) × List (Nat → Int32))
  | 0, p => .inl p
  | k + 1, p => match zfin T n (cl p) with
    | .inl e => .inl e
    | .inr (a, q) => if zch T n q = -1 then (if a.1 then .inr ([], [a.2]) else .inr ([a.2], [])) else if k = 0 then .inl q else match zwd cl T n k (q + 1) with
      | .inl e => .inl e
      | .inr (cs, ps) => if a.1 then .inr (cs, a.2 :: ps) else .inr (a.2 :: cs, ps)
