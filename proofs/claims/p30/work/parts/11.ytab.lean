abbrev yop : Type := Nat × Nat × Nat × Int
def yY : Nat → MethodName
  | 0 => yX0_init
  | 1 => yX1_init
  | 2 => yX2_init
  | 3 => yX3_init
  | 4 => yX4_init
  | 5 => yX5_init
  | 6 => yX6_init
  | 7 => yX7_init
  | 8 => yX8_init
  | 9 => yX9_init
  | 10 => yX10_init
  | 11 => yX10_free
  | _ => yX0_init
def yCc : Nat → ByteArray
  | 0 => cX0_init
  | 1 => cX1_init
  | 2 => cX2_init
  | 3 => cX3_init
  | 4 => cX4_init
  | 5 => cX5_init
  | 6 => cX6_init
  | 7 => cX7_init
  | 8 => cX8_init
  | 9 => cX9_init
  | 10 => cX10_init
  | 11 => cX10_free
  | _ => cX0_init
def yNL : Nat → Nat
  | 0 => 1
  | 1 => 1
  | 2 => 1
  | 3 => 1
  | 4 => 1
  | 5 => 2
  | 6 => 1
  | 7 => 2
  | 8 => 2
  | 9 => 3
  | 10 => 2
  | 11 => 1
  | _ => 0
def ymc : Nat → Nat
  | 0 => 0
  | 1 => 2
  | 2 => 0
  | 3 => 0
  | 4 => 0
  | 5 => 5
  | 6 => 1
  | 7 => 27
  | 8 => 73
  | 9 => 191
  | 10 => 18
  | 11 => 0
  | _ => 0
def yms : Nat → Nat
  | 0 => 0
  | 1 => 12
  | 2 => 0
  | 3 => 0
  | 4 => 0
  | 5 => 9237
  | 6 => 16
  | 7 => 336
  | 8 => 547
  | 9 => 10781
  | 10 => 65531
  | 11 => 0
  | _ => 0
def ydef : Nat → List (Int32 ⊕ Option Nat)
  | 0 => [.inl 0, .inl 0, .inl 0, .inl 0, .inl 0, .inl 0]
  | 1 => [.inl 0, .inl 0, .inl 0, .inl 0, .inl 0, .inl 0, .inl 0, .inl 0, .inr none, .inr none]
  | 2 => [.inl 0, .inl 0, .inl 0, .inl 0, .inl 0, .inl 0]
  | 3 => [.inl 0, .inl 0, .inl 0, .inl 0, .inl 0, .inl 0, .inl 0]
  | 4 => [.inl 0, .inl 0, .inl 0, .inl 0, .inl 0, .inl 0, .inl 0, .inl 0, .inl 0, .inl 0]
  | 5 => [.inr none, .inr none, .inr none, .inr none, .inr none, .inr none, .inl 0, .inl 0]
  | 6 => [.inr none, .inl 0, .inl 0]
  | 7 => [.inr none, .inr none, .inr none, .inl 0, .inl 0, .inl 0, .inl 0, .inl 0]
  | 8 => [.inr none, .inr none, .inr none, .inr none, .inr none, .inl 0, .inl 0, .inl 0, .inl 0]
  | 9 => [.inr none, .inr none, .inr none, .inr none, .inr none, .inl 0]
  | 10 => [.inl 0, .inr none, .inl 0, .inr none, .inl 0, .inr none, .inl 0, .inr none, .inr none, .inr none, .inr none, .inr none, .inr none, .inl 0, .inr none, .inr none, .inl 0, .inl 0, .inl 0, .inr none, .inl 0, .inr none, .inl 0, .inr none, .inl 0, .inr none, .inr none, .inr none, .inr none]
  | _ => []
def ytyf : Nat → (Nat → FieldType)
  | 0 => tyX0
  | 1 => tyX1
  | 2 => tyX2
  | 3 => tyX3
  | 4 => tyX4
  | 5 => tyX5
  | 6 => tyX6
  | 7 => tyX7
  | 8 => tyX8
  | 9 => tyX9
  | 10 => tyX10
  | _ => tyX0
def yoc : Nat → Nat
  | 0 => 0
  | 1 => 0
  | 2 => 0
  | 3 => 1
  | 4 => 4
  | 5 => 2
  | _ => 6
theorem yo1 : Cond.instanceMethod Lib.objectInit ∈ zT := zmem 65 (by decide +kernel) rfl
theorem yo2 : Cond.code Lib.objectInit ⟨#[0xb1]⟩ 1 none ∈ zT := zmem 66 (by decide +kernel) rfl
/-- what a row of the table says of the code: the instruction that lies there, and what the tables say of it -/
def yCi (idx a n : Nat) (own : String) : Prop := Cond.methodLink own idx (yY a) ∈ zT ∧ Cond.instanceMethod (yY a) ∈ zT ∧ Cond.initialized (yY a).cls ∈ zT ∧ Cond.code (yY a) (yCc a) (yNL a) none ∈ zT ∧ ((yY a).cls ≠ "java/lang/invoke/MethodHandle" ∧ (yY a).cls ≠ "java/lang/invoke/VarHandle" ∧ (parseMethodDescriptor (yY a).desc).map (fun q => q.parameters.length) = some n) ∧ (yY a).name = "<init>" ∧ yNL a ≤ 21
def yCn (idx a n : Nat) (own : String) : Prop := (own, idx, yY a, "SentRoads") ∈ yN ∧ Cond.instanceMethod (yY a) ∈ zT ∧ Cond.initialized (yY a).cls ∈ zT ∧ Cond.code (yY a) (yCc a) (yNL a) none ∈ zT ∧ ((yY a).cls ≠ "java/lang/invoke/MethodHandle" ∧ (yY a).cls ≠ "java/lang/invoke/VarHandle" ∧ (parseMethodDescriptor (yY a).desc).map (fun q => q.parameters.length) = some n) ∧ (yY a).name = "<init>" ∧ yNL a ≤ 21
def yOK (mi pc : Nat) : yop → Prop
  | (0, k, _, _) => ∃ q : Fin 4, (q : Nat) = k ∧ decode (yCc mi) pc = .ok (.aload_n q, 1)
  | (1, k, _, _) => ∃ q : Fin 4, (q : Nat) = k ∧ decode (yCc mi) pc = .ok (.iload_n q, 1)
  | (2, k, _, _) => ∃ q : Fin 4, (q : Nat) = k ∧ decode (yCc mi) pc = .ok (.istore_n q, 1)
  | (3, k, _, _) => ∃ q : Fin 4, (q : Nat) = k ∧ decode (yCc mi) pc = .ok (.astore_n q, 1)
  | (4, _, _, v) => decode (yCc mi) pc = .ok (.iconst v, 1)
  | (5, _, _, v) => decode (yCc mi) pc = .ok (.bipush v, 2)
  | (6, _, _, v) => decode (yCc mi) pc = .ok (.sipush v, 3)
  | (7, k, _, v) => decode (yCc mi) pc = .ok (.iinc k v, 3)
  | (8, t, _, _) => ∃ off : Int, decode (yCc mi) pc = .ok (.goto off, 3) ∧ (pc : Int) + off = (t : Int)
  | (9, t, _, _) => ∃ off : Int, decode (yCc mi) pc = .ok (.if_icmp .ge off, 3) ∧ (pc : Int) + off = (t : Int)
  | (10, ci, N, _) => ∃ idx : Nat, decode (yCc mi) pc = .ok (.new idx, 3) ∧ yNw (yY mi).cls idx ci N (ydef ci)
  | (11, _, _, _) => decode (yCc mi) pc = .ok (.dup, 1)
  | (12, _, _, _) => ∃ idx : Nat, decode (yCc mi) pc = .ok (.invokespecial idx, 3) ∧ Cond.methodLink (yY mi).cls idx Lib.objectInit ∈ zT
  | (13, a, n, _) => ∃ idx : Nat, decode (yCc mi) pc = .ok (.invokespecial idx, 3) ∧ yCn idx a n (yY mi).cls
  | (14, a, n, _) => ∃ idx : Nat, decode (yCc mi) pc = .ok (.invokespecial idx, 3) ∧ yCi idx a n (yY mi).cls
  | (15, a, n, _) => ∃ idx : Nat, decode (yCc mi) pc = .ok (.invokevirtual idx, 3) ∧ zCv (yY mi).cls idx (yY a) (yCc a) (yNL a) none n ∧ (yY a).cls = "SentRoadsModel"
  | (16, ci, j, _) => ∃ idx : Nat, decode (yCc mi) pc = .ok (.putfield idx, 3) ∧ zFl (yY mi).cls idx ci j ∧ yFw (yY mi).cls ci j (ytyf ci j) ∧ (yY mi).name = "<init>"
  | (17, ci, j, _) => ∃ idx : Nat, decode (yCc mi) pc = .ok (.getfield idx, 3) ∧ zFl (yY mi).cls idx ci j
  | (18, t, _, _) => ∃ at0 : ArrayType, decode (yCc mi) pc = .ok (.newarray at0, 2) ∧ Cond.arrayClass (newarray.typeOf at0) ∈ zT ∧ newarray.typeOf at0 = zty t ∧ t < 2
  | (19, t, _, _) => ∃ idx : Nat, decode (yCc mi) pc = .ok (.anewarray idx, 3) ∧ Cond.classLink (yY mi).cls idx (zOb t) ∈ zT ∧ 2 ≤ t ∧ t < 7
  | (20, _, _, _) => decode (yCc mi) pc = .ok (.aastore, 1)
  | (21, _, _, _) => decode (yCc mi) pc = .ok (.iastore, 1)
  | (22, _, _, _) => decode (yCc mi) pc = .ok (.return_, 1)
  | _ => False
theorem yd_0 (lo j : Nat) (hj : j < 6) : defaultValue (tyX0 j) = vp_V ((ydef 0).map (yfv lo)) j := by
  rcases (show j = 0 ∨ j = 1 ∨ j = 2 ∨ j = 3 ∨ j = 4 ∨ j = 5 by omega) with rfl | rfl | rfl | rfl | rfl | rfl <;> rfl
theorem yd_1 (lo j : Nat) (hj : j < 10) : defaultValue (tyX1 j) = vp_V ((ydef 1).map (yfv lo)) j := by
  rcases (show j = 0 ∨ j = 1 ∨ j = 2 ∨ j = 3 ∨ j = 4 ∨ j = 5 ∨ j = 6 ∨ j = 7 ∨ j = 8 ∨ j = 9 by omega) with rfl | rfl | rfl | rfl | rfl | rfl | rfl | rfl | rfl | rfl <;> rfl
theorem yd_2 (lo j : Nat) (hj : j < 6) : defaultValue (tyX2 j) = vp_V ((ydef 2).map (yfv lo)) j := by
  rcases (show j = 0 ∨ j = 1 ∨ j = 2 ∨ j = 3 ∨ j = 4 ∨ j = 5 by omega) with rfl | rfl | rfl | rfl | rfl | rfl <;> rfl
theorem yd_3 (lo j : Nat) (hj : j < 7) : defaultValue (tyX3 j) = vp_V ((ydef 3).map (yfv lo)) j := by
  rcases (show j = 0 ∨ j = 1 ∨ j = 2 ∨ j = 3 ∨ j = 4 ∨ j = 5 ∨ j = 6 by omega) with rfl | rfl | rfl | rfl | rfl | rfl | rfl <;> rfl
theorem yd_4 (lo j : Nat) (hj : j < 10) : defaultValue (tyX4 j) = vp_V ((ydef 4).map (yfv lo)) j := by
  rcases (show j = 0 ∨ j = 1 ∨ j = 2 ∨ j = 3 ∨ j = 4 ∨ j = 5 ∨ j = 6 ∨ j = 7 ∨ j = 8 ∨ j = 9 by omega) with rfl | rfl | rfl | rfl | rfl | rfl | rfl | rfl | rfl | rfl <;> rfl
theorem yd_5 (lo j : Nat) (hj : j < 8) : defaultValue (tyX5 j) = vp_V ((ydef 5).map (yfv lo)) j := by
  rcases (show j = 0 ∨ j = 1 ∨ j = 2 ∨ j = 3 ∨ j = 4 ∨ j = 5 ∨ j = 6 ∨ j = 7 by omega) with rfl | rfl | rfl | rfl | rfl | rfl | rfl | rfl <;> rfl
theorem yd_6 (lo j : Nat) (hj : j < 3) : defaultValue (tyX6 j) = vp_V ((ydef 6).map (yfv lo)) j := by
  rcases (show j = 0 ∨ j = 1 ∨ j = 2 by omega) with rfl | rfl | rfl <;> rfl
theorem yd_7 (lo j : Nat) (hj : j < 8) : defaultValue (tyX7 j) = vp_V ((ydef 7).map (yfv lo)) j := by
  rcases (show j = 0 ∨ j = 1 ∨ j = 2 ∨ j = 3 ∨ j = 4 ∨ j = 5 ∨ j = 6 ∨ j = 7 by omega) with rfl | rfl | rfl | rfl | rfl | rfl | rfl | rfl <;> rfl
theorem yd_8 (lo j : Nat) (hj : j < 9) : defaultValue (tyX8 j) = vp_V ((ydef 8).map (yfv lo)) j := by
  rcases (show j = 0 ∨ j = 1 ∨ j = 2 ∨ j = 3 ∨ j = 4 ∨ j = 5 ∨ j = 6 ∨ j = 7 ∨ j = 8 by omega) with rfl | rfl | rfl | rfl | rfl | rfl | rfl | rfl | rfl <;> rfl
def yt_0 : List (Nat × yop) := [(0, (0, 0, 0, 0)), (1, (12, 0, 0, 0)), (4, (22, 0, 0, 0))]
theorem yv_0_0 : yOK 0 0 (0, 0, 0, 0) := ⟨0, rfl, dX0_init_0⟩
theorem yv_0_1 : yOK 0 1 (12, 0, 0, 0) := ⟨1, dX0_init_1, (zmem 125 (by decide +kernel) rfl)⟩
theorem yv_0_4 : yOK 0 4 (22, 0, 0, 0) := dX0_init_4
theorem yv_0 : ∀ q ∈ yt_0, yOK 0 q.1 q.2 := List.forall_mem_cons.mpr ⟨yv_0_0, List.forall_mem_cons.mpr ⟨yv_0_1, List.forall_mem_cons.mpr ⟨yv_0_4, fun _ h => absurd h List.not_mem_nil⟩⟩⟩
def yt_1 : List (Nat × yop) := [(0, (0, 0, 0, 0)), (1, (12, 0, 0, 0)), (4, (0, 0, 0, 0)), (5, (5, 0, 0, 6)), (7, (18, 0, 0, 0)), (9, (16, 1, 8, 0)), (12, (0, 0, 0, 0)), (13, (5, 0, 0, 6)), (15, (18, 0, 0, 0)), (17, (16, 1, 9, 0)), (20, (22, 0, 0, 0))]
theorem yv_1_0 : yOK 1 0 (0, 0, 0, 0) := ⟨0, rfl, dX1_init_0⟩
theorem yv_1_1 : yOK 1 1 (12, 0, 0, 0) := ⟨3, dX1_init_1, (zmem 159 (by decide +kernel) rfl)⟩
theorem yv_1_4 : yOK 1 4 (0, 0, 0, 0) := ⟨0, rfl, dX1_init_4⟩
theorem yv_1_5 : yOK 1 5 (5, 0, 0, 6) := dX1_init_5
theorem yv_1_7 : yOK 1 7 (18, 0, 0, 0) := ⟨.int, dX1_init_7, (zmem 208 (by decide +kernel) rfl), rfl, by decide⟩
theorem yv_1_9 : yOK 1 9 (16, 1, 8, 0) := ⟨9, dX1_init_9, zf_X1_9, ⟨_, _, _, tyX1, rfl, tyX1_ok, nmX1, rfl, by decide +kernel⟩, rfl⟩
theorem yv_1_12 : yOK 1 12 (0, 0, 0, 0) := ⟨0, rfl, dX1_init_12⟩
theorem yv_1_13 : yOK 1 13 (5, 0, 0, 6) := dX1_init_13
theorem yv_1_15 : yOK 1 15 (18, 0, 0, 0) := ⟨.int, dX1_init_15, (zmem 208 (by decide +kernel) rfl), rfl, by decide⟩
theorem yv_1_17 : yOK 1 17 (16, 1, 9, 0) := ⟨15, dX1_init_17, zf_X1_15, ⟨_, _, _, tyX1, rfl, tyX1_ok, nmX1, rfl, by decide +kernel⟩, rfl⟩
theorem yv_1_20 : yOK 1 20 (22, 0, 0, 0) := dX1_init_20
theorem yv_1 : ∀ q ∈ yt_1, yOK 1 q.1 q.2 := List.forall_mem_cons.mpr ⟨yv_1_0, List.forall_mem_cons.mpr ⟨yv_1_1, List.forall_mem_cons.mpr ⟨yv_1_4, List.forall_mem_cons.mpr ⟨yv_1_5, List.forall_mem_cons.mpr ⟨yv_1_7, List.forall_mem_cons.mpr ⟨yv_1_9, List.forall_mem_cons.mpr ⟨yv_1_12, List.forall_mem_cons.mpr ⟨yv_1_13, List.forall_mem_cons.mpr ⟨yv_1_15, List.forall_mem_cons.mpr ⟨yv_1_17, List.forall_mem_cons.mpr ⟨yv_1_20, fun _ h => absurd h List.not_mem_nil⟩⟩⟩⟩⟩⟩⟩⟩⟩⟩⟩
def yt_2 : List (Nat × yop) := [(0, (0, 0, 0, 0)), (1, (12, 0, 0, 0)), (4, (22, 0, 0, 0))]
theorem yv_2_0 : yOK 2 0 (0, 0, 0, 0) := ⟨0, rfl, dX2_init_0⟩
theorem yv_2_1 : yOK 2 1 (12, 0, 0, 0) := ⟨1, dX2_init_1, (zmem 266 (by decide +kernel) rfl)⟩
theorem yv_2_4 : yOK 2 4 (22, 0, 0, 0) := dX2_init_4
theorem yv_2 : ∀ q ∈ yt_2, yOK 2 q.1 q.2 := List.forall_mem_cons.mpr ⟨yv_2_0, List.forall_mem_cons.mpr ⟨yv_2_1, List.forall_mem_cons.mpr ⟨yv_2_4, fun _ h => absurd h List.not_mem_nil⟩⟩⟩
def yt_3 : List (Nat × yop) := [(0, (0, 0, 0, 0)), (1, (12, 0, 0, 0)), (4, (0, 0, 0, 0)), (5, (5, 0, 0, -4)), (7, (16, 3, 5, 0)), (10, (0, 0, 0, 0)), (11, (6, 0, 0, 255)), (14, (16, 3, 6, 0)), (17, (22, 0, 0, 0))]
theorem yv_3_0 : yOK 3 0 (0, 0, 0, 0) := ⟨0, rfl, dX3_init_0⟩
theorem yv_3_1 : yOK 3 1 (12, 0, 0, 0) := ⟨3, dX3_init_1, (zmem 86 (by decide +kernel) rfl)⟩
theorem yv_3_4 : yOK 3 4 (0, 0, 0, 0) := ⟨0, rfl, dX3_init_4⟩
theorem yv_3_5 : yOK 3 5 (5, 0, 0, -4) := dX3_init_5
theorem yv_3_7 : yOK 3 7 (16, 3, 5, 0) := ⟨9, dX3_init_7, zf_X3_9, ⟨_, _, _, tyX3, rfl, tyX3_ok, nmX3, rfl, by decide +kernel⟩, rfl⟩
theorem yv_3_10 : yOK 3 10 (0, 0, 0, 0) := ⟨0, rfl, dX3_init_10⟩
theorem yv_3_11 : yOK 3 11 (6, 0, 0, 255) := dX3_init_11
theorem yv_3_14 : yOK 3 14 (16, 3, 6, 0) := ⟨15, dX3_init_14, zf_X3_15, ⟨_, _, _, tyX3, rfl, tyX3_ok, nmX3, rfl, by decide +kernel⟩, rfl⟩
theorem yv_3_17 : yOK 3 17 (22, 0, 0, 0) := dX3_init_17
theorem yv_3 : ∀ q ∈ yt_3, yOK 3 q.1 q.2 := List.forall_mem_cons.mpr ⟨yv_3_0, List.forall_mem_cons.mpr ⟨yv_3_1, List.forall_mem_cons.mpr ⟨yv_3_4, List.forall_mem_cons.mpr ⟨yv_3_5, List.forall_mem_cons.mpr ⟨yv_3_7, List.forall_mem_cons.mpr ⟨yv_3_10, List.forall_mem_cons.mpr ⟨yv_3_11, List.forall_mem_cons.mpr ⟨yv_3_14, List.forall_mem_cons.mpr ⟨yv_3_17, fun _ h => absurd h List.not_mem_nil⟩⟩⟩⟩⟩⟩⟩⟩⟩
def yt_4 : List (Nat × yop) := [(0, (0, 0, 0, 0)), (1, (12, 0, 0, 0)), (4, (22, 0, 0, 0))]
theorem yv_4_0 : yOK 4 0 (0, 0, 0, 0) := ⟨0, rfl, dX4_init_0⟩
theorem yv_4_1 : yOK 4 1 (12, 0, 0, 0) := ⟨3, dX4_init_1, (zmem 213 (by decide +kernel) rfl)⟩
theorem yv_4_4 : yOK 4 4 (22, 0, 0, 0) := dX4_init_4
theorem yv_4 : ∀ q ∈ yt_4, yOK 4 q.1 q.2 := List.forall_mem_cons.mpr ⟨yv_4_0, List.forall_mem_cons.mpr ⟨yv_4_1, List.forall_mem_cons.mpr ⟨yv_4_4, fun _ h => absurd h List.not_mem_nil⟩⟩⟩
def yt_5 : List (Nat × yop) := [(0, (0, 0, 0, 0)), (1, (12, 0, 0, 0)), (4, (0, 0, 0, 0)), (5, (10, 3, 7, 0)), (8, (11, 0, 0, 0)), (9, (13, 3, 0, 0)), (12, (16, 5, 1, 0)), (15, (0, 0, 0, 0)), (16, (6, 0, 0, 3072)), (19, (18, 0, 0, 0)), (21, (16, 5, 2, 0)), (24, (0, 0, 0, 0)), (25, (6, 0, 0, 3073)), (28, (18, 0, 0, 0)), (30, (16, 5, 3, 0)), (33, (0, 0, 0, 0)), (34, (6, 0, 0, 3073)), (37, (18, 0, 0, 0)), (39, (16, 5, 4, 0)), (42, (0, 0, 0, 0)), (43, (5, 0, 0, 12)), (45, (18, 0, 0, 0)), (47, (16, 5, 5, 0)), (50, (0, 0, 0, 0)), (51, (0, 1, 0, 0)), (52, (16, 5, 0, 0)), (55, (22, 0, 0, 0))]
theorem yv_5_0 : yOK 5 0 (0, 0, 0, 0) := ⟨0, rfl, dX5_init_0⟩
theorem yv_5_1 : yOK 5 1 (12, 0, 0, 0) := ⟨3, dX5_init_1, (zmem 338 (by decide +kernel) rfl)⟩
theorem yv_5_4 : yOK 5 4 (0, 0, 0, 0) := ⟨0, rfl, dX5_init_4⟩
theorem yv_5_5 : yOK 5 5 (10, 3, 7, 0) := ⟨9, dX5_init_5, _, _, tyX3, rfl, zin_3, tyX3_ok, fun lo j hj => yd_3 lo j hj, (zmem 339 (by decide +kernel) rfl), (zmem 82 (by decide +kernel) rfl), zw_42⟩
theorem yv_5_8 : yOK 5 8 (11, 0, 0, 0) := dX5_init_8
theorem yv_5_9 : yOK 5 9 (13, 3, 0, 0) := ⟨11, dX5_init_9, List.mem_of_getElem? (i := 1) rfl, zw_84, zw_42, zw_85, ⟨by decide +kernel, by decide +kernel, by decide +kernel⟩, rfl, by decide⟩
theorem yv_5_12 : yOK 5 12 (16, 5, 1, 0) := ⟨12, dX5_init_12, zf_X5_12, ⟨_, _, _, tyX5, rfl, tyX5_ok, nmX5, rfl, by decide +kernel⟩, rfl⟩
theorem yv_5_15 : yOK 5 15 (0, 0, 0, 0) := ⟨0, rfl, dX5_init_15⟩
theorem yv_5_16 : yOK 5 16 (6, 0, 0, 3072) := dX5_init_16
theorem yv_5_19 : yOK 5 19 (18, 0, 0, 0) := ⟨.int, dX5_init_19, (zmem 208 (by decide +kernel) rfl), rfl, by decide⟩
theorem yv_5_21 : yOK 5 21 (16, 5, 2, 0) := ⟨18, dX5_init_21, zf_X5_18, ⟨_, _, _, tyX5, rfl, tyX5_ok, nmX5, rfl, by decide +kernel⟩, rfl⟩
theorem yv_5_24 : yOK 5 24 (0, 0, 0, 0) := ⟨0, rfl, dX5_init_24⟩
theorem yv_5_25 : yOK 5 25 (6, 0, 0, 3073) := dX5_init_25
theorem yv_5_28 : yOK 5 28 (18, 0, 0, 0) := ⟨.int, dX5_init_28, (zmem 208 (by decide +kernel) rfl), rfl, by decide⟩
theorem yv_5_30 : yOK 5 30 (16, 5, 3, 0) := ⟨22, dX5_init_30, zf_X5_22, ⟨_, _, _, tyX5, rfl, tyX5_ok, nmX5, rfl, by decide +kernel⟩, rfl⟩
theorem yv_5_33 : yOK 5 33 (0, 0, 0, 0) := ⟨0, rfl, dX5_init_33⟩
theorem yv_5_34 : yOK 5 34 (6, 0, 0, 3073) := dX5_init_34
theorem yv_5_37 : yOK 5 37 (18, 0, 0, 0) := ⟨.int, dX5_init_37, (zmem 208 (by decide +kernel) rfl), rfl, by decide⟩
theorem yv_5_39 : yOK 5 39 (16, 5, 4, 0) := ⟨25, dX5_init_39, zf_X5_25, ⟨_, _, _, tyX5, rfl, tyX5_ok, nmX5, rfl, by decide +kernel⟩, rfl⟩
theorem yv_5_42 : yOK 5 42 (0, 0, 0, 0) := ⟨0, rfl, dX5_init_42⟩
theorem yv_5_43 : yOK 5 43 (5, 0, 0, 12) := dX5_init_43
theorem yv_5_45 : yOK 5 45 (18, 0, 0, 0) := ⟨.int, dX5_init_45, (zmem 208 (by decide +kernel) rfl), rfl, by decide⟩
theorem yv_5_47 : yOK 5 47 (16, 5, 5, 0) := ⟨28, dX5_init_47, zf_X5_28, ⟨_, _, _, tyX5, rfl, tyX5_ok, nmX5, rfl, by decide +kernel⟩, rfl⟩
theorem yv_5_50 : yOK 5 50 (0, 0, 0, 0) := ⟨0, rfl, dX5_init_50⟩
theorem yv_5_51 : yOK 5 51 (0, 1, 0, 0) := ⟨1, rfl, dX5_init_51⟩
theorem yv_5_52 : yOK 5 52 (16, 5, 0, 0) := ⟨31, dX5_init_52, zf_X5_31, ⟨_, _, _, tyX5, rfl, tyX5_ok, nmX5, rfl, by decide +kernel⟩, rfl⟩
theorem yv_5_55 : yOK 5 55 (22, 0, 0, 0) := dX5_init_55
theorem yv_5 : ∀ q ∈ yt_5, yOK 5 q.1 q.2 := List.forall_mem_cons.mpr ⟨yv_5_0, List.forall_mem_cons.mpr ⟨yv_5_1, List.forall_mem_cons.mpr ⟨yv_5_4, List.forall_mem_cons.mpr ⟨yv_5_5, List.forall_mem_cons.mpr ⟨yv_5_8, List.forall_mem_cons.mpr ⟨yv_5_9, List.forall_mem_cons.mpr ⟨yv_5_12, List.forall_mem_cons.mpr ⟨yv_5_15, List.forall_mem_cons.mpr ⟨yv_5_16, List.forall_mem_cons.mpr ⟨yv_5_19, List.forall_mem_cons.mpr ⟨yv_5_21, List.forall_mem_cons.mpr ⟨yv_5_24, List.forall_mem_cons.mpr ⟨yv_5_25, List.forall_mem_cons.mpr ⟨yv_5_28, List.forall_mem_cons.mpr ⟨yv_5_30, List.forall_mem_cons.mpr ⟨yv_5_33, List.forall_mem_cons.mpr ⟨yv_5_34, List.forall_mem_cons.mpr ⟨yv_5_37, List.forall_mem_cons.mpr ⟨yv_5_39, List.forall_mem_cons.mpr ⟨yv_5_42, List.forall_mem_cons.mpr ⟨yv_5_43, List.forall_mem_cons.mpr ⟨yv_5_45, List.forall_mem_cons.mpr ⟨yv_5_47, List.forall_mem_cons.mpr ⟨yv_5_50, List.forall_mem_cons.mpr ⟨yv_5_51, List.forall_mem_cons.mpr ⟨yv_5_52, List.forall_mem_cons.mpr ⟨yv_5_55, fun _ h => absurd h List.not_mem_nil⟩⟩⟩⟩⟩⟩⟩⟩⟩⟩⟩⟩⟩⟩⟩⟩⟩⟩⟩⟩⟩⟩⟩⟩⟩⟩⟩
def yt_6 : List (Nat × yop) := [(0, (0, 0, 0, 0)), (1, (12, 0, 0, 0)), (4, (0, 0, 0, 0)), (5, (5, 0, 0, 16)), (7, (18, 0, 0, 0)), (9, (16, 6, 0, 0)), (12, (0, 0, 0, 0)), (13, (4, 0, 0, -1)), (14, (16, 6, 1, 0)), (17, (22, 0, 0, 0))]
theorem yv_6_0 : yOK 6 0 (0, 0, 0, 0) := ⟨0, rfl, dX6_init_0⟩
theorem yv_6_1 : yOK 6 1 (12, 0, 0, 0) := ⟨3, dX6_init_1, (zmem 413 (by decide +kernel) rfl)⟩
theorem yv_6_4 : yOK 6 4 (0, 0, 0, 0) := ⟨0, rfl, dX6_init_4⟩
theorem yv_6_5 : yOK 6 5 (5, 0, 0, 16) := dX6_init_5
theorem yv_6_7 : yOK 6 7 (18, 0, 0, 0) := ⟨.int, dX6_init_7, (zmem 208 (by decide +kernel) rfl), rfl, by decide⟩
theorem yv_6_9 : yOK 6 9 (16, 6, 0, 0) := ⟨9, dX6_init_9, zf_X6_9, ⟨_, _, _, tyX6, rfl, tyX6_ok, nmX6, rfl, by decide +kernel⟩, rfl⟩
theorem yv_6_12 : yOK 6 12 (0, 0, 0, 0) := ⟨0, rfl, dX6_init_12⟩
theorem yv_6_13 : yOK 6 13 (4, 0, 0, -1) := dX6_init_13
theorem yv_6_14 : yOK 6 14 (16, 6, 1, 0) := ⟨15, dX6_init_14, zf_X6_15, ⟨_, _, _, tyX6, rfl, tyX6_ok, nmX6, rfl, by decide +kernel⟩, rfl⟩
theorem yv_6_17 : yOK 6 17 (22, 0, 0, 0) := dX6_init_17
theorem yv_6 : ∀ q ∈ yt_6, yOK 6 q.1 q.2 := List.forall_mem_cons.mpr ⟨yv_6_0, List.forall_mem_cons.mpr ⟨yv_6_1, List.forall_mem_cons.mpr ⟨yv_6_4, List.forall_mem_cons.mpr ⟨yv_6_5, List.forall_mem_cons.mpr ⟨yv_6_7, List.forall_mem_cons.mpr ⟨yv_6_9, List.forall_mem_cons.mpr ⟨yv_6_12, List.forall_mem_cons.mpr ⟨yv_6_13, List.forall_mem_cons.mpr ⟨yv_6_14, List.forall_mem_cons.mpr ⟨yv_6_17, fun _ h => absurd h List.not_mem_nil⟩⟩⟩⟩⟩⟩⟩⟩⟩⟩
def yt_7 : List (Nat × yop) := [(0, (0, 0, 0, 0)), (1, (12, 0, 0, 0)), (4, (0, 0, 0, 0)), (5, (5, 0, 0, 120)), (7, (18, 1, 0, 0)), (9, (16, 7, 0, 0)), (12, (0, 0, 0, 0)), (13, (5, 0, 0, 12)), (15, (19, 2, 0, 0)), (18, (16, 7, 1, 0)), (21, (0, 0, 0, 0)), (22, (5, 0, 0, 12)), (24, (19, 4, 0, 0)), (27, (16, 7, 2, 0)), (30, (4, 0, 0, 0)), (31, (2, 1, 0, 0)), (32, (1, 1, 0, 0)), (33, (5, 0, 0, 12)), (35, (9, 70, 0, 0)), (38, (0, 0, 0, 0)), (39, (17, 7, 1, 0)), (42, (1, 1, 0, 0)), (43, (10, 0, 6, 0)), (46, (11, 0, 0, 0)), (47, (13, 0, 0, 0)), (50, (20, 0, 0, 0)), (51, (0, 0, 0, 0)), (52, (17, 7, 2, 0)), (55, (1, 1, 0, 0)), (56, (10, 4, 10, 0)), (59, (11, 0, 0, 0)), (60, (13, 4, 0, 0)), (63, (20, 0, 0, 0)), (64, (7, 1, 0, 1)), (67, (8, 32, 0, 0)), (70, (22, 0, 0, 0))]
theorem yv_7_0 : yOK 7 0 (0, 0, 0, 0) := ⟨0, rfl, dX7_init_0⟩
theorem yv_7_1 : yOK 7 1 (12, 0, 0, 0) := ⟨3, dX7_init_1, (zmem 371 (by decide +kernel) rfl)⟩
theorem yv_7_4 : yOK 7 4 (0, 0, 0, 0) := ⟨0, rfl, dX7_init_4⟩
theorem yv_7_5 : yOK 7 5 (5, 0, 0, 120) := dX7_init_5
theorem yv_7_7 : yOK 7 7 (18, 1, 0, 0) := ⟨.char, dX7_init_7, (zmem 406 (by decide +kernel) rfl), rfl, by decide⟩
theorem yv_7_9 : yOK 7 9 (16, 7, 0, 0) := ⟨9, dX7_init_9, zf_X7_9, ⟨_, _, _, tyX7, rfl, tyX7_ok, nmX7, rfl, by decide +kernel⟩, rfl⟩
theorem yv_7_12 : yOK 7 12 (0, 0, 0, 0) := ⟨0, rfl, dX7_init_12⟩
theorem yv_7_13 : yOK 7 13 (5, 0, 0, 12) := dX7_init_13
theorem yv_7_15 : yOK 7 15 (19, 2, 0, 0) := ⟨15, dX7_init_15, (zmem 372 (by decide +kernel) rfl), by decide, by decide⟩
theorem yv_7_18 : yOK 7 18 (16, 7, 1, 0) := ⟨17, dX7_init_18, zf_X7_17, ⟨_, _, _, tyX7, rfl, tyX7_ok, nmX7, rfl, by decide +kernel⟩, rfl⟩
theorem yv_7_21 : yOK 7 21 (0, 0, 0, 0) := ⟨0, rfl, dX7_init_21⟩
theorem yv_7_22 : yOK 7 22 (5, 0, 0, 12) := dX7_init_22
theorem yv_7_24 : yOK 7 24 (19, 4, 0, 0) := ⟨21, dX7_init_24, (zmem 373 (by decide +kernel) rfl), by decide, by decide⟩
theorem yv_7_27 : yOK 7 27 (16, 7, 2, 0) := ⟨23, dX7_init_27, zf_X7_23, ⟨_, _, _, tyX7, rfl, tyX7_ok, nmX7, rfl, by decide +kernel⟩, rfl⟩
theorem yv_7_30 : yOK 7 30 (4, 0, 0, 0) := dX7_init_30
theorem yv_7_31 : yOK 7 31 (2, 1, 0, 0) := ⟨1, rfl, dX7_init_31⟩
theorem yv_7_32 : yOK 7 32 (1, 1, 0, 0) := ⟨1, rfl, dX7_init_32⟩
theorem yv_7_33 : yOK 7 33 (5, 0, 0, 12) := dX7_init_33
theorem yv_7_35 : yOK 7 35 (9, 70, 0, 0) := ⟨_, dX7_init_35, by decide⟩
theorem yv_7_38 : yOK 7 38 (0, 0, 0, 0) := ⟨0, rfl, dX7_init_38⟩
theorem yv_7_39 : yOK 7 39 (17, 7, 1, 0) := ⟨17, dX7_init_39, zf_X7_17⟩
theorem yv_7_42 : yOK 7 42 (1, 1, 0, 0) := ⟨1, rfl, dX7_init_42⟩
theorem yv_7_43 : yOK 7 43 (10, 0, 6, 0) := ⟨15, dX7_init_43, _, _, tyX0, rfl, zin_0, tyX0_ok, fun lo j hj => yd_0 lo j hj, (zmem 372 (by decide +kernel) rfl), (zmem 121 (by decide +kernel) rfl), zw_43⟩
theorem yv_7_46 : yOK 7 46 (11, 0, 0, 0) := dX7_init_46
theorem yv_7_47 : yOK 7 47 (13, 0, 0, 0) := ⟨27, dX7_init_47, List.mem_of_getElem? (i := 2) rfl, zw_123, zw_43, zw_124, ⟨by decide +kernel, by decide +kernel, by decide +kernel⟩, rfl, by decide⟩
theorem yv_7_50 : yOK 7 50 (20, 0, 0, 0) := dX7_init_50
theorem yv_7_51 : yOK 7 51 (0, 0, 0, 0) := ⟨0, rfl, dX7_init_51⟩
theorem yv_7_52 : yOK 7 52 (17, 7, 2, 0) := ⟨23, dX7_init_52, zf_X7_23⟩
theorem yv_7_55 : yOK 7 55 (1, 1, 0, 0) := ⟨1, rfl, dX7_init_55⟩
theorem yv_7_56 : yOK 7 56 (10, 4, 10, 0) := ⟨21, dX7_init_56, _, _, tyX4, rfl, zin_4, tyX4_ok, fun lo j hj => yd_4 lo j hj, (zmem 373 (by decide +kernel) rfl), (zmem 209 (by decide +kernel) rfl), zw_45⟩
theorem yv_7_59 : yOK 7 59 (11, 0, 0, 0) := dX7_init_59
theorem yv_7_60 : yOK 7 60 (13, 4, 0, 0) := ⟨28, dX7_init_60, List.mem_of_getElem? (i := 3) rfl, zw_211, zw_45, zw_212, ⟨by decide +kernel, by decide +kernel, by decide +kernel⟩, rfl, by decide⟩
theorem yv_7_63 : yOK 7 63 (20, 0, 0, 0) := dX7_init_63
theorem yv_7_64 : yOK 7 64 (7, 1, 0, 1) := dX7_init_64
theorem yv_7_67 : yOK 7 67 (8, 32, 0, 0) := ⟨_, dX7_init_67, by decide⟩
theorem yv_7_70 : yOK 7 70 (22, 0, 0, 0) := dX7_init_70
theorem yv_7 : ∀ q ∈ yt_7, yOK 7 q.1 q.2 := List.forall_mem_cons.mpr ⟨yv_7_0, List.forall_mem_cons.mpr ⟨yv_7_1, List.forall_mem_cons.mpr ⟨yv_7_4, List.forall_mem_cons.mpr ⟨yv_7_5, List.forall_mem_cons.mpr ⟨yv_7_7, List.forall_mem_cons.mpr ⟨yv_7_9, List.forall_mem_cons.mpr ⟨yv_7_12, List.forall_mem_cons.mpr ⟨yv_7_13, List.forall_mem_cons.mpr ⟨yv_7_15, List.forall_mem_cons.mpr ⟨yv_7_18, List.forall_mem_cons.mpr ⟨yv_7_21, List.forall_mem_cons.mpr ⟨yv_7_22, List.forall_mem_cons.mpr ⟨yv_7_24, List.forall_mem_cons.mpr ⟨yv_7_27, List.forall_mem_cons.mpr ⟨yv_7_30, List.forall_mem_cons.mpr ⟨yv_7_31, List.forall_mem_cons.mpr ⟨yv_7_32, List.forall_mem_cons.mpr ⟨yv_7_33, List.forall_mem_cons.mpr ⟨yv_7_35, List.forall_mem_cons.mpr ⟨yv_7_38, List.forall_mem_cons.mpr ⟨yv_7_39, List.forall_mem_cons.mpr ⟨yv_7_42, List.forall_mem_cons.mpr ⟨yv_7_43, List.forall_mem_cons.mpr ⟨yv_7_46, List.forall_mem_cons.mpr ⟨yv_7_47, List.forall_mem_cons.mpr ⟨yv_7_50, List.forall_mem_cons.mpr ⟨yv_7_51, List.forall_mem_cons.mpr ⟨yv_7_52, List.forall_mem_cons.mpr ⟨yv_7_55, List.forall_mem_cons.mpr ⟨yv_7_56, List.forall_mem_cons.mpr ⟨yv_7_59, List.forall_mem_cons.mpr ⟨yv_7_60, List.forall_mem_cons.mpr ⟨yv_7_63, List.forall_mem_cons.mpr ⟨yv_7_64, List.forall_mem_cons.mpr ⟨yv_7_67, List.forall_mem_cons.mpr ⟨yv_7_70, fun _ h => absurd h List.not_mem_nil⟩⟩⟩⟩⟩⟩⟩⟩⟩⟩⟩⟩⟩⟩⟩⟩⟩⟩⟩⟩⟩⟩⟩⟩⟩⟩⟩⟩⟩⟩⟩⟩⟩⟩⟩⟩
def yt_8 : List (Nat × yop) := [(0, (0, 0, 0, 0)), (1, (12, 0, 0, 0)), (4, (0, 0, 0, 0)), (5, (5, 0, 0, 24)), (7, (19, 2, 0, 0)), (10, (16, 8, 0, 0)), (13, (0, 0, 0, 0)), (14, (5, 0, 0, 8)), (16, (19, 3, 0, 0)), (19, (16, 8, 1, 0)), (22, (0, 0, 0, 0)), (23, (5, 0, 0, 12)), (25, (19, 4, 0, 0)), (28, (16, 8, 2, 0)), (31, (0, 0, 0, 0)), (32, (5, 0, 0, 8)), (34, (19, 5, 0, 0)), (37, (16, 8, 3, 0)), (40, (0, 0, 0, 0)), (41, (10, 3, 7, 0)), (44, (11, 0, 0, 0)), (45, (13, 3, 0, 0)), (48, (16, 8, 4, 0)), (51, (4, 0, 0, 0)), (52, (2, 1, 0, 0)), (53, (1, 1, 0, 0)), (54, (5, 0, 0, 24)), (56, (9, 78, 0, 0)), (59, (0, 0, 0, 0)), (60, (17, 8, 0, 0)), (63, (1, 1, 0, 0)), (64, (10, 0, 6, 0)), (67, (11, 0, 0, 0)), (68, (13, 0, 0, 0)), (71, (20, 0, 0, 0)), (72, (7, 1, 0, 1)), (75, (8, 53, 0, 0)), (78, (4, 0, 0, 0)), (79, (2, 1, 0, 0)), (80, (1, 1, 0, 0)), (81, (5, 0, 0, 8)), (83, (9, 105, 0, 0)), (86, (0, 0, 0, 0)), (87, (17, 8, 1, 0)), (90, (1, 1, 0, 0)), (91, (10, 1, 10, 0)), (94, (11, 0, 0, 0)), (95, (13, 1, 0, 0)), (98, (20, 0, 0, 0)), (99, (7, 1, 0, 1)), (102, (8, 80, 0, 0)), (105, (4, 0, 0, 0)), (106, (2, 1, 0, 0)), (107, (1, 1, 0, 0)), (108, (5, 0, 0, 12)), (110, (9, 132, 0, 0)), (113, (0, 0, 0, 0)), (114, (17, 8, 2, 0)), (117, (1, 1, 0, 0)), (118, (10, 4, 10, 0)), (121, (11, 0, 0, 0)), (122, (13, 4, 0, 0)), (125, (20, 0, 0, 0)), (126, (7, 1, 0, 1)), (129, (8, 107, 0, 0)), (132, (4, 0, 0, 0)), (133, (2, 1, 0, 0)), (134, (1, 1, 0, 0)), (135, (5, 0, 0, 8)), (137, (9, 159, 0, 0)), (140, (0, 0, 0, 0)), (141, (17, 8, 3, 0)), (144, (1, 1, 0, 0)), (145, (10, 2, 6, 0)), (148, (11, 0, 0, 0)), (149, (13, 2, 0, 0)), (152, (20, 0, 0, 0)), (153, (7, 1, 0, 1)), (156, (8, 134, 0, 0)), (159, (22, 0, 0, 0))]
theorem yv_8_0 : yOK 8 0 (0, 0, 0, 0) := ⟨0, rfl, dX8_init_0⟩
theorem yv_8_1 : yOK 8 1 (12, 0, 0, 0) := ⟨3, dX8_init_1, (zmem 72 (by decide +kernel) rfl)⟩
theorem yv_8_4 : yOK 8 4 (0, 0, 0, 0) := ⟨0, rfl, dX8_init_4⟩
theorem yv_8_5 : yOK 8 5 (5, 0, 0, 24) := dX8_init_5
theorem yv_8_7 : yOK 8 7 (19, 2, 0, 0) := ⟨9, dX8_init_7, (zmem 73 (by decide +kernel) rfl), by decide, by decide⟩
theorem yv_8_10 : yOK 8 10 (16, 8, 0, 0) := ⟨11, dX8_init_10, zf_X8_11, ⟨_, _, _, tyX8, rfl, tyX8_ok, nmX8, rfl, by decide +kernel⟩, rfl⟩
theorem yv_8_13 : yOK 8 13 (0, 0, 0, 0) := ⟨0, rfl, dX8_init_13⟩
theorem yv_8_14 : yOK 8 14 (5, 0, 0, 8) := dX8_init_14
theorem yv_8_16 : yOK 8 16 (19, 3, 0, 0) := ⟨17, dX8_init_16, (zmem 75 (by decide +kernel) rfl), by decide, by decide⟩
theorem yv_8_19 : yOK 8 19 (16, 8, 1, 0) := ⟨19, dX8_init_19, zf_X8_19, ⟨_, _, _, tyX8, rfl, tyX8_ok, nmX8, rfl, by decide +kernel⟩, rfl⟩
theorem yv_8_22 : yOK 8 22 (0, 0, 0, 0) := ⟨0, rfl, dX8_init_22⟩
theorem yv_8_23 : yOK 8 23 (5, 0, 0, 12) := dX8_init_23
theorem yv_8_25 : yOK 8 25 (19, 4, 0, 0) := ⟨23, dX8_init_25, (zmem 77 (by decide +kernel) rfl), by decide, by decide⟩
theorem yv_8_28 : yOK 8 28 (16, 8, 2, 0) := ⟨25, dX8_init_28, zf_X8_25, ⟨_, _, _, tyX8, rfl, tyX8_ok, nmX8, rfl, by decide +kernel⟩, rfl⟩
theorem yv_8_31 : yOK 8 31 (0, 0, 0, 0) := ⟨0, rfl, dX8_init_31⟩
theorem yv_8_32 : yOK 8 32 (5, 0, 0, 8) := dX8_init_32
theorem yv_8_34 : yOK 8 34 (19, 5, 0, 0) := ⟨29, dX8_init_34, (zmem 79 (by decide +kernel) rfl), by decide, by decide⟩
theorem yv_8_37 : yOK 8 37 (16, 8, 3, 0) := ⟨31, dX8_init_37, zf_X8_31, ⟨_, _, _, tyX8, rfl, tyX8_ok, nmX8, rfl, by decide +kernel⟩, rfl⟩
theorem yv_8_40 : yOK 8 40 (0, 0, 0, 0) := ⟨0, rfl, dX8_init_40⟩
theorem yv_8_41 : yOK 8 41 (10, 3, 7, 0) := ⟨35, dX8_init_41, _, _, tyX3, rfl, zin_3, tyX3_ok, fun lo j hj => yd_3 lo j hj, (zmem 81 (by decide +kernel) rfl), (zmem 82 (by decide +kernel) rfl), zw_42⟩
theorem yv_8_44 : yOK 8 44 (11, 0, 0, 0) := dX8_init_44
theorem yv_8_45 : yOK 8 45 (13, 3, 0, 0) := ⟨37, dX8_init_45, List.mem_of_getElem? (i := 4) rfl, zw_84, zw_42, zw_85, ⟨by decide +kernel, by decide +kernel, by decide +kernel⟩, rfl, by decide⟩
theorem yv_8_48 : yOK 8 48 (16, 8, 4, 0) := ⟨38, dX8_init_48, zf_X8_38, ⟨_, _, _, tyX8, rfl, tyX8_ok, nmX8, rfl, by decide +kernel⟩, rfl⟩
theorem yv_8_51 : yOK 8 51 (4, 0, 0, 0) := dX8_init_51
theorem yv_8_52 : yOK 8 52 (2, 1, 0, 0) := ⟨1, rfl, dX8_init_52⟩
theorem yv_8_53 : yOK 8 53 (1, 1, 0, 0) := ⟨1, rfl, dX8_init_53⟩
theorem yv_8_54 : yOK 8 54 (5, 0, 0, 24) := dX8_init_54
theorem yv_8_56 : yOK 8 56 (9, 78, 0, 0) := ⟨_, dX8_init_56, by decide⟩
theorem yv_8_59 : yOK 8 59 (0, 0, 0, 0) := ⟨0, rfl, dX8_init_59⟩
theorem yv_8_60 : yOK 8 60 (17, 8, 0, 0) := ⟨11, dX8_init_60, zf_X8_11⟩
theorem yv_8_63 : yOK 8 63 (1, 1, 0, 0) := ⟨1, rfl, dX8_init_63⟩
theorem yv_8_64 : yOK 8 64 (10, 0, 6, 0) := ⟨9, dX8_init_64, _, _, tyX0, rfl, zin_0, tyX0_ok, fun lo j hj => yd_0 lo j hj, (zmem 73 (by decide +kernel) rfl), (zmem 121 (by decide +kernel) rfl), zw_43⟩
theorem yv_8_67 : yOK 8 67 (11, 0, 0, 0) := dX8_init_67
theorem yv_8_68 : yOK 8 68 (13, 0, 0, 0) := ⟨42, dX8_init_68, List.mem_of_getElem? (i := 5) rfl, zw_123, zw_43, zw_124, ⟨by decide +kernel, by decide +kernel, by decide +kernel⟩, rfl, by decide⟩
theorem yv_8_71 : yOK 8 71 (20, 0, 0, 0) := dX8_init_71
theorem yv_8_72 : yOK 8 72 (7, 1, 0, 1) := dX8_init_72
theorem yv_8_75 : yOK 8 75 (8, 53, 0, 0) := ⟨_, dX8_init_75, by decide⟩
theorem yv_8_78 : yOK 8 78 (4, 0, 0, 0) := dX8_init_78
theorem yv_8_79 : yOK 8 79 (2, 1, 0, 0) := ⟨1, rfl, dX8_init_79⟩
theorem yv_8_80 : yOK 8 80 (1, 1, 0, 0) := ⟨1, rfl, dX8_init_80⟩
theorem yv_8_81 : yOK 8 81 (5, 0, 0, 8) := dX8_init_81
theorem yv_8_83 : yOK 8 83 (9, 105, 0, 0) := ⟨_, dX8_init_83, by decide⟩
theorem yv_8_86 : yOK 8 86 (0, 0, 0, 0) := ⟨0, rfl, dX8_init_86⟩
theorem yv_8_87 : yOK 8 87 (17, 8, 1, 0) := ⟨19, dX8_init_87, zf_X8_19⟩
theorem yv_8_90 : yOK 8 90 (1, 1, 0, 0) := ⟨1, rfl, dX8_init_90⟩
theorem yv_8_91 : yOK 8 91 (10, 1, 10, 0) := ⟨17, dX8_init_91, _, _, tyX1, rfl, zin_1, tyX1_ok, fun lo j hj => yd_1 lo j hj, (zmem 75 (by decide +kernel) rfl), (zmem 155 (by decide +kernel) rfl), zw_44⟩
theorem yv_8_94 : yOK 8 94 (11, 0, 0, 0) := dX8_init_94
theorem yv_8_95 : yOK 8 95 (13, 1, 0, 0) := ⟨43, dX8_init_95, List.mem_of_getElem? (i := 6) rfl, zw_157, zw_44, zw_158, ⟨by decide +kernel, by decide +kernel, by decide +kernel⟩, rfl, by decide⟩
theorem yv_8_98 : yOK 8 98 (20, 0, 0, 0) := dX8_init_98
theorem yv_8_99 : yOK 8 99 (7, 1, 0, 1) := dX8_init_99
theorem yv_8_102 : yOK 8 102 (8, 80, 0, 0) := ⟨_, dX8_init_102, by decide⟩
theorem yv_8_105 : yOK 8 105 (4, 0, 0, 0) := dX8_init_105
theorem yv_8_106 : yOK 8 106 (2, 1, 0, 0) := ⟨1, rfl, dX8_init_106⟩
theorem yv_8_107 : yOK 8 107 (1, 1, 0, 0) := ⟨1, rfl, dX8_init_107⟩
theorem yv_8_108 : yOK 8 108 (5, 0, 0, 12) := dX8_init_108
theorem yv_8_110 : yOK 8 110 (9, 132, 0, 0) := ⟨_, dX8_init_110, by decide⟩
theorem yv_8_113 : yOK 8 113 (0, 0, 0, 0) := ⟨0, rfl, dX8_init_113⟩
theorem yv_8_114 : yOK 8 114 (17, 8, 2, 0) := ⟨25, dX8_init_114, zf_X8_25⟩
theorem yv_8_117 : yOK 8 117 (1, 1, 0, 0) := ⟨1, rfl, dX8_init_117⟩
theorem yv_8_118 : yOK 8 118 (10, 4, 10, 0) := ⟨23, dX8_init_118, _, _, tyX4, rfl, zin_4, tyX4_ok, fun lo j hj => yd_4 lo j hj, (zmem 77 (by decide +kernel) rfl), (zmem 209 (by decide +kernel) rfl), zw_45⟩
theorem yv_8_121 : yOK 8 121 (11, 0, 0, 0) := dX8_init_121
theorem yv_8_122 : yOK 8 122 (13, 4, 0, 0) := ⟨44, dX8_init_122, List.mem_of_getElem? (i := 7) rfl, zw_211, zw_45, zw_212, ⟨by decide +kernel, by decide +kernel, by decide +kernel⟩, rfl, by decide⟩
theorem yv_8_125 : yOK 8 125 (20, 0, 0, 0) := dX8_init_125
theorem yv_8_126 : yOK 8 126 (7, 1, 0, 1) := dX8_init_126
theorem yv_8_129 : yOK 8 129 (8, 107, 0, 0) := ⟨_, dX8_init_129, by decide⟩
theorem yv_8_132 : yOK 8 132 (4, 0, 0, 0) := dX8_init_132
theorem yv_8_133 : yOK 8 133 (2, 1, 0, 0) := ⟨1, rfl, dX8_init_133⟩
theorem yv_8_134 : yOK 8 134 (1, 1, 0, 0) := ⟨1, rfl, dX8_init_134⟩
theorem yv_8_135 : yOK 8 135 (5, 0, 0, 8) := dX8_init_135
theorem yv_8_137 : yOK 8 137 (9, 159, 0, 0) := ⟨_, dX8_init_137, by decide⟩
theorem yv_8_140 : yOK 8 140 (0, 0, 0, 0) := ⟨0, rfl, dX8_init_140⟩
theorem yv_8_141 : yOK 8 141 (17, 8, 3, 0) := ⟨31, dX8_init_141, zf_X8_31⟩
theorem yv_8_144 : yOK 8 144 (1, 1, 0, 0) := ⟨1, rfl, dX8_init_144⟩
theorem yv_8_145 : yOK 8 145 (10, 2, 6, 0) := ⟨29, dX8_init_145, _, _, tyX2, rfl, zin_2, tyX2_ok, fun lo j hj => yd_2 lo j hj, (zmem 79 (by decide +kernel) rfl), (zmem 262 (by decide +kernel) rfl), zw_46⟩
theorem yv_8_148 : yOK 8 148 (11, 0, 0, 0) := dX8_init_148
theorem yv_8_149 : yOK 8 149 (13, 2, 0, 0) := ⟨45, dX8_init_149, List.mem_of_getElem? (i := 8) rfl, zw_264, zw_46, zw_265, ⟨by decide +kernel, by decide +kernel, by decide +kernel⟩, rfl, by decide⟩
theorem yv_8_152 : yOK 8 152 (20, 0, 0, 0) := dX8_init_152
theorem yv_8_153 : yOK 8 153 (7, 1, 0, 1) := dX8_init_153
theorem yv_8_156 : yOK 8 156 (8, 134, 0, 0) := ⟨_, dX8_init_156, by decide⟩
theorem yv_8_159 : yOK 8 159 (22, 0, 0, 0) := dX8_init_159
theorem yv_8 : ∀ q ∈ yt_8, yOK 8 q.1 q.2 := List.forall_mem_cons.mpr ⟨yv_8_0, List.forall_mem_cons.mpr ⟨yv_8_1, List.forall_mem_cons.mpr ⟨yv_8_4, List.forall_mem_cons.mpr ⟨yv_8_5, List.forall_mem_cons.mpr ⟨yv_8_7, List.forall_mem_cons.mpr ⟨yv_8_10, List.forall_mem_cons.mpr ⟨yv_8_13, List.forall_mem_cons.mpr ⟨yv_8_14, List.forall_mem_cons.mpr ⟨yv_8_16, List.forall_mem_cons.mpr ⟨yv_8_19, List.forall_mem_cons.mpr ⟨yv_8_22, List.forall_mem_cons.mpr ⟨yv_8_23, List.forall_mem_cons.mpr ⟨yv_8_25, List.forall_mem_cons.mpr ⟨yv_8_28, List.forall_mem_cons.mpr ⟨yv_8_31, List.forall_mem_cons.mpr ⟨yv_8_32, List.forall_mem_cons.mpr ⟨yv_8_34, List.forall_mem_cons.mpr ⟨yv_8_37, List.forall_mem_cons.mpr ⟨yv_8_40, List.forall_mem_cons.mpr ⟨yv_8_41, List.forall_mem_cons.mpr ⟨yv_8_44, List.forall_mem_cons.mpr ⟨yv_8_45, List.forall_mem_cons.mpr ⟨yv_8_48, List.forall_mem_cons.mpr ⟨yv_8_51, List.forall_mem_cons.mpr ⟨yv_8_52, List.forall_mem_cons.mpr ⟨yv_8_53, List.forall_mem_cons.mpr ⟨yv_8_54, List.forall_mem_cons.mpr ⟨yv_8_56, List.forall_mem_cons.mpr ⟨yv_8_59, List.forall_mem_cons.mpr ⟨yv_8_60, List.forall_mem_cons.mpr ⟨yv_8_63, List.forall_mem_cons.mpr ⟨yv_8_64, List.forall_mem_cons.mpr ⟨yv_8_67, List.forall_mem_cons.mpr ⟨yv_8_68, List.forall_mem_cons.mpr ⟨yv_8_71, List.forall_mem_cons.mpr ⟨yv_8_72, List.forall_mem_cons.mpr ⟨yv_8_75, List.forall_mem_cons.mpr ⟨yv_8_78, List.forall_mem_cons.mpr ⟨yv_8_79, List.forall_mem_cons.mpr ⟨yv_8_80, List.forall_mem_cons.mpr ⟨yv_8_81, List.forall_mem_cons.mpr ⟨yv_8_83, List.forall_mem_cons.mpr ⟨yv_8_86, List.forall_mem_cons.mpr ⟨yv_8_87, List.forall_mem_cons.mpr ⟨yv_8_90, List.forall_mem_cons.mpr ⟨yv_8_91, List.forall_mem_cons.mpr ⟨yv_8_94, List.forall_mem_cons.mpr ⟨yv_8_95, List.forall_mem_cons.mpr ⟨yv_8_98, List.forall_mem_cons.mpr ⟨yv_8_99, List.forall_mem_cons.mpr ⟨yv_8_102, List.forall_mem_cons.mpr ⟨yv_8_105, List.forall_mem_cons.mpr ⟨yv_8_106, List.forall_mem_cons.mpr ⟨yv_8_107, List.forall_mem_cons.mpr ⟨yv_8_108, List.forall_mem_cons.mpr ⟨yv_8_110, List.forall_mem_cons.mpr ⟨yv_8_113, List.forall_mem_cons.mpr ⟨yv_8_114, List.forall_mem_cons.mpr ⟨yv_8_117, List.forall_mem_cons.mpr ⟨yv_8_118, List.forall_mem_cons.mpr ⟨yv_8_121, List.forall_mem_cons.mpr ⟨yv_8_122, List.forall_mem_cons.mpr ⟨yv_8_125, List.forall_mem_cons.mpr ⟨yv_8_126, List.forall_mem_cons.mpr ⟨yv_8_129, List.forall_mem_cons.mpr ⟨yv_8_132, List.forall_mem_cons.mpr ⟨yv_8_133, List.forall_mem_cons.mpr ⟨yv_8_134, List.forall_mem_cons.mpr ⟨yv_8_135, List.forall_mem_cons.mpr ⟨yv_8_137, List.forall_mem_cons.mpr ⟨yv_8_140, List.forall_mem_cons.mpr ⟨yv_8_141, List.forall_mem_cons.mpr ⟨yv_8_144, List.forall_mem_cons.mpr ⟨yv_8_145, List.forall_mem_cons.mpr ⟨yv_8_148, List.forall_mem_cons.mpr ⟨yv_8_149, List.forall_mem_cons.mpr ⟨yv_8_152, List.forall_mem_cons.mpr ⟨yv_8_153, List.forall_mem_cons.mpr ⟨yv_8_156, List.forall_mem_cons.mpr ⟨yv_8_159, fun _ h => absurd h List.not_mem_nil⟩⟩⟩⟩⟩⟩⟩⟩⟩⟩⟩⟩⟩⟩⟩⟩⟩⟩⟩⟩⟩⟩⟩⟩⟩⟩⟩⟩⟩⟩⟩⟩⟩⟩⟩⟩⟩⟩⟩⟩⟩⟩⟩⟩⟩⟩⟩⟩⟩⟩⟩⟩⟩⟩⟩⟩⟩⟩⟩⟩⟩⟩⟩⟩⟩⟩⟩⟩⟩⟩⟩⟩⟩⟩⟩⟩⟩⟩⟩⟩
def yt_9 : List (Nat × yop) := [(0, (0, 0, 0, 0)), (1, (12, 0, 0, 0)), (4, (10, 8, 9, 0)), (7, (11, 0, 0, 0)), (8, (14, 8, 0, 0)), (11, (3, 1, 0, 0)), (12, (0, 0, 0, 0)), (13, (0, 1, 0, 0)), (14, (16, 9, 0, 0)), (17, (0, 0, 0, 0)), (18, (10, 8, 9, 0)), (21, (11, 0, 0, 0)), (22, (14, 8, 0, 0)), (25, (16, 9, 1, 0)), (28, (0, 0, 0, 0)), (29, (10, 5, 8, 0)), (32, (11, 0, 0, 0)), (33, (0, 1, 0, 0)), (34, (14, 5, 1, 0)), (37, (16, 9, 2, 0)), (40, (0, 0, 0, 0)), (41, (10, 7, 8, 0)), (44, (11, 0, 0, 0)), (45, (14, 7, 0, 0)), (48, (16, 9, 3, 0)), (51, (0, 0, 0, 0)), (52, (4, 0, 0, 4)), (53, (19, 6, 0, 0)), (56, (16, 9, 4, 0)), (59, (4, 0, 0, 0)), (60, (2, 2, 0, 0)), (61, (1, 2, 0, 0)), (62, (4, 0, 0, 4)), (63, (9, 85, 0, 0)), (66, (0, 0, 0, 0)), (67, (17, 9, 4, 0)), (70, (1, 2, 0, 0)), (71, (10, 6, 3, 0)), (74, (11, 0, 0, 0)), (75, (13, 6, 0, 0)), (78, (20, 0, 0, 0)), (79, (7, 2, 0, 1)), (82, (8, 61, 0, 0)), (85, (0, 0, 0, 0)), (86, (4, 0, 0, 0)), (87, (16, 9, 5, 0)), (90, (22, 0, 0, 0))]
theorem yv_9_0 : yOK 9 0 (0, 0, 0, 0) := ⟨0, rfl, dX9_init_0⟩
theorem yv_9_1 : yOK 9 1 (12, 0, 0, 0) := ⟨1, dX9_init_1, (zmem 64 (by decide +kernel) rfl)⟩
theorem yv_9_4 : yOK 9 4 (10, 8, 9, 0) := ⟨7, dX9_init_4, _, _, tyX8, rfl, zin_8, tyX8_ok, fun lo j hj => yd_8 lo j hj, (zmem 67 (by decide +kernel) rfl), (zmem 68 (by decide +kernel) rfl), zw_41⟩
theorem yv_9_7 : yOK 9 7 (11, 0, 0, 0) := dX9_init_7
theorem yv_9_8 : yOK 9 8 (14, 8, 0, 0) := ⟨9, dX9_init_8, zw_69, zw_70, zw_41, zw_71, ⟨by decide +kernel, by decide +kernel, by decide +kernel⟩, rfl, by decide⟩
theorem yv_9_11 : yOK 9 11 (3, 1, 0, 0) := ⟨1, rfl, dX9_init_11⟩
theorem yv_9_12 : yOK 9 12 (0, 0, 0, 0) := ⟨0, rfl, dX9_init_12⟩
theorem yv_9_13 : yOK 9 13 (0, 1, 0, 0) := ⟨1, rfl, dX9_init_13⟩
theorem yv_9_14 : yOK 9 14 (16, 9, 0, 0) := ⟨10, dX9_init_14, zf_X9_10, ⟨_, _, _, tyX9, rfl, tyX9_ok, nmX9, rfl, by decide +kernel⟩, rfl⟩
theorem yv_9_17 : yOK 9 17 (0, 0, 0, 0) := ⟨0, rfl, dX9_init_17⟩
theorem yv_9_18 : yOK 9 18 (10, 8, 9, 0) := ⟨7, dX9_init_18, _, _, tyX8, rfl, zin_8, tyX8_ok, fun lo j hj => yd_8 lo j hj, (zmem 67 (by decide +kernel) rfl), (zmem 68 (by decide +kernel) rfl), zw_41⟩
theorem yv_9_21 : yOK 9 21 (11, 0, 0, 0) := dX9_init_21
theorem yv_9_22 : yOK 9 22 (14, 8, 0, 0) := ⟨9, dX9_init_22, zw_69, zw_70, zw_41, zw_71, ⟨by decide +kernel, by decide +kernel, by decide +kernel⟩, rfl, by decide⟩
theorem yv_9_25 : yOK 9 25 (16, 9, 1, 0) := ⟨16, dX9_init_25, zf_X9_16, ⟨_, _, _, tyX9, rfl, tyX9_ok, nmX9, rfl, by decide +kernel⟩, rfl⟩
theorem yv_9_28 : yOK 9 28 (0, 0, 0, 0) := ⟨0, rfl, dX9_init_28⟩
theorem yv_9_29 : yOK 9 29 (10, 5, 8, 0) := ⟨19, dX9_init_29, _, _, tyX5, rfl, zin_5, tyX5_ok, fun lo j hj => yd_5 lo j hj, (zmem 333 (by decide +kernel) rfl), (zmem 334 (by decide +kernel) rfl), zw_47⟩
theorem yv_9_32 : yOK 9 32 (11, 0, 0, 0) := dX9_init_32
theorem yv_9_33 : yOK 9 33 (0, 1, 0, 0) := ⟨1, rfl, dX9_init_33⟩
theorem yv_9_34 : yOK 9 34 (14, 5, 1, 0) := ⟨21, dX9_init_34, zw_335, zw_336, zw_47, zw_337, ⟨by decide +kernel, by decide +kernel, by decide +kernel⟩, rfl, by decide⟩
theorem yv_9_37 : yOK 9 37 (16, 9, 2, 0) := ⟨24, dX9_init_37, zf_X9_24, ⟨_, _, _, tyX9, rfl, tyX9_ok, nmX9, rfl, by decide +kernel⟩, rfl⟩
theorem yv_9_40 : yOK 9 40 (0, 0, 0, 0) := ⟨0, rfl, dX9_init_40⟩
theorem yv_9_41 : yOK 9 41 (10, 7, 8, 0) := ⟨28, dX9_init_41, _, _, tyX7, rfl, zin_7, tyX7_ok, fun lo j hj => yd_7 lo j hj, (zmem 366 (by decide +kernel) rfl), (zmem 367 (by decide +kernel) rfl), zw_48⟩
theorem yv_9_44 : yOK 9 44 (11, 0, 0, 0) := dX9_init_44
theorem yv_9_45 : yOK 9 45 (14, 7, 0, 0) := ⟨30, dX9_init_45, zw_368, zw_369, zw_48, zw_370, ⟨by decide +kernel, by decide +kernel, by decide +kernel⟩, rfl, by decide⟩
theorem yv_9_48 : yOK 9 48 (16, 9, 3, 0) := ⟨31, dX9_init_48, zf_X9_31, ⟨_, _, _, tyX9, rfl, tyX9_ok, nmX9, rfl, by decide +kernel⟩, rfl⟩
theorem yv_9_51 : yOK 9 51 (0, 0, 0, 0) := ⟨0, rfl, dX9_init_51⟩
theorem yv_9_52 : yOK 9 52 (4, 0, 0, 4) := dX9_init_52
theorem yv_9_53 : yOK 9 53 (19, 6, 0, 0) := ⟨35, dX9_init_53, (zmem 407 (by decide +kernel) rfl), by decide, by decide⟩
theorem yv_9_56 : yOK 9 56 (16, 9, 4, 0) := ⟨37, dX9_init_56, zf_X9_37, ⟨_, _, _, tyX9, rfl, tyX9_ok, nmX9, rfl, by decide +kernel⟩, rfl⟩
theorem yv_9_59 : yOK 9 59 (4, 0, 0, 0) := dX9_init_59
theorem yv_9_60 : yOK 9 60 (2, 2, 0, 0) := ⟨2, rfl, dX9_init_60⟩
theorem yv_9_61 : yOK 9 61 (1, 2, 0, 0) := ⟨2, rfl, dX9_init_61⟩
theorem yv_9_62 : yOK 9 62 (4, 0, 0, 4) := dX9_init_62
theorem yv_9_63 : yOK 9 63 (9, 85, 0, 0) := ⟨_, dX9_init_63, by decide⟩
theorem yv_9_66 : yOK 9 66 (0, 0, 0, 0) := ⟨0, rfl, dX9_init_66⟩
theorem yv_9_67 : yOK 9 67 (17, 9, 4, 0) := ⟨37, dX9_init_67, zf_X9_37⟩
theorem yv_9_70 : yOK 9 70 (1, 2, 0, 0) := ⟨2, rfl, dX9_init_70⟩
theorem yv_9_71 : yOK 9 71 (10, 6, 3, 0) := ⟨35, dX9_init_71, _, _, tyX6, rfl, zin_6, tyX6_ok, fun lo j hj => yd_6 lo j hj, (zmem 407 (by decide +kernel) rfl), (zmem 409 (by decide +kernel) rfl), zw_49⟩
theorem yv_9_74 : yOK 9 74 (11, 0, 0, 0) := dX9_init_74
theorem yv_9_75 : yOK 9 75 (13, 6, 0, 0) := ⟨41, dX9_init_75, List.mem_of_getElem? (i := 0) rfl, zw_411, zw_49, zw_412, ⟨by decide +kernel, by decide +kernel, by decide +kernel⟩, rfl, by decide⟩
theorem yv_9_78 : yOK 9 78 (20, 0, 0, 0) := dX9_init_78
theorem yv_9_79 : yOK 9 79 (7, 2, 0, 1) := dX9_init_79
theorem yv_9_82 : yOK 9 82 (8, 61, 0, 0) := ⟨_, dX9_init_82, by decide⟩
theorem yv_9_85 : yOK 9 85 (0, 0, 0, 0) := ⟨0, rfl, dX9_init_85⟩
theorem yv_9_86 : yOK 9 86 (4, 0, 0, 0) := dX9_init_86
theorem yv_9_87 : yOK 9 87 (16, 9, 5, 0) := ⟨42, dX9_init_87, zf_X9_42, ⟨_, _, _, tyX9, rfl, tyX9_ok, nmX9, rfl, by decide +kernel⟩, rfl⟩
theorem yv_9_90 : yOK 9 90 (22, 0, 0, 0) := dX9_init_90
theorem yv_9 : ∀ q ∈ yt_9, yOK 9 q.1 q.2 := List.forall_mem_cons.mpr ⟨yv_9_0, List.forall_mem_cons.mpr ⟨yv_9_1, List.forall_mem_cons.mpr ⟨yv_9_4, List.forall_mem_cons.mpr ⟨yv_9_7, List.forall_mem_cons.mpr ⟨yv_9_8, List.forall_mem_cons.mpr ⟨yv_9_11, List.forall_mem_cons.mpr ⟨yv_9_12, List.forall_mem_cons.mpr ⟨yv_9_13, List.forall_mem_cons.mpr ⟨yv_9_14, List.forall_mem_cons.mpr ⟨yv_9_17, List.forall_mem_cons.mpr ⟨yv_9_18, List.forall_mem_cons.mpr ⟨yv_9_21, List.forall_mem_cons.mpr ⟨yv_9_22, List.forall_mem_cons.mpr ⟨yv_9_25, List.forall_mem_cons.mpr ⟨yv_9_28, List.forall_mem_cons.mpr ⟨yv_9_29, List.forall_mem_cons.mpr ⟨yv_9_32, List.forall_mem_cons.mpr ⟨yv_9_33, List.forall_mem_cons.mpr ⟨yv_9_34, List.forall_mem_cons.mpr ⟨yv_9_37, List.forall_mem_cons.mpr ⟨yv_9_40, List.forall_mem_cons.mpr ⟨yv_9_41, List.forall_mem_cons.mpr ⟨yv_9_44, List.forall_mem_cons.mpr ⟨yv_9_45, List.forall_mem_cons.mpr ⟨yv_9_48, List.forall_mem_cons.mpr ⟨yv_9_51, List.forall_mem_cons.mpr ⟨yv_9_52, List.forall_mem_cons.mpr ⟨yv_9_53, List.forall_mem_cons.mpr ⟨yv_9_56, List.forall_mem_cons.mpr ⟨yv_9_59, List.forall_mem_cons.mpr ⟨yv_9_60, List.forall_mem_cons.mpr ⟨yv_9_61, List.forall_mem_cons.mpr ⟨yv_9_62, List.forall_mem_cons.mpr ⟨yv_9_63, List.forall_mem_cons.mpr ⟨yv_9_66, List.forall_mem_cons.mpr ⟨yv_9_67, List.forall_mem_cons.mpr ⟨yv_9_70, List.forall_mem_cons.mpr ⟨yv_9_71, List.forall_mem_cons.mpr ⟨yv_9_74, List.forall_mem_cons.mpr ⟨yv_9_75, List.forall_mem_cons.mpr ⟨yv_9_78, List.forall_mem_cons.mpr ⟨yv_9_79, List.forall_mem_cons.mpr ⟨yv_9_82, List.forall_mem_cons.mpr ⟨yv_9_85, List.forall_mem_cons.mpr ⟨yv_9_86, List.forall_mem_cons.mpr ⟨yv_9_87, List.forall_mem_cons.mpr ⟨yv_9_90, fun _ h => absurd h List.not_mem_nil⟩⟩⟩⟩⟩⟩⟩⟩⟩⟩⟩⟩⟩⟩⟩⟩⟩⟩⟩⟩⟩⟩⟩⟩⟩⟩⟩⟩⟩⟩⟩⟩⟩⟩⟩⟩⟩⟩⟩⟩⟩⟩⟩⟩⟩⟩⟩
def yt_10 : List (Nat × yop) := [(0, (0, 0, 0, 0)), (1, (12, 0, 0, 0)), (4, (0, 0, 0, 0)), (5, (6, 0, 0, 144)), (8, (18, 0, 0, 0)), (10, (16, 10, 1, 0)), (13, (0, 0, 0, 0)), (14, (5, 0, 0, 40)), (16, (18, 0, 0, 0)), (18, (16, 10, 3, 0)), (21, (0, 0, 0, 0)), (22, (5, 0, 0, 96)), (24, (18, 0, 0, 0)), (26, (16, 10, 5, 0)), (29, (0, 0, 0, 0)), (30, (5, 0, 0, 24)), (32, (18, 0, 0, 0)), (34, (16, 10, 7, 0)), (37, (0, 0, 0, 0)), (38, (5, 0, 0, 7)), (40, (18, 0, 0, 0)), (42, (16, 10, 8, 0)), (45, (0, 0, 0, 0)), (46, (5, 0, 0, 12)), (48, (18, 0, 0, 0)), (50, (16, 10, 9, 0)), (53, (0, 0, 0, 0)), (54, (6, 0, 0, 21504)), (57, (18, 0, 0, 0)), (59, (16, 10, 10, 0)), (62, (0, 0, 0, 0)), (63, (6, 0, 0, 21504)), (66, (18, 0, 0, 0)), (68, (16, 10, 11, 0)), (71, (0, 0, 0, 0)), (72, (6, 0, 0, 21504)), (75, (18, 0, 0, 0)), (77, (16, 10, 12, 0)), (80, (0, 0, 0, 0)), (81, (5, 0, 0, 12)), (83, (18, 0, 0, 0)), (85, (16, 10, 14, 0)), (88, (0, 0, 0, 0)), (89, (5, 0, 0, 120)), (91, (18, 0, 0, 0)), (93, (16, 10, 15, 0)), (96, (0, 0, 0, 0)), (97, (5, 0, 0, 72)), (99, (18, 0, 0, 0)), (101, (16, 10, 19, 0)), (104, (0, 0, 0, 0)), (105, (5, 0, 0, 96)), (107, (18, 0, 0, 0)), (109, (16, 10, 21, 0)), (112, (0, 0, 0, 0)), (113, (6, 0, 0, 320)), (116, (18, 0, 0, 0)), (118, (16, 10, 23, 0)), (121, (0, 0, 0, 0)), (122, (4, 0, 0, 4)), (123, (18, 0, 0, 0)), (125, (16, 10, 25, 0)), (128, (0, 0, 0, 0)), (129, (4, 0, 0, 4)), (130, (18, 0, 0, 0)), (132, (16, 10, 26, 0)), (135, (0, 0, 0, 0)), (136, (4, 0, 0, 4)), (137, (18, 0, 0, 0)), (139, (16, 10, 27, 0)), (142, (0, 0, 0, 0)), (143, (5, 0, 0, 64)), (145, (18, 0, 0, 0)), (147, (16, 10, 28, 0)), (150, (4, 0, 0, 0)), (151, (2, 1, 0, 0)), (152, (1, 1, 0, 0)), (153, (4, 0, 0, 4)), (154, (9, 170, 0, 0)), (157, (0, 0, 0, 0)), (158, (17, 10, 26, 0)), (161, (1, 1, 0, 0)), (162, (4, 0, 0, -1)), (163, (21, 0, 0, 0)), (164, (7, 1, 0, 1)), (167, (8, 152, 0, 0)), (170, (0, 0, 0, 0)), (171, (15, 11, 0, 0)), (174, (22, 0, 0, 0))]
theorem yv_10_0 : yOK 10 0 (0, 0, 0, 0) := ⟨0, rfl, dX10_init_0⟩
theorem yv_10_1 : yOK 10 1 (12, 0, 0, 0) := ⟨1, dX10_init_1, (zmem 1023 (by decide +kernel) rfl)⟩
theorem yv_10_4 : yOK 10 4 (0, 0, 0, 0) := ⟨0, rfl, dX10_init_4⟩
theorem yv_10_5 : yOK 10 5 (6, 0, 0, 144) := dX10_init_5
theorem yv_10_8 : yOK 10 8 (18, 0, 0, 0) := ⟨.int, dX10_init_8, (zmem 208 (by decide +kernel) rfl), rfl, by decide⟩
theorem yv_10_10 : yOK 10 10 (16, 10, 1, 0) := ⟨7, dX10_init_10, zf_X10_7, ⟨_, _, _, tyX10, rfl, tyX10_ok, nmX10, rfl, by decide +kernel⟩, rfl⟩
theorem yv_10_13 : yOK 10 13 (0, 0, 0, 0) := ⟨0, rfl, dX10_init_13⟩
theorem yv_10_14 : yOK 10 14 (5, 0, 0, 40) := dX10_init_14
theorem yv_10_16 : yOK 10 16 (18, 0, 0, 0) := ⟨.int, dX10_init_16, (zmem 208 (by decide +kernel) rfl), rfl, by decide⟩
theorem yv_10_18 : yOK 10 18 (16, 10, 3, 0) := ⟨13, dX10_init_18, zf_X10_13, ⟨_, _, _, tyX10, rfl, tyX10_ok, nmX10, rfl, by decide +kernel⟩, rfl⟩
theorem yv_10_21 : yOK 10 21 (0, 0, 0, 0) := ⟨0, rfl, dX10_init_21⟩
theorem yv_10_22 : yOK 10 22 (5, 0, 0, 96) := dX10_init_22
theorem yv_10_24 : yOK 10 24 (18, 0, 0, 0) := ⟨.int, dX10_init_24, (zmem 208 (by decide +kernel) rfl), rfl, by decide⟩
theorem yv_10_26 : yOK 10 26 (16, 10, 5, 0) := ⟨16, dX10_init_26, zf_X10_16, ⟨_, _, _, tyX10, rfl, tyX10_ok, nmX10, rfl, by decide +kernel⟩, rfl⟩
theorem yv_10_29 : yOK 10 29 (0, 0, 0, 0) := ⟨0, rfl, dX10_init_29⟩
theorem yv_10_30 : yOK 10 30 (5, 0, 0, 24) := dX10_init_30
theorem yv_10_32 : yOK 10 32 (18, 0, 0, 0) := ⟨.int, dX10_init_32, (zmem 208 (by decide +kernel) rfl), rfl, by decide⟩
theorem yv_10_34 : yOK 10 34 (16, 10, 7, 0) := ⟨19, dX10_init_34, zf_X10_19, ⟨_, _, _, tyX10, rfl, tyX10_ok, nmX10, rfl, by decide +kernel⟩, rfl⟩
theorem yv_10_37 : yOK 10 37 (0, 0, 0, 0) := ⟨0, rfl, dX10_init_37⟩
theorem yv_10_38 : yOK 10 38 (5, 0, 0, 7) := dX10_init_38
theorem yv_10_40 : yOK 10 40 (18, 0, 0, 0) := ⟨.int, dX10_init_40, (zmem 208 (by decide +kernel) rfl), rfl, by decide⟩
theorem yv_10_42 : yOK 10 42 (16, 10, 8, 0) := ⟨22, dX10_init_42, zf_X10_22, ⟨_, _, _, tyX10, rfl, tyX10_ok, nmX10, rfl, by decide +kernel⟩, rfl⟩
theorem yv_10_45 : yOK 10 45 (0, 0, 0, 0) := ⟨0, rfl, dX10_init_45⟩
theorem yv_10_46 : yOK 10 46 (5, 0, 0, 12) := dX10_init_46
theorem yv_10_48 : yOK 10 48 (18, 0, 0, 0) := ⟨.int, dX10_init_48, (zmem 208 (by decide +kernel) rfl), rfl, by decide⟩
theorem yv_10_50 : yOK 10 50 (16, 10, 9, 0) := ⟨25, dX10_init_50, zf_X10_25, ⟨_, _, _, tyX10, rfl, tyX10_ok, nmX10, rfl, by decide +kernel⟩, rfl⟩
theorem yv_10_53 : yOK 10 53 (0, 0, 0, 0) := ⟨0, rfl, dX10_init_53⟩
theorem yv_10_54 : yOK 10 54 (6, 0, 0, 21504) := dX10_init_54
theorem yv_10_57 : yOK 10 57 (18, 0, 0, 0) := ⟨.int, dX10_init_57, (zmem 208 (by decide +kernel) rfl), rfl, by decide⟩
theorem yv_10_59 : yOK 10 59 (16, 10, 10, 0) := ⟨28, dX10_init_59, zf_X10_28, ⟨_, _, _, tyX10, rfl, tyX10_ok, nmX10, rfl, by decide +kernel⟩, rfl⟩
theorem yv_10_62 : yOK 10 62 (0, 0, 0, 0) := ⟨0, rfl, dX10_init_62⟩
theorem yv_10_63 : yOK 10 63 (6, 0, 0, 21504) := dX10_init_63
theorem yv_10_66 : yOK 10 66 (18, 0, 0, 0) := ⟨.int, dX10_init_66, (zmem 208 (by decide +kernel) rfl), rfl, by decide⟩
theorem yv_10_68 : yOK 10 68 (16, 10, 11, 0) := ⟨31, dX10_init_68, zf_X10_31, ⟨_, _, _, tyX10, rfl, tyX10_ok, nmX10, rfl, by decide +kernel⟩, rfl⟩
theorem yv_10_71 : yOK 10 71 (0, 0, 0, 0) := ⟨0, rfl, dX10_init_71⟩
theorem yv_10_72 : yOK 10 72 (6, 0, 0, 21504) := dX10_init_72
theorem yv_10_75 : yOK 10 75 (18, 0, 0, 0) := ⟨.int, dX10_init_75, (zmem 208 (by decide +kernel) rfl), rfl, by decide⟩
theorem yv_10_77 : yOK 10 77 (16, 10, 12, 0) := ⟨34, dX10_init_77, zf_X10_34, ⟨_, _, _, tyX10, rfl, tyX10_ok, nmX10, rfl, by decide +kernel⟩, rfl⟩
theorem yv_10_80 : yOK 10 80 (0, 0, 0, 0) := ⟨0, rfl, dX10_init_80⟩
theorem yv_10_81 : yOK 10 81 (5, 0, 0, 12) := dX10_init_81
theorem yv_10_83 : yOK 10 83 (18, 0, 0, 0) := ⟨.int, dX10_init_83, (zmem 208 (by decide +kernel) rfl), rfl, by decide⟩
theorem yv_10_85 : yOK 10 85 (16, 10, 14, 0) := ⟨37, dX10_init_85, zf_X10_37, ⟨_, _, _, tyX10, rfl, tyX10_ok, nmX10, rfl, by decide +kernel⟩, rfl⟩
theorem yv_10_88 : yOK 10 88 (0, 0, 0, 0) := ⟨0, rfl, dX10_init_88⟩
theorem yv_10_89 : yOK 10 89 (5, 0, 0, 120) := dX10_init_89
theorem yv_10_91 : yOK 10 91 (18, 0, 0, 0) := ⟨.int, dX10_init_91, (zmem 208 (by decide +kernel) rfl), rfl, by decide⟩
theorem yv_10_93 : yOK 10 93 (16, 10, 15, 0) := ⟨40, dX10_init_93, zf_X10_40, ⟨_, _, _, tyX10, rfl, tyX10_ok, nmX10, rfl, by decide +kernel⟩, rfl⟩
theorem yv_10_96 : yOK 10 96 (0, 0, 0, 0) := ⟨0, rfl, dX10_init_96⟩
theorem yv_10_97 : yOK 10 97 (5, 0, 0, 72) := dX10_init_97
theorem yv_10_99 : yOK 10 99 (18, 0, 0, 0) := ⟨.int, dX10_init_99, (zmem 208 (by decide +kernel) rfl), rfl, by decide⟩
theorem yv_10_101 : yOK 10 101 (16, 10, 19, 0) := ⟨43, dX10_init_101, zf_X10_43, ⟨_, _, _, tyX10, rfl, tyX10_ok, nmX10, rfl, by decide +kernel⟩, rfl⟩
theorem yv_10_104 : yOK 10 104 (0, 0, 0, 0) := ⟨0, rfl, dX10_init_104⟩
theorem yv_10_105 : yOK 10 105 (5, 0, 0, 96) := dX10_init_105
theorem yv_10_107 : yOK 10 107 (18, 0, 0, 0) := ⟨.int, dX10_init_107, (zmem 208 (by decide +kernel) rfl), rfl, by decide⟩
theorem yv_10_109 : yOK 10 109 (16, 10, 21, 0) := ⟨46, dX10_init_109, zf_X10_46, ⟨_, _, _, tyX10, rfl, tyX10_ok, nmX10, rfl, by decide +kernel⟩, rfl⟩
theorem yv_10_112 : yOK 10 112 (0, 0, 0, 0) := ⟨0, rfl, dX10_init_112⟩
theorem yv_10_113 : yOK 10 113 (6, 0, 0, 320) := dX10_init_113
theorem yv_10_116 : yOK 10 116 (18, 0, 0, 0) := ⟨.int, dX10_init_116, (zmem 208 (by decide +kernel) rfl), rfl, by decide⟩
theorem yv_10_118 : yOK 10 118 (16, 10, 23, 0) := ⟨49, dX10_init_118, zf_X10_49, ⟨_, _, _, tyX10, rfl, tyX10_ok, nmX10, rfl, by decide +kernel⟩, rfl⟩
theorem yv_10_121 : yOK 10 121 (0, 0, 0, 0) := ⟨0, rfl, dX10_init_121⟩
theorem yv_10_122 : yOK 10 122 (4, 0, 0, 4) := dX10_init_122
theorem yv_10_123 : yOK 10 123 (18, 0, 0, 0) := ⟨.int, dX10_init_123, (zmem 208 (by decide +kernel) rfl), rfl, by decide⟩
theorem yv_10_125 : yOK 10 125 (16, 10, 25, 0) := ⟨52, dX10_init_125, zf_X10_52, ⟨_, _, _, tyX10, rfl, tyX10_ok, nmX10, rfl, by decide +kernel⟩, rfl⟩
theorem yv_10_128 : yOK 10 128 (0, 0, 0, 0) := ⟨0, rfl, dX10_init_128⟩
theorem yv_10_129 : yOK 10 129 (4, 0, 0, 4) := dX10_init_129
theorem yv_10_130 : yOK 10 130 (18, 0, 0, 0) := ⟨.int, dX10_init_130, (zmem 208 (by decide +kernel) rfl), rfl, by decide⟩
theorem yv_10_132 : yOK 10 132 (16, 10, 26, 0) := ⟨55, dX10_init_132, zf_X10_55, ⟨_, _, _, tyX10, rfl, tyX10_ok, nmX10, rfl, by decide +kernel⟩, rfl⟩
theorem yv_10_135 : yOK 10 135 (0, 0, 0, 0) := ⟨0, rfl, dX10_init_135⟩
theorem yv_10_136 : yOK 10 136 (4, 0, 0, 4) := dX10_init_136
theorem yv_10_137 : yOK 10 137 (18, 0, 0, 0) := ⟨.int, dX10_init_137, (zmem 208 (by decide +kernel) rfl), rfl, by decide⟩
theorem yv_10_139 : yOK 10 139 (16, 10, 27, 0) := ⟨58, dX10_init_139, zf_X10_58, ⟨_, _, _, tyX10, rfl, tyX10_ok, nmX10, rfl, by decide +kernel⟩, rfl⟩
theorem yv_10_142 : yOK 10 142 (0, 0, 0, 0) := ⟨0, rfl, dX10_init_142⟩
theorem yv_10_143 : yOK 10 143 (5, 0, 0, 64) := dX10_init_143
theorem yv_10_145 : yOK 10 145 (18, 0, 0, 0) := ⟨.int, dX10_init_145, (zmem 208 (by decide +kernel) rfl), rfl, by decide⟩
theorem yv_10_147 : yOK 10 147 (16, 10, 28, 0) := ⟨61, dX10_init_147, zf_X10_61, ⟨_, _, _, tyX10, rfl, tyX10_ok, nmX10, rfl, by decide +kernel⟩, rfl⟩
theorem yv_10_150 : yOK 10 150 (4, 0, 0, 0) := dX10_init_150
theorem yv_10_151 : yOK 10 151 (2, 1, 0, 0) := ⟨1, rfl, dX10_init_151⟩
theorem yv_10_152 : yOK 10 152 (1, 1, 0, 0) := ⟨1, rfl, dX10_init_152⟩
theorem yv_10_153 : yOK 10 153 (4, 0, 0, 4) := dX10_init_153
theorem yv_10_154 : yOK 10 154 (9, 170, 0, 0) := ⟨_, dX10_init_154, by decide⟩
theorem yv_10_157 : yOK 10 157 (0, 0, 0, 0) := ⟨0, rfl, dX10_init_157⟩
theorem yv_10_158 : yOK 10 158 (17, 10, 26, 0) := ⟨55, dX10_init_158, zf_X10_55⟩
theorem yv_10_161 : yOK 10 161 (1, 1, 0, 0) := ⟨1, rfl, dX10_init_161⟩
theorem yv_10_162 : yOK 10 162 (4, 0, 0, -1) := dX10_init_162
theorem yv_10_163 : yOK 10 163 (21, 0, 0, 0) := dX10_init_163
theorem yv_10_164 : yOK 10 164 (7, 1, 0, 1) := dX10_init_164
theorem yv_10_167 : yOK 10 167 (8, 152, 0, 0) := ⟨_, dX10_init_167, by decide⟩
theorem yv_10_170 : yOK 10 170 (0, 0, 0, 0) := ⟨0, rfl, dX10_init_170⟩
theorem yv_10_171 : yOK 10 171 (15, 11, 0, 0) := ⟨64, dX10_init_171, zk_X10_64, rfl⟩
theorem yv_10_174 : yOK 10 174 (22, 0, 0, 0) := dX10_init_174
theorem yv_10 : ∀ q ∈ yt_10, yOK 10 q.1 q.2 := List.forall_mem_cons.mpr ⟨yv_10_0, List.forall_mem_cons.mpr ⟨yv_10_1, List.forall_mem_cons.mpr ⟨yv_10_4, List.forall_mem_cons.mpr ⟨yv_10_5, List.forall_mem_cons.mpr ⟨yv_10_8, List.forall_mem_cons.mpr ⟨yv_10_10, List.forall_mem_cons.mpr ⟨yv_10_13, List.forall_mem_cons.mpr ⟨yv_10_14, List.forall_mem_cons.mpr ⟨yv_10_16, List.forall_mem_cons.mpr ⟨yv_10_18, List.forall_mem_cons.mpr ⟨yv_10_21, List.forall_mem_cons.mpr ⟨yv_10_22, List.forall_mem_cons.mpr ⟨yv_10_24, List.forall_mem_cons.mpr ⟨yv_10_26, List.forall_mem_cons.mpr ⟨yv_10_29, List.forall_mem_cons.mpr ⟨yv_10_30, List.forall_mem_cons.mpr ⟨yv_10_32, List.forall_mem_cons.mpr ⟨yv_10_34, List.forall_mem_cons.mpr ⟨yv_10_37, List.forall_mem_cons.mpr ⟨yv_10_38, List.forall_mem_cons.mpr ⟨yv_10_40, List.forall_mem_cons.mpr ⟨yv_10_42, List.forall_mem_cons.mpr ⟨yv_10_45, List.forall_mem_cons.mpr ⟨yv_10_46, List.forall_mem_cons.mpr ⟨yv_10_48, List.forall_mem_cons.mpr ⟨yv_10_50, List.forall_mem_cons.mpr ⟨yv_10_53, List.forall_mem_cons.mpr ⟨yv_10_54, List.forall_mem_cons.mpr ⟨yv_10_57, List.forall_mem_cons.mpr ⟨yv_10_59, List.forall_mem_cons.mpr ⟨yv_10_62, List.forall_mem_cons.mpr ⟨yv_10_63, List.forall_mem_cons.mpr ⟨yv_10_66, List.forall_mem_cons.mpr ⟨yv_10_68, List.forall_mem_cons.mpr ⟨yv_10_71, List.forall_mem_cons.mpr ⟨yv_10_72, List.forall_mem_cons.mpr ⟨yv_10_75, List.forall_mem_cons.mpr ⟨yv_10_77, List.forall_mem_cons.mpr ⟨yv_10_80, List.forall_mem_cons.mpr ⟨yv_10_81, List.forall_mem_cons.mpr ⟨yv_10_83, List.forall_mem_cons.mpr ⟨yv_10_85, List.forall_mem_cons.mpr ⟨yv_10_88, List.forall_mem_cons.mpr ⟨yv_10_89, List.forall_mem_cons.mpr ⟨yv_10_91, List.forall_mem_cons.mpr ⟨yv_10_93, List.forall_mem_cons.mpr ⟨yv_10_96, List.forall_mem_cons.mpr ⟨yv_10_97, List.forall_mem_cons.mpr ⟨yv_10_99, List.forall_mem_cons.mpr ⟨yv_10_101, List.forall_mem_cons.mpr ⟨yv_10_104, List.forall_mem_cons.mpr ⟨yv_10_105, List.forall_mem_cons.mpr ⟨yv_10_107, List.forall_mem_cons.mpr ⟨yv_10_109, List.forall_mem_cons.mpr ⟨yv_10_112, List.forall_mem_cons.mpr ⟨yv_10_113, List.forall_mem_cons.mpr ⟨yv_10_116, List.forall_mem_cons.mpr ⟨yv_10_118, List.forall_mem_cons.mpr ⟨yv_10_121, List.forall_mem_cons.mpr ⟨yv_10_122, List.forall_mem_cons.mpr ⟨yv_10_123, List.forall_mem_cons.mpr ⟨yv_10_125, List.forall_mem_cons.mpr ⟨yv_10_128, List.forall_mem_cons.mpr ⟨yv_10_129, List.forall_mem_cons.mpr ⟨yv_10_130, List.forall_mem_cons.mpr ⟨yv_10_132, List.forall_mem_cons.mpr ⟨yv_10_135, List.forall_mem_cons.mpr ⟨yv_10_136, List.forall_mem_cons.mpr ⟨yv_10_137, List.forall_mem_cons.mpr ⟨yv_10_139, List.forall_mem_cons.mpr ⟨yv_10_142, List.forall_mem_cons.mpr ⟨yv_10_143, List.forall_mem_cons.mpr ⟨yv_10_145, List.forall_mem_cons.mpr ⟨yv_10_147, List.forall_mem_cons.mpr ⟨yv_10_150, List.forall_mem_cons.mpr ⟨yv_10_151, List.forall_mem_cons.mpr ⟨yv_10_152, List.forall_mem_cons.mpr ⟨yv_10_153, List.forall_mem_cons.mpr ⟨yv_10_154, List.forall_mem_cons.mpr ⟨yv_10_157, List.forall_mem_cons.mpr ⟨yv_10_158, List.forall_mem_cons.mpr ⟨yv_10_161, List.forall_mem_cons.mpr ⟨yv_10_162, List.forall_mem_cons.mpr ⟨yv_10_163, List.forall_mem_cons.mpr ⟨yv_10_164, List.forall_mem_cons.mpr ⟨yv_10_167, List.forall_mem_cons.mpr ⟨yv_10_170, List.forall_mem_cons.mpr ⟨yv_10_171, List.forall_mem_cons.mpr ⟨yv_10_174, fun _ h => absurd h List.not_mem_nil⟩⟩⟩⟩⟩⟩⟩⟩⟩⟩⟩⟩⟩⟩⟩⟩⟩⟩⟩⟩⟩⟩⟩⟩⟩⟩⟩⟩⟩⟩⟩⟩⟩⟩⟩⟩⟩⟩⟩⟩⟩⟩⟩⟩⟩⟩⟩⟩⟩⟩⟩⟩⟩⟩⟩⟩⟩⟩⟩⟩⟩⟩⟩⟩⟩⟩⟩⟩⟩⟩⟩⟩⟩⟩⟩⟩⟩⟩⟩⟩⟩⟩⟩⟩⟩⟩⟩⟩⟩
def yt_11 : List (Nat × yop) := [(0, (0, 0, 0, 0)), (1, (17, 10, 8, 0)), (4, (4, 0, 0, 3)), (5, (4, 0, 0, 0)), (6, (21, 0, 0, 0)), (7, (0, 0, 0, 0)), (8, (17, 10, 8, 0)), (11, (4, 0, 0, 4)), (12, (5, 0, 0, -4)), (14, (21, 0, 0, 0)), (15, (0, 0, 0, 0)), (16, (17, 10, 8, 0)), (19, (4, 0, 0, 5)), (20, (6, 0, 0, 255)), (23, (21, 0, 0, 0)), (24, (22, 0, 0, 0))]
theorem yv_11_0 : yOK 11 0 (0, 0, 0, 0) := ⟨0, rfl, dX10_free_0⟩
theorem yv_11_1 : yOK 11 1 (17, 10, 8, 0) := ⟨22, dX10_free_1, zf_X10_22⟩
theorem yv_11_4 : yOK 11 4 (4, 0, 0, 3) := dX10_free_4
theorem yv_11_5 : yOK 11 5 (4, 0, 0, 0) := dX10_free_5
theorem yv_11_6 : yOK 11 6 (21, 0, 0, 0) := dX10_free_6
theorem yv_11_7 : yOK 11 7 (0, 0, 0, 0) := ⟨0, rfl, dX10_free_7⟩
theorem yv_11_8 : yOK 11 8 (17, 10, 8, 0) := ⟨22, dX10_free_8, zf_X10_22⟩
theorem yv_11_11 : yOK 11 11 (4, 0, 0, 4) := dX10_free_11
theorem yv_11_12 : yOK 11 12 (5, 0, 0, -4) := dX10_free_12
theorem yv_11_14 : yOK 11 14 (21, 0, 0, 0) := dX10_free_14
theorem yv_11_15 : yOK 11 15 (0, 0, 0, 0) := ⟨0, rfl, dX10_free_15⟩
theorem yv_11_16 : yOK 11 16 (17, 10, 8, 0) := ⟨22, dX10_free_16, zf_X10_22⟩
theorem yv_11_19 : yOK 11 19 (4, 0, 0, 5) := dX10_free_19
theorem yv_11_20 : yOK 11 20 (6, 0, 0, 255) := dX10_free_20
theorem yv_11_23 : yOK 11 23 (21, 0, 0, 0) := dX10_free_23
theorem yv_11_24 : yOK 11 24 (22, 0, 0, 0) := dX10_free_24
theorem yv_11 : ∀ q ∈ yt_11, yOK 11 q.1 q.2 := List.forall_mem_cons.mpr ⟨yv_11_0, List.forall_mem_cons.mpr ⟨yv_11_1, List.forall_mem_cons.mpr ⟨yv_11_4, List.forall_mem_cons.mpr ⟨yv_11_5, List.forall_mem_cons.mpr ⟨yv_11_6, List.forall_mem_cons.mpr ⟨yv_11_7, List.forall_mem_cons.mpr ⟨yv_11_8, List.forall_mem_cons.mpr ⟨yv_11_11, List.forall_mem_cons.mpr ⟨yv_11_12, List.forall_mem_cons.mpr ⟨yv_11_14, List.forall_mem_cons.mpr ⟨yv_11_15, List.forall_mem_cons.mpr ⟨yv_11_16, List.forall_mem_cons.mpr ⟨yv_11_19, List.forall_mem_cons.mpr ⟨yv_11_20, List.forall_mem_cons.mpr ⟨yv_11_23, List.forall_mem_cons.mpr ⟨yv_11_24, fun _ h => absurd h List.not_mem_nil⟩⟩⟩⟩⟩⟩⟩⟩⟩⟩⟩⟩⟩⟩⟩⟩
def yTb : Nat → List (Nat × yop)
  | 0 => yt_0
  | 1 => yt_1
  | 2 => yt_2
  | 3 => yt_3
  | 4 => yt_4
  | 5 => yt_5
  | 6 => yt_6
  | 7 => yt_7
  | 8 => yt_8
  | 9 => yt_9
  | 10 => yt_10
  | 11 => yt_11
  | _ => []
theorem yv_all (mi : Nat) : ∀ q ∈ yTb mi, yOK mi q.1 q.2 := by
  match mi with
  | 0 => exact yv_0
  | 1 => exact yv_1
  | 2 => exact yv_2
  | 3 => exact yv_3
  | 4 => exact yv_4
  | 5 => exact yv_5
  | 6 => exact yv_6
  | 7 => exact yv_7
  | 8 => exact yv_8
  | 9 => exact yv_9
  | 10 => exact yv_10
  | 11 => exact yv_11
  | n + 12 => intro q hq; cases hq
def yfetch : List (Nat × yop) → Nat → Option yop
  | [], _ => none
  | q :: r, pc => if q.1 = pc then some q.2 else yfetch r pc
theorem yfetch_ok : ∀ (l : List (Nat × yop)) (pc : Nat) (q : yop), yfetch l pc = some q → (pc, q) ∈ l
  | [], pc, q, h => by simp [yfetch] at h
  | x :: r, pc, q, h => by
    unfold yfetch at h
    by_cases hx : x.1 = pc
    · rw [if_pos hx] at h
      cases h
      subst hx
      exact List.mem_cons_self
    · rw [if_neg hx] at h
      exact List.mem_cons_of_mem _ (yfetch_ok r pc q h)
abbrev yst : Type := Nat × Nat × Nat × List (Option zV) × List zV × List yCell
/-- one instruction that calls nothing -/
def ystp (mi : Nat) (cl sl pc : Nat) (L : List (Option zV)) (st : List zV) (hp : List yCell) : yop → Option yst
  | (0, k, _, _) => match L[k]? with
    | some (some (.inr (.inr x))) => some (cl, sl, pc + 1, L, zr x.1 x.2 :: st, hp)
    | _ => none
  | (1, k, _, _) => match L[k]? with
    | some (some (.inl x)) => some (cl, sl, pc + 1, L, zi x :: st, hp)
    | _ => none
  | (2, k, _, _) => match st with
    | .inl x :: r => if k < yNL mi ∧ zno L k = true then some (cl, sl, pc + 1, L.set k (some (zi x)), r, hp) else none
    | _ => none
  | (3, k, _, _) => match st with
    | .inr (.inr x) :: r => if k < yNL mi ∧ zno L k = true then some (cl, sl, pc + 1, L.set k (some (zr x.1 x.2)), r, hp) else none
    | _ => none
  | (4, _, _, v) => some (cl, sl, pc + 1, L, zi (Int32.ofInt v) :: st, hp)
  | (5, _, _, v) => some (cl, sl, pc + 2, L, zi ((Int8.ofInt v).toInt32) :: st, hp)
  | (6, _, _, v) => some (cl, sl, pc + 3, L, zi ((Int16.ofInt v).toInt32) :: st, hp)
  | (7, k, _, v) => match L[k]? with
    | some (some (.inl x)) => if k < yNL mi ∧ zno L k = true then some (cl, sl, pc + 3, L.set k (some (zi (x + Int32.ofInt v))), st, hp) else none
    | _ => none
  | (8, t, _, _) => some (cl, sl, t, L, st, hp)
  | (9, t, _, _) => match st with
    | .inl y :: .inl x :: r => if y ≤ x then some (cl, sl, t, L, r, hp) else some (cl, sl, pc + 3, L, r, hp)
    | _ => none
  | (10, ci, N, _) => if cl + 1 ≤ ymc mi ∧ sl + N ≤ yms mi then some (cl + 1, sl + N, pc + 3, L, zr 0 hp.length :: st, hp ++ [.inl (ci, ydef ci)]) else none
  | (11, _, _, _) => match st with
    | .inr (.inr x) :: r => some (cl, sl, pc + 1, L, zr x.1 x.2 :: zr x.1 x.2 :: r, hp)
    | _ => none
  | (12, _, _, _) => match st with
    | .inr (.inr (0, _)) :: r => if zsz r ≤ 8 then some (cl, sl, pc + 3, L, r, hp) else none
    | _ => none
  | (16, ci, j, _) => match st with
    | v :: .inr (.inr (0, a)) :: r => match hp[a]? with
      | some (.inl (c2, fs)) => if c2 = ci ∧ yfit (ytyf ci j) v = true ∧ j < fs.length then some (cl, sl, pc + 3, L, r, hp.set a (.inl (ci, fs.set j (yval v)))) else none
      | _ => none
    | _ => none
  | (17, ci, j, _) => match st with
    | .inr (.inr (0, a)) :: r => match hp[a]? with
      | some (.inl (c2, fs)) => match fs[j]? with
        | some (.inr (some b)) => if c2 = ci then some (cl, sl, pc + 3, L, zr 0 b :: r, hp) else none
        | _ => none
      | _ => none
    | _ => none
  | (18, t, _, _) => match st with
    | .inl n :: r => if ¬ n < 0 ∧ n.toNatClampNeg * 4 ≤ 536870912 ∧ cl + 1 ≤ ymc mi ∧ sl + n.toNatClampNeg ≤ yms mi then some (cl + 1, sl + n.toNatClampNeg, pc + 2, L, zr 0 hp.length :: r, hp ++ [.inr (t, n.toNatClampNeg, [])]) else none
    | _ => none
  | (19, t, _, _) => match st with
    | .inl n :: r => if ¬ n < 0 ∧ n.toNatClampNeg * 4 ≤ 536870912 ∧ cl + 1 ≤ ymc mi ∧ sl + n.toNatClampNeg ≤ yms mi then some (cl + 1, sl + n.toNatClampNeg, pc + 3, L, zr 0 hp.length :: r, hp ++ [.inr (t, n.toNatClampNeg, [])]) else none
    | _ => none
  | (20, _, _, _) => match st with
    | .inr (.inr (0, v)) :: .inl i :: .inr (.inr (0, a)) :: r => match hp[a]?, hp[v]? with
      | some (.inr (t, len, w)), some (.inl (ci, _)) => if (2 ≤ t ∧ t < 7) ∧ ci = yoc t ∧ ¬ (i < 0 ∨ len ≤ i.toNatClampNeg) then some (cl, sl, pc + 1, L, r, hp.set a (.inr (t, len, (i.toNatClampNeg, .inr v) :: w))) else none
      | _, _ => none
    | _ => none
  | (21, _, _, _) => match st with
    | .inl x :: .inl i :: .inr (.inr (0, a)) :: r => match hp[a]? with
      | some (.inr (0, len, w)) => if ¬ (i < 0 ∨ len ≤ i.toNatClampNeg) then some (cl, sl, pc + 1, L, r, hp.set a (.inr (0, len, (i.toNatClampNeg, .inl x) :: w))) else none
      | _ => none
    | _ => none
  | _ => none
theorem yoc_ok {t : Nat} (h : 2 ≤ t ∧ t < 7) : (vwCl[yoc t]?).map (fun q => q.1) = some (zOb t) := by
  rcases (show t = 2 ∨ t = 3 ∨ t = 4 ∨ t = 5 ∨ t = 6 by omega) with rfl | rfl | rfl | rfl | rfl <;> rfl
