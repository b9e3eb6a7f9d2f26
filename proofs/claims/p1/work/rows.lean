section
-- ===== PART A: goes FIRST, ahead of the names: the tables' words, and 'selects' of the private methods out of them =====
/-- a private method of a class that the tables say can be made, by its rows of tables_1 -/
def lw_okq (q : MethodName × Nat) : Prop := (q.1.cls ≠ "java/lang/invoke/MethodHandle" ∧ q.1.cls ≠ "java/lang/invoke/VarHandle") ∧ Cond.instantiable q.1.cls q.2 ∈ tables_1 ∧ Cond.privateMethod q.1 ∈ tables_1 ∧ Cond.instanceMethod q.1 ∈ tables_1
theorem lw_p0 : lw_okq (⟨"SentRoads", "addPaper", "(IIIII)I"⟩, 6) := ⟨⟨by decide +kernel, by decide +kernel⟩, List.mem_of_getElem? (i := 21) (by decide +kernel), List.mem_of_getElem? (i := 463) (by decide +kernel), List.mem_of_getElem? (i := 464) (by decide +kernel)⟩
theorem lw_p1 : lw_okq (⟨"SentRoads", "isPaper", "(I)Z"⟩, 6) := ⟨⟨by decide +kernel, by decide +kernel⟩, List.mem_of_getElem? (i := 21) (by decide +kernel), List.mem_of_getElem? (i := 677) (by decide +kernel), List.mem_of_getElem? (i := 678) (by decide +kernel)⟩
theorem lw_p2 : lw_okq (⟨"SentRoads", "isDeed", "(I)Z"⟩, 6) := ⟨⟨by decide +kernel, by decide +kernel⟩, List.mem_of_getElem? (i := 21) (by decide +kernel), List.mem_of_getElem? (i := 689) (by decide +kernel), List.mem_of_getElem? (i := 690) (by decide +kernel)⟩
theorem lw_p3 : lw_okq (⟨"SentRoadsModel", "free", "()V"⟩, 29) := ⟨⟨by decide +kernel, by decide +kernel⟩, List.mem_of_getElem? (i := 980) (by decide +kernel), List.mem_of_getElem? (i := 986) (by decide +kernel), List.mem_of_getElem? (i := 987) (by decide +kernel)⟩
theorem lw_p4 : lw_okq (⟨"SentRoadsModel", "addCrime", "(IIIIII)V"⟩, 29) := ⟨⟨by decide +kernel, by decide +kernel⟩, List.mem_of_getElem? (i := 980) (by decide +kernel), List.mem_of_getElem? (i := 1091) (by decide +kernel), List.mem_of_getElem? (i := 1092) (by decide +kernel)⟩
theorem lw_p5 : lw_okq (⟨"SentRoadsModel", "addPaper", "(IIIIIIII)I"⟩, 29) := ⟨⟨by decide +kernel, by decide +kernel⟩, List.mem_of_getElem? (i := 980) (by decide +kernel), List.mem_of_getElem? (i := 1109) (by decide +kernel), List.mem_of_getElem? (i := 1110) (by decide +kernel)⟩
theorem lw_p6 : lw_okq (⟨"SentRoadsModel", "isPaper", "(I)Z"⟩, 29) := ⟨⟨by decide +kernel, by decide +kernel⟩, List.mem_of_getElem? (i := 980) (by decide +kernel), List.mem_of_getElem? (i := 1129) (by decide +kernel), List.mem_of_getElem? (i := 1130) (by decide +kernel)⟩
theorem lw_p7 : lw_okq (⟨"SentRoadsModel", "isDeed", "(I)Z"⟩, 29) := ⟨⟨by decide +kernel, by decide +kernel⟩, List.mem_of_getElem? (i := 980) (by decide +kernel), List.mem_of_getElem? (i := 1141) (by decide +kernel), List.mem_of_getElem? (i := 1142) (by decide +kernel)⟩
theorem lw_p8 : lw_okq (⟨"SentRoadsModel", "crimesOf", "(II)I"⟩, 29) := ⟨⟨by decide +kernel, by decide +kernel⟩, List.mem_of_getElem? (i := 980) (by decide +kernel), List.mem_of_getElem? (i := 1145) (by decide +kernel), List.mem_of_getElem? (i := 1146) (by decide +kernel)⟩
theorem lw_p9 : lw_okq (⟨"SentRoadsModel", "areCrime", "(II)Z"⟩, 29) := ⟨⟨by decide +kernel, by decide +kernel⟩, List.mem_of_getElem? (i := 980) (by decide +kernel), List.mem_of_getElem? (i := 1149) (by decide +kernel), List.mem_of_getElem? (i := 1150) (by decide +kernel)⟩
theorem lw_p10 : lw_okq (⟨"SentRoadsModel", "yearsFor", "(II)I"⟩, 29) := ⟨⟨by decide +kernel, by decide +kernel⟩, List.mem_of_getElem? (i := 980) (by decide +kernel), List.mem_of_getElem? (i := 1157) (by decide +kernel), List.mem_of_getElem? (i := 1158) (by decide +kernel)⟩
theorem lw_p11 : lw_okq (⟨"SentRoadsModel", "allDeeds", "()I"⟩, 29) := ⟨⟨by decide +kernel, by decide +kernel⟩, List.mem_of_getElem? (i := 980) (by decide +kernel), List.mem_of_getElem? (i := 1178) (by decide +kernel), List.mem_of_getElem? (i := 1179) (by decide +kernel)⟩
theorem lw_p12 : lw_okq (⟨"SentRoadsModel", "isCovered", "(II)Z"⟩, 29) := ⟨⟨by decide +kernel, by decide +kernel⟩, List.mem_of_getElem? (i := 980) (by decide +kernel), List.mem_of_getElem? (i := 1186) (by decide +kernel), List.mem_of_getElem? (i := 1187) (by decide +kernel)⟩
theorem lw_p13 : lw_okq (⟨"SentRoadsModel", "standing", "(II)I"⟩, 29) := ⟨⟨by decide +kernel, by decide +kernel⟩, List.mem_of_getElem? (i := 980) (by decide +kernel), List.mem_of_getElem? (i := 1194) (by decide +kernel), List.mem_of_getElem? (i := 1195) (by decide +kernel)⟩
theorem lw_p14 : lw_okq (⟨"SentRoadsModel", "isDeadly", "(II)Z"⟩, 29) := ⟨⟨by decide +kernel, by decide +kernel⟩, List.mem_of_getElem? (i := 980) (by decide +kernel), List.mem_of_getElem? (i := 1198) (by decide +kernel), List.mem_of_getElem? (i := 1199) (by decide +kernel)⟩
theorem lw_p15 : lw_okq (⟨"SentRoadsModel", "findOpen", "()V"⟩, 29) := ⟨⟨by decide +kernel, by decide +kernel⟩, List.mem_of_getElem? (i := 980) (by decide +kernel), List.mem_of_getElem? (i := 1206) (by decide +kernel), List.mem_of_getElem? (i := 1207) (by decide +kernel)⟩
def lw_privs_1 : List (MethodName × Nat) := [(⟨"SentRoads", "addPaper", "(IIIII)I"⟩, 6), (⟨"SentRoads", "isPaper", "(I)Z"⟩, 6), (⟨"SentRoads", "isDeed", "(I)Z"⟩, 6), (⟨"SentRoadsModel", "free", "()V"⟩, 29), (⟨"SentRoadsModel", "addCrime", "(IIIIII)V"⟩, 29), (⟨"SentRoadsModel", "addPaper", "(IIIIIIII)I"⟩, 29), (⟨"SentRoadsModel", "isPaper", "(I)Z"⟩, 29), (⟨"SentRoadsModel", "isDeed", "(I)Z"⟩, 29), (⟨"SentRoadsModel", "crimesOf", "(II)I"⟩, 29), (⟨"SentRoadsModel", "areCrime", "(II)Z"⟩, 29), (⟨"SentRoadsModel", "yearsFor", "(II)I"⟩, 29), (⟨"SentRoadsModel", "allDeeds", "()I"⟩, 29), (⟨"SentRoadsModel", "isCovered", "(II)Z"⟩, 29), (⟨"SentRoadsModel", "standing", "(II)I"⟩, 29), (⟨"SentRoadsModel", "isDeadly", "(II)Z"⟩, 29), (⟨"SentRoadsModel", "findOpen", "()V"⟩, 29)]
theorem lw_r1 : ∀ q ∈ lw_privs_1, lw_okq q := List.forall_mem_cons.mpr ⟨lw_p0, List.forall_mem_cons.mpr ⟨lw_p1, List.forall_mem_cons.mpr ⟨lw_p2, List.forall_mem_cons.mpr ⟨lw_p3, List.forall_mem_cons.mpr ⟨lw_p4, List.forall_mem_cons.mpr ⟨lw_p5, List.forall_mem_cons.mpr ⟨lw_p6, List.forall_mem_cons.mpr ⟨lw_p7, List.forall_mem_cons.mpr ⟨lw_p8, List.forall_mem_cons.mpr ⟨lw_p9, List.forall_mem_cons.mpr ⟨lw_p10, List.forall_mem_cons.mpr ⟨lw_p11, List.forall_mem_cons.mpr ⟨lw_p12, List.forall_mem_cons.mpr ⟨lw_p13, List.forall_mem_cons.mpr ⟨lw_p14, List.forall_mem_cons.mpr ⟨lw_p15, fun _ h => absurd h List.not_mem_nil⟩⟩⟩⟩⟩⟩⟩⟩⟩⟩⟩⟩⟩⟩⟩⟩
theorem lw_p16 : lw_okq (⟨"SentRoadsModel", "goesNow", "(I)I"⟩, 29) := ⟨⟨by decide +kernel, by decide +kernel⟩, List.mem_of_getElem? (i := 980) (by decide +kernel), List.mem_of_getElem? (i := 1210) (by decide +kernel), List.mem_of_getElem? (i := 1211) (by decide +kernel)⟩
theorem lw_p17 : lw_okq (⟨"SentRoadsModel", "goes", "(IIIII)I"⟩, 29) := ⟨⟨by decide +kernel, by decide +kernel⟩, List.mem_of_getElem? (i := 980) (by decide +kernel), List.mem_of_getElem? (i := 1214) (by decide +kernel), List.mem_of_getElem? (i := 1215) (by decide +kernel)⟩
theorem lw_p18 : lw_okq (⟨"SentRoadsModel", "mayGo", "(IIIII)Z"⟩, 29) := ⟨⟨by decide +kernel, by decide +kernel⟩, List.mem_of_getElem? (i := 980) (by decide +kernel), List.mem_of_getElem? (i := 1218) (by decide +kernel), List.mem_of_getElem? (i := 1219) (by decide +kernel)⟩
theorem lw_p19 : lw_okq (⟨"SentRoadsModel", "triedAt", "(II)I"⟩, 29) := ⟨⟨by decide +kernel, by decide +kernel⟩, List.mem_of_getElem? (i := 980) (by decide +kernel), List.mem_of_getElem? (i := 1231) (by decide +kernel), List.mem_of_getElem? (i := 1232) (by decide +kernel)⟩
theorem lw_p20 : lw_okq (⟨"SentRoadsModel", "isTried", "(III)Z"⟩, 29) := ⟨⟨by decide +kernel, by decide +kernel⟩, List.mem_of_getElem? (i := 980) (by decide +kernel), List.mem_of_getElem? (i := 1235) (by decide +kernel), List.mem_of_getElem? (i := 1236) (by decide +kernel)⟩
theorem lw_p21 : lw_okq (⟨"SentRoadsModel", "findStates", "()V"⟩, 29) := ⟨⟨by decide +kernel, by decide +kernel⟩, List.mem_of_getElem? (i := 980) (by decide +kernel), List.mem_of_getElem? (i := 1243) (by decide +kernel), List.mem_of_getElem? (i := 1244) (by decide +kernel)⟩
theorem lw_p22 : lw_okq (⟨"SentRoadsModel", "codeOf", "(IIII)I"⟩, 29) := ⟨⟨by decide +kernel, by decide +kernel⟩, List.mem_of_getElem? (i := 980) (by decide +kernel), List.mem_of_getElem? (i := 1247) (by decide +kernel), List.mem_of_getElem? (i := 1248) (by decide +kernel)⟩
theorem lw_p23 : lw_okq (⟨"SentRoadsModel", "come", "(III)V"⟩, 29) := ⟨⟨by decide +kernel, by decide +kernel⟩, List.mem_of_getElem? (i := 980) (by decide +kernel), List.mem_of_getElem? (i := 1251) (by decide +kernel), List.mem_of_getElem? (i := 1252) (by decide +kernel)⟩
theorem lw_p24 : lw_okq (⟨"SentRoadsModel", "standsFor", "(I)I"⟩, 29) := ⟨⟨by decide +kernel, by decide +kernel⟩, List.mem_of_getElem? (i := 980) (by decide +kernel), List.mem_of_getElem? (i := 1271) (by decide +kernel), List.mem_of_getElem? (i := 1272) (by decide +kernel)⟩
theorem lw_p25 : lw_okq (⟨"SentRoadsModel", "isAhead", "(II)Z"⟩, 29) := ⟨⟨by decide +kernel, by decide +kernel⟩, List.mem_of_getElem? (i := 980) (by decide +kernel), List.mem_of_getElem? (i := 1275) (by decide +kernel), List.mem_of_getElem? (i := 1276) (by decide +kernel)⟩
theorem lw_p26 : lw_okq (⟨"SentRoadsModel", "greatestYears", "(I)I"⟩, 29) := ⟨⟨by decide +kernel, by decide +kernel⟩, List.mem_of_getElem? (i := 980) (by decide +kernel), List.mem_of_getElem? (i := 1279) (by decide +kernel), List.mem_of_getElem? (i := 1280) (by decide +kernel)⟩
theorem lw_p27 : lw_okq (⟨"SentRoadsModel", "wasThere", "(I)I"⟩, 29) := ⟨⟨by decide +kernel, by decide +kernel⟩, List.mem_of_getElem? (i := 980) (by decide +kernel), List.mem_of_getElem? (i := 1283) (by decide +kernel), List.mem_of_getElem? (i := 1284) (by decide +kernel)⟩
theorem lw_p28 : lw_okq (⟨"SentRoadsModel", "canFollow", "(IIIII)Z"⟩, 29) := ⟨⟨by decide +kernel, by decide +kernel⟩, List.mem_of_getElem? (i := 980) (by decide +kernel), List.mem_of_getElem? (i := 1298) (by decide +kernel), List.mem_of_getElem? (i := 1299) (by decide +kernel)⟩
theorem lw_p29 : lw_okq (⟨"SentRoadsModel", "readWorld", "()Z"⟩, 29) := ⟨⟨by decide +kernel, by decide +kernel⟩, List.mem_of_getElem? (i := 980) (by decide +kernel), List.mem_of_getElem? (i := 1318) (by decide +kernel), List.mem_of_getElem? (i := 1319) (by decide +kernel)⟩
theorem lw_p30 : lw_okq (⟨"SentRoadsModel", "next", "()I"⟩, 29) := ⟨⟨by decide +kernel, by decide +kernel⟩, List.mem_of_getElem? (i := 980) (by decide +kernel), List.mem_of_getElem? (i := 1322) (by decide +kernel), List.mem_of_getElem? (i := 1323) (by decide +kernel)⟩
theorem lw_p31 : lw_okq (⟨"SentRoadsModel", "takes", "(I)Z"⟩, 29) := ⟨⟨by decide +kernel, by decide +kernel⟩, List.mem_of_getElem? (i := 980) (by decide +kernel), List.mem_of_getElem? (i := 1326) (by decide +kernel), List.mem_of_getElem? (i := 1327) (by decide +kernel)⟩
def lw_privs_2 : List (MethodName × Nat) := [(⟨"SentRoadsModel", "goesNow", "(I)I"⟩, 29), (⟨"SentRoadsModel", "goes", "(IIIII)I"⟩, 29), (⟨"SentRoadsModel", "mayGo", "(IIIII)Z"⟩, 29), (⟨"SentRoadsModel", "triedAt", "(II)I"⟩, 29), (⟨"SentRoadsModel", "isTried", "(III)Z"⟩, 29), (⟨"SentRoadsModel", "findStates", "()V"⟩, 29), (⟨"SentRoadsModel", "codeOf", "(IIII)I"⟩, 29), (⟨"SentRoadsModel", "come", "(III)V"⟩, 29), (⟨"SentRoadsModel", "standsFor", "(I)I"⟩, 29), (⟨"SentRoadsModel", "isAhead", "(II)Z"⟩, 29), (⟨"SentRoadsModel", "greatestYears", "(I)I"⟩, 29), (⟨"SentRoadsModel", "wasThere", "(I)I"⟩, 29), (⟨"SentRoadsModel", "canFollow", "(IIIII)Z"⟩, 29), (⟨"SentRoadsModel", "readWorld", "()Z"⟩, 29), (⟨"SentRoadsModel", "next", "()I"⟩, 29), (⟨"SentRoadsModel", "takes", "(I)Z"⟩, 29)]
theorem lw_r2 : ∀ q ∈ lw_privs_2, lw_okq q := List.forall_mem_cons.mpr ⟨lw_p16, List.forall_mem_cons.mpr ⟨lw_p17, List.forall_mem_cons.mpr ⟨lw_p18, List.forall_mem_cons.mpr ⟨lw_p19, List.forall_mem_cons.mpr ⟨lw_p20, List.forall_mem_cons.mpr ⟨lw_p21, List.forall_mem_cons.mpr ⟨lw_p22, List.forall_mem_cons.mpr ⟨lw_p23, List.forall_mem_cons.mpr ⟨lw_p24, List.forall_mem_cons.mpr ⟨lw_p25, List.forall_mem_cons.mpr ⟨lw_p26, List.forall_mem_cons.mpr ⟨lw_p27, List.forall_mem_cons.mpr ⟨lw_p28, List.forall_mem_cons.mpr ⟨lw_p29, List.forall_mem_cons.mpr ⟨lw_p30, List.forall_mem_cons.mpr ⟨lw_p31, fun _ h => absurd h List.not_mem_nil⟩⟩⟩⟩⟩⟩⟩⟩⟩⟩⟩⟩⟩⟩⟩⟩
theorem lw_p32 : lw_okq (⟨"SentRoadsModel", "readCrime", "(I)Z"⟩, 29) := ⟨⟨by decide +kernel, by decide +kernel⟩, List.mem_of_getElem? (i := 980) (by decide +kernel), List.mem_of_getElem? (i := 1330) (by decide +kernel), List.mem_of_getElem? (i := 1331) (by decide +kernel)⟩
theorem lw_p33 : lw_okq (⟨"SentRoadsModel", "readMarks", "(I)I"⟩, 29) := ⟨⟨by decide +kernel, by decide +kernel⟩, List.mem_of_getElem? (i := 980) (by decide +kernel), List.mem_of_getElem? (i := 1334) (by decide +kernel), List.mem_of_getElem? (i := 1335) (by decide +kernel)⟩
theorem lw_p34 : lw_okq (⟨"SentRoadsModel", "readNumber", "(II)I"⟩, 29) := ⟨⟨by decide +kernel, by decide +kernel⟩, List.mem_of_getElem? (i := 980) (by decide +kernel), List.mem_of_getElem? (i := 1338) (by decide +kernel), List.mem_of_getElem? (i := 1339) (by decide +kernel)⟩
theorem lw_p35 : lw_okq (⟨"SentRoadsModel", "readPaper", "(I)Z"⟩, 29) := ⟨⟨by decide +kernel, by decide +kernel⟩, List.mem_of_getElem? (i := 980) (by decide +kernel), List.mem_of_getElem? (i := 1344) (by decide +kernel), List.mem_of_getElem? (i := 1345) (by decide +kernel)⟩
theorem lw_p36 : lw_okq (⟨"SentRoadsModel", "keep", "([I)V"⟩, 29) := ⟨⟨by decide +kernel, by decide +kernel⟩, List.mem_of_getElem? (i := 980) (by decide +kernel), List.mem_of_getElem? (i := 1358) (by decide +kernel), List.mem_of_getElem? (i := 1359) (by decide +kernel)⟩
theorem lw_p37 : lw_okq (⟨"SentRoadsModel", "bring", "([I)V"⟩, 29) := ⟨⟨by decide +kernel, by decide +kernel⟩, List.mem_of_getElem? (i := 980) (by decide +kernel), List.mem_of_getElem? (i := 1366) (by decide +kernel), List.mem_of_getElem? (i := 1367) (by decide +kernel)⟩
theorem lw_p38 : lw_okq (⟨"SentRoadsModel", "lacksRow", "(IIII)I"⟩, 29) := ⟨⟨by decide +kernel, by decide +kernel⟩, List.mem_of_getElem? (i := 980) (by decide +kernel), List.mem_of_getElem? (i := 1386) (by decide +kernel), List.mem_of_getElem? (i := 1387) (by decide +kernel)⟩
def lw_privs_3 : List (MethodName × Nat) := [(⟨"SentRoadsModel", "readCrime", "(I)Z"⟩, 29), (⟨"SentRoadsModel", "readMarks", "(I)I"⟩, 29), (⟨"SentRoadsModel", "readNumber", "(II)I"⟩, 29), (⟨"SentRoadsModel", "readPaper", "(I)Z"⟩, 29), (⟨"SentRoadsModel", "keep", "([I)V"⟩, 29), (⟨"SentRoadsModel", "bring", "([I)V"⟩, 29), (⟨"SentRoadsModel", "lacksRow", "(IIII)I"⟩, 29)]
theorem lw_r3 : ∀ q ∈ lw_privs_3, lw_okq q := List.forall_mem_cons.mpr ⟨lw_p32, List.forall_mem_cons.mpr ⟨lw_p33, List.forall_mem_cons.mpr ⟨lw_p34, List.forall_mem_cons.mpr ⟨lw_p35, List.forall_mem_cons.mpr ⟨lw_p36, List.forall_mem_cons.mpr ⟨lw_p37, List.forall_mem_cons.mpr ⟨lw_p38, fun _ h => absurd h List.not_mem_nil⟩⟩⟩⟩⟩⟩⟩
def lw_privs : List (MethodName × Nat) := lw_privs_1 ++ (lw_privs_2 ++ (lw_privs_3))
def lw_tbl : List Cond := k2_sels lw_privs ++ tables_1
theorem lw_privs_ok : ∀ q ∈ lw_privs, lw_okq q := by
  show ∀ q ∈ lw_privs_1 ++ (lw_privs_2 ++ (lw_privs_3)), lw_okq q
  exact List.forall_mem_append.mpr ⟨lw_r1, List.forall_mem_append.mpr ⟨lw_r2, lw_r3⟩⟩
end
section
def RX0 : String := "SentRoads$Crime"
def TX0 : u_T := fun k => match k with
  | 0 => ("SentRoads$Crime", "land", "I", false)
  | 1 => ("SentRoads$Crime", "must", "I", false)
  | 2 => ("SentRoads$Crime", "but", "I", false)
  | 3 => ("SentRoads$Crime", "least", "I", false)
  | 4 => ("SentRoads$Crime", "most", "I", false)
  | _ => ("SentRoads$Crime", "death", "Z", false)
def tyX0 : Nat → FieldType := fun k => match k with
  | 0 => .int
  | 1 => .int
  | 2 => .int
  | 3 => .int
  | 4 => .int
  | _ => .boolean
theorem nmX0 : ∀ a, a < 6 → ∀ b, b < 6 → a ≠ b → (TX0 a).2.1 ≠ (TX0 b).2.1 := by decide +kernel
theorem tyX0_ok : ∀ k, k < 6 → parseFieldDescriptor (TX0 k).2.2.1 = some (tyX0 k) := by decide +kernel
abbrev cX0_init : ByteArray := prog_2_method_1_code
def yX0_init : MethodName := ⟨RX0, "<init>", "()V"⟩
abbrev cX0_tell : ByteArray := prog_2_method_2_code
def yX0_tell : MethodName := ⟨RX0, "tell", "(IIIIIZ)V"⟩
abbrev cX0_copy : ByteArray := prog_2_method_3_code
def yX0_copy : MethodName := ⟨RX0, "copy", "(LSentRoads$Crime;)V"⟩
abbrev cX0_isMarks : ByteArray := prog_2_method_4_code
def yX0_isMarks : MethodName := ⟨RX0, "isMarks", "(I)Z"⟩
def RX1 : String := "SentRoads$Deed"
def TX1 : u_T := fun k => match k with
  | 0 => ("SentRoads$Deed", "charged", "I", false)
  | 1 => ("SentRoads$Deed", "shown", "I", false)
  | 2 => ("SentRoads$Deed", "land", "I", false)
  | 3 => ("SentRoads$Deed", "year", "I", false)
  | 4 => ("SentRoads$Deed", "judged", "Z", false)
  | 5 => ("SentRoads$Deed", "chargedCrimes", "I", false)
  | 6 => ("SentRoads$Deed", "shownCrimes", "I", false)
  | 7 => ("SentRoads$Deed", "deadlyLands", "I", false)
  | 8 => ("SentRoads$Deed", "chargedYears", "[I", true)
  | _ => ("SentRoads$Deed", "shownYears", "[I", true)
def tyX1 : Nat → FieldType := fun k => match k with
  | 0 => .int
  | 1 => .int
  | 2 => .int
  | 3 => .int
  | 4 => .boolean
  | 5 => .int
  | 6 => .int
  | 7 => .int
  | 8 => .array .int
  | _ => .array .int
theorem nmX1 : ∀ a, a < 10 → ∀ b, b < 10 → a ≠ b → (TX1 a).2.1 ≠ (TX1 b).2.1 := by decide +kernel
theorem tyX1_ok : ∀ k, k < 10 → parseFieldDescriptor (TX1 k).2.2.1 = some (tyX1 k) := by decide +kernel
abbrev cX1_init : ByteArray := prog_3_method_1_code
def yX1_init : MethodName := ⟨RX1, "<init>", "()V"⟩
abbrev cX1_tell : ByteArray := prog_3_method_2_code
def yX1_tell : MethodName := ⟨RX1, "tell", "(IIII)V"⟩
abbrev cX1_copy : ByteArray := prog_3_method_3_code
def yX1_copy : MethodName := ⟨RX1, "copy", "(LSentRoads$Deed;)V"⟩
abbrev cX1_forget : ByteArray := prog_3_method_4_code
def yX1_forget : MethodName := ⟨RX1, "forget", "()V"⟩
abbrev cX1_learn : ByteArray := prog_3_method_5_code
def yX1_learn : MethodName := ⟨RX1, "learn", "(ILSentRoads$Crime;)V"⟩
abbrev cX1_isDeadly : ByteArray := prog_3_method_6_code
def yX1_isDeadly : MethodName := ⟨RX1, "isDeadly", "(I)Z"⟩
abbrev cX1_isCrime : ByteArray := prog_3_method_7_code
def yX1_isCrime : MethodName := ⟨RX1, "isCrime", "(I)Z"⟩
def RX2 : String := "SentRoads$Demand"
def TX2 : u_T := fun k => match k with
  | 0 => ("SentRoads$Demand", "land", "I", false)
  | 1 => ("SentRoads$Demand", "deeds", "I", false)
  | 2 => ("SentRoads$Demand", "day", "I", false)
  | 3 => ("SentRoads$Demand", "standing", "I", false)
  | 4 => ("SentRoads$Demand", "years", "I", false)
  | _ => ("SentRoads$Demand", "home", "Z", false)
def tyX2 : Nat → FieldType := fun k => match k with
  | 0 => .int
  | 1 => .int
  | 2 => .int
  | 3 => .int
  | 4 => .int
  | _ => .boolean
theorem nmX2 : ∀ a, a < 6 → ∀ b, b < 6 → a ≠ b → (TX2 a).2.1 ≠ (TX2 b).2.1 := by decide +kernel
theorem tyX2_ok : ∀ k, k < 6 → parseFieldDescriptor (TX2 k).2.2.1 = some (tyX2 k) := by decide +kernel
abbrev cX2_init : ByteArray := prog_4_method_1_code
def yX2_init : MethodName := ⟨RX2, "<init>", "()V"⟩
abbrev cX2_tell : ByteArray := prog_4_method_2_code
def yX2_tell : MethodName := ⟨RX2, "tell", "(III)V"⟩
abbrev cX2_order : ByteArray := prog_4_method_3_code
def yX2_order : MethodName := ⟨RX2, "order", "(LSentRoads$Demand;)I"⟩
def RX3 : String := "SentRoads$Man"
def TX3 : u_T := fun k => match k with
  | 0 => ("SentRoads$Man", "of", "I", false)
  | 1 => ("SentRoads$Man", "at", "I", false)
  | 2 => ("SentRoads$Man", "year", "I", false)
  | 3 => ("SentRoads$Man", "sent", "I", false)
  | 4 => ("SentRoads$Man", "noDeath", "Z", false)
  | 5 => ("SentRoads$Man", "onlyTo", "I", false)
  | _ => ("SentRoads$Man", "deeds", "I", false)
def tyX3 : Nat → FieldType := fun k => match k with
  | 0 => .int
  | 1 => .int
  | 2 => .int
  | 3 => .int
  | 4 => .boolean
  | 5 => .int
  | _ => .int
theorem nmX3 : ∀ a, a < 7 → ∀ b, b < 7 → a ≠ b → (TX3 a).2.1 ≠ (TX3 b).2.1 := by decide +kernel
theorem tyX3_ok : ∀ k, k < 7 → parseFieldDescriptor (TX3 k).2.2.1 = some (tyX3 k) := by decide +kernel
abbrev cX3_init : ByteArray := prog_5_method_1_code
def yX3_init : MethodName := ⟨RX3, "<init>", "()V"⟩
abbrev cX3_sit : ByteArray := prog_5_method_2_code
def yX3_sit : MethodName := ⟨RX3, "sit", "(I)V"⟩
abbrev cX3_stand : ByteArray := prog_5_method_3_code
def yX3_stand : MethodName := ⟨RX3, "stand", "(LSentRoads$Man;)V"⟩
abbrev cX3_copy : ByteArray := prog_5_method_4_code
def yX3_copy : MethodName := ⟨RX3, "copy", "(LSentRoads$Man;)V"⟩
abbrev cX3_goesBy : ByteArray := prog_5_method_5_code
def yX3_goesBy : MethodName := ⟨RX3, "goesBy", "(LSentRoads$Paper;)I"⟩
abbrev cX3_go : ByteArray := prog_5_method_6_code
def yX3_go : MethodName := ⟨RX3, "go", "(LSentRoads$Paper;I)V"⟩
def RX4 : String := "SentRoads$Paper"
def TX4 : u_T := fun k => match k with
  | 0 => ("SentRoads$Paper", "kind", "I", false)
  | 1 => ("SentRoads$Paper", "from", "I", false)
  | 2 => ("SentRoads$Paper", "to", "I", false)
  | 3 => ("SentRoads$Paper", "n", "I", false)
  | 4 => ("SentRoads$Paper", "crimes", "I", false)
  | 5 => ("SentRoads$Paper", "bars", "I", false)
  | 6 => ("SentRoads$Paper", "age", "I", false)
  | 7 => ("SentRoads$Paper", "promised", "I", false)
  | 8 => ("SentRoads$Paper", "open", "I", false)
  | _ => ("SentRoads$Paper", "deadly", "I", false)
def tyX4 : Nat → FieldType := fun k => match k with
  | 0 => .int
  | 1 => .int
  | 2 => .int
  | 3 => .int
  | 4 => .int
  | 5 => .int
  | 6 => .int
  | 7 => .int
  | 8 => .int
  | _ => .int
theorem nmX4 : ∀ a, a < 10 → ∀ b, b < 10 → a ≠ b → (TX4 a).2.1 ≠ (TX4 b).2.1 := by decide +kernel
theorem tyX4_ok : ∀ k, k < 10 → parseFieldDescriptor (TX4 k).2.2.1 = some (tyX4 k) := by decide +kernel
abbrev cX4_init : ByteArray := prog_6_method_1_code
def yX4_init : MethodName := ⟨RX4, "<init>", "()V"⟩
abbrev cX4_lead : ByteArray := prog_6_method_2_code
def yX4_lead : MethodName := ⟨RX4, "lead", "(II)V"⟩
abbrev cX4_become : ByteArray := prog_6_method_3_code
def yX4_become : MethodName := ⟨RX4, "become", "(III)V"⟩
abbrev cX4_rule : ByteArray := prog_6_method_4_code
def yX4_rule : MethodName := ⟨RX4, "rule", "(III)V"⟩
abbrev cX4_copy : ByteArray := prog_6_method_5_code
def yX4_copy : MethodName := ⟨RX4, "copy", "(LSentRoads$Paper;)V"⟩
abbrev cX4_pledges : ByteArray := prog_6_method_6_code
def yX4_pledges : MethodName := ⟨RX4, "pledges", "(I)Z"⟩
abbrev cX4_isFor : ByteArray := prog_6_method_7_code
def yX4_isFor : MethodName := ⟨RX4, "isFor", "(LSentRoads$Deed;)Z"⟩
def RX5 : String := "SentRoads$Roads"
def TX5 : u_T := fun k => match k with
  | 0 => ("SentRoads$Roads", "world", "LSentRoads$World;", true)
  | 1 => ("SentRoads$Roads", "walker", "LSentRoads$Man;", true)
  | 2 => ("SentRoads$Roads", "seenIn", "[I", true)
  | 3 => ("SentRoads$Roads", "steps", "[I", true)
  | 4 => ("SentRoads$Roads", "comesFrom", "[I", true)
  | 5 => ("SentRoads$Roads", "fewest", "[I", true)
  | 6 => ("SentRoads$Roads", "stepCount", "I", false)
  | _ => ("SentRoads$Roads", "search", "I", false)
def tyX5 : Nat → FieldType := fun k => match k with
  | 0 => .object "SentRoads$World"
  | 1 => .object "SentRoads$Man"
  | 2 => .array .int
  | 3 => .array .int
  | 4 => .array .int
  | 5 => .array .int
  | 6 => .int
  | _ => .int
theorem nmX5 : ∀ a, a < 8 → ∀ b, b < 8 → a ≠ b → (TX5 a).2.1 ≠ (TX5 b).2.1 := by decide +kernel
theorem tyX5_ok : ∀ k, k < 8 → parseFieldDescriptor (TX5 k).2.2.1 = some (tyX5 k) := by decide +kernel
abbrev cX5_init : ByteArray := prog_7_method_1_code
def yX5_init : MethodName := ⟨RX5, "<init>", "(LSentRoads$World;)V"⟩
abbrev cX5_find : ByteArray := prog_7_method_2_code
def yX5_find : MethodName := ⟨RX5, "find", "(II)I"⟩
abbrev cX5_reach : ByteArray := prog_7_method_3_code
def yX5_reach : MethodName := ⟨RX5, "reach", "()I"⟩
abbrev cX5_begin : ByteArray := prog_7_method_4_code
def yX5_begin : MethodName := ⟨RX5, "begin", "()V"⟩
abbrev cX5_placeWalker : ByteArray := prog_7_method_5_code
def yX5_placeWalker : MethodName := ⟨RX5, "placeWalker", "(I)V"⟩
abbrev cX5_spread : ByteArray := prog_7_method_6_code
def yX5_spread : MethodName := ⟨RX5, "spread", "(I)V"⟩
abbrev cX5_lengthTo : ByteArray := prog_7_method_7_code
def yX5_lengthTo : MethodName := ⟨RX5, "lengthTo", "(I)I"⟩
abbrev cX5_paperOn : ByteArray := prog_7_method_8_code
def yX5_paperOn : MethodName := ⟨RX5, "paperOn", "(II)I"⟩
abbrev cX5_safeLands : ByteArray := prog_7_method_9_code
def yX5_safeLands : MethodName := ⟨RX5, "safeLands", "(Z)I"⟩
abbrev cX5_fewestBars : ByteArray := prog_7_method_10_code
def yX5_fewestBars : MethodName := ⟨RX5, "fewestBars", "(II)I"⟩
abbrev cX5_relax : ByteArray := prog_7_method_11_code
def yX5_relax : MethodName := ⟨RX5, "relax", "(II)Z"⟩
def RX6 : String := "SentRoads$Sheet"
def TX6 : u_T := fun k => match k with
  | 0 => ("SentRoads$Sheet", "items", "[I", true)
  | 1 => ("SentRoads$Sheet", "lane", "I", false)
  | _ => ("SentRoads$Sheet", "size", "I", false)
def tyX6 : Nat → FieldType := fun k => match k with
  | 0 => .array .int
  | 1 => .int
  | _ => .int
theorem nmX6 : ∀ a, a < 3 → ∀ b, b < 3 → a ≠ b → (TX6 a).2.1 ≠ (TX6 b).2.1 := by decide +kernel
theorem tyX6_ok : ∀ k, k < 3 → parseFieldDescriptor (TX6 k).2.2.1 = some (tyX6 k) := by decide +kernel
abbrev cX6_init : ByteArray := prog_8_method_1_code
def yX6_init : MethodName := ⟨RX6, "<init>", "()V"⟩
abbrev cX6_begin : ByteArray := prog_8_method_2_code
def yX6_begin : MethodName := ⟨RX6, "begin", "(II)V"⟩
abbrev cX6_refuse : ByteArray := prog_8_method_3_code
def yX6_refuse : MethodName := ⟨RX6, "refuse", "(I)I"⟩
abbrev cX6_put : ByteArray := prog_8_method_4_code
def yX6_put : MethodName := ⟨RX6, "put", "(II)V"⟩
abbrev cX6_marksFrom : ByteArray := prog_8_method_5_code
def yX6_marksFrom : MethodName := ⟨RX6, "marksFrom", "(I)I"⟩
def RX7 : String := "SentRoads$Tape"
def TX7 : u_T := fun k => match k with
  | 0 => ("SentRoads$Tape", "bytes", "[C", true)
  | 1 => ("SentRoads$Tape", "crimes", "[LSentRoads$Crime;", true)
  | 2 => ("SentRoads$Tape", "papers", "[LSentRoads$Paper;", true)
  | 3 => ("SentRoads$Tape", "length", "I", false)
  | 4 => ("SentRoads$Tape", "crimeCount", "I", false)
  | 5 => ("SentRoads$Tape", "paperCount", "I", false)
  | 6 => ("SentRoads$Tape", "place", "I", false)
  | _ => ("SentRoads$Tape", "fault", "I", false)
def tyX7 : Nat → FieldType := fun k => match k with
  | 0 => .array .char
  | 1 => .array (.object "SentRoads$Crime")
  | 2 => .array (.object "SentRoads$Paper")
  | 3 => .int
  | 4 => .int
  | 5 => .int
  | 6 => .int
  | _ => .int
theorem nmX7 : ∀ a, a < 8 → ∀ b, b < 8 → a ≠ b → (TX7 a).2.1 ≠ (TX7 b).2.1 := by decide +kernel
theorem tyX7_ok : ∀ k, k < 8 → parseFieldDescriptor (TX7 k).2.2.1 = some (tyX7 k) := by decide +kernel
abbrev cX7_init : ByteArray := prog_9_method_1_code
def yX7_init : MethodName := ⟨RX7, "<init>", "()V"⟩
abbrev cX7_write : ByteArray := prog_9_method_2_code
def yX7_write : MethodName := ⟨RX7, "write", "(C)V"⟩
abbrev cX7_parse : ByteArray := prog_9_method_3_code
def yX7_parse : MethodName := ⟨RX7, "parse", "()I"⟩
abbrev cX7_fail : ByteArray := prog_9_method_4_code
def yX7_fail : MethodName := ⟨RX7, "fail", "(I)V"⟩
abbrev cX7_next : ByteArray := prog_9_method_5_code
def yX7_next : MethodName := ⟨RX7, "next", "()I"⟩
abbrev cX7_takes : ByteArray := prog_9_method_6_code
def yX7_takes : MethodName := ⟨RX7, "takes", "(I)Z"⟩
abbrev cX7_need : ByteArray := prog_9_method_7_code
def yX7_need : MethodName := ⟨RX7, "need", "(I)V"⟩
abbrev cX7_readClause : ByteArray := prog_9_method_8_code
def yX7_readClause : MethodName := ⟨RX7, "readClause", "()V"⟩
abbrev cX7_readCrime : ByteArray := prog_9_method_9_code
def yX7_readCrime : MethodName := ⟨RX7, "readCrime", "(I)V"⟩
abbrev cX7_readPaper : ByteArray := prog_9_method_10_code
def yX7_readPaper : MethodName := ⟨RX7, "readPaper", "(I)V"⟩
abbrev cX7_readLand : ByteArray := prog_9_method_11_code
def yX7_readLand : MethodName := ⟨RX7, "readLand", "(I)I"⟩
abbrev cX7_readMarks : ByteArray := prog_9_method_12_code
def yX7_readMarks : MethodName := ⟨RX7, "readMarks", "(I)I"⟩
abbrev cX7_readNumber : ByteArray := prog_9_method_13_code
def yX7_readNumber : MethodName := ⟨RX7, "readNumber", "(II)I"⟩
abbrev cX7_readPromises : ByteArray := prog_9_method_14_code
def yX7_readPromises : MethodName := ⟨RX7, "readPromises", "()I"⟩
abbrev cX7_readLetters : ByteArray := prog_9_method_15_code
def yX7_readLetters : MethodName := ⟨RX7, "readLetters", "(Ljava/lang/String;Z)I"⟩
def RX8 : String := "SentRoads$World"
def TX8 : u_T := fun k => match k with
  | 0 => ("SentRoads$World", "crimes", "[LSentRoads$Crime;", true)
  | 1 => ("SentRoads$World", "deeds", "[LSentRoads$Deed;", true)
  | 2 => ("SentRoads$World", "papers", "[LSentRoads$Paper;", true)
  | 3 => ("SentRoads$World", "demands", "[LSentRoads$Demand;", true)
  | 4 => ("SentRoads$World", "man", "LSentRoads$Man;", true)
  | 5 => ("SentRoads$World", "crimeCount", "I", false)
  | 6 => ("SentRoads$World", "deedCount", "I", false)
  | 7 => ("SentRoads$World", "paperCount", "I", false)
  | _ => ("SentRoads$World", "demandCount", "I", false)
def tyX8 : Nat → FieldType := fun k => match k with
  | 0 => .array (.object "SentRoads$Crime")
  | 1 => .array (.object "SentRoads$Deed")
  | 2 => .array (.object "SentRoads$Paper")
  | 3 => .array (.object "SentRoads$Demand")
  | 4 => .object "SentRoads$Man"
  | 5 => .int
  | 6 => .int
  | 7 => .int
  | _ => .int
theorem nmX8 : ∀ a, a < 9 → ∀ b, b < 9 → a ≠ b → (TX8 a).2.1 ≠ (TX8 b).2.1 := by decide +kernel
theorem tyX8_ok : ∀ k, k < 9 → parseFieldDescriptor (TX8 k).2.2.1 = some (tyX8 k) := by decide +kernel
abbrev cX8_init : ByteArray := prog_10_method_1_code
def yX8_init : MethodName := ⟨RX8, "<init>", "()V"⟩
abbrev cX8_copy : ByteArray := prog_10_method_2_code
def yX8_copy : MethodName := ⟨RX8, "copy", "(LSentRoads$World;)V"⟩
abbrev cX8_takeCrime : ByteArray := prog_10_method_3_code
def yX8_takeCrime : MethodName := ⟨RX8, "takeCrime", "()I"⟩
abbrev cX8_takeDeed : ByteArray := prog_10_method_4_code
def yX8_takeDeed : MethodName := ⟨RX8, "takeDeed", "()I"⟩
abbrev cX8_takePaper : ByteArray := prog_10_method_5_code
def yX8_takePaper : MethodName := ⟨RX8, "takePaper", "()I"⟩
abbrev cX8_learnAgain : ByteArray := prog_10_method_6_code
def yX8_learnAgain : MethodName := ⟨RX8, "learnAgain", "(I)V"⟩
abbrev cX8_allDeeds : ByteArray := prog_10_method_7_code
def yX8_allDeeds : MethodName := ⟨RX8, "allDeeds", "()I"⟩
abbrev cX8_crimesOf : ByteArray := prog_10_method_8_code
def yX8_crimesOf : MethodName := ⟨RX8, "crimesOf", "(I)I"⟩
abbrev cX8_landsWhereCrime : ByteArray := prog_10_method_9_code
def yX8_landsWhereCrime : MethodName := ⟨RX8, "landsWhereCrime", "(I)I"⟩
abbrev cX8_coveredBy : ByteArray := prog_10_method_10_code
def yX8_coveredBy : MethodName := ⟨RX8, "coveredBy", "(LSentRoads$Paper;)I"⟩
abbrev cX8_barsAgainst : ByteArray := prog_10_method_11_code
def yX8_barsAgainst : MethodName := ⟨RX8, "barsAgainst", "(LSentRoads$Paper;LSentRoads$Deed;)I"⟩
abbrev cX8_weigh : ByteArray := prog_10_method_12_code
def yX8_weigh : MethodName := ⟨RX8, "weigh", "(LSentRoads$Paper;)V"⟩
abbrev cX8_weighAll : ByteArray := prog_10_method_13_code
def yX8_weighAll : MethodName := ⟨RX8, "weighAll", "()V"⟩
abbrev cX8_weighAlone : ByteArray := prog_10_method_14_code
def yX8_weighAlone : MethodName := ⟨RX8, "weighAlone", "(I)V"⟩
abbrev cX8_triedBy : ByteArray := prog_10_method_15_code
def yX8_triedBy : MethodName := ⟨RX8, "triedBy", "(LSentRoads$Man;)I"⟩
abbrev cX8_weighDemands : ByteArray := prog_10_method_16_code
def yX8_weighDemands : MethodName := ⟨RX8, "weighDemands", "()V"⟩
abbrev cX8_letTo : ByteArray := prog_10_method_17_code
def yX8_letTo : MethodName := ⟨RX8, "letTo", "(I)I"⟩
abbrev cX8_placeOf : ByteArray := prog_10_method_18_code
def yX8_placeOf : MethodName := ⟨RX8, "placeOf", "(I)I"⟩
def RX9 : String := "SentRoads"
def TX9 : u_T := fun k => match k with
  | 0 => ("SentRoads", "now", "LSentRoads$World;", true)
  | 1 => ("SentRoads", "kept", "LSentRoads$World;", true)
  | 2 => ("SentRoads", "roads", "LSentRoads$Roads;", true)
  | 3 => ("SentRoads", "tape", "LSentRoads$Tape;", true)
  | 4 => ("SentRoads", "sheets", "[LSentRoads$Sheet;", true)
  | _ => ("SentRoads", "hasImage", "Z", false)
def tyX9 : Nat → FieldType := fun k => match k with
  | 0 => .object "SentRoads$World"
  | 1 => .object "SentRoads$World"
  | 2 => .object "SentRoads$Roads"
  | 3 => .object "SentRoads$Tape"
  | 4 => .array (.object "SentRoads$Sheet")
  | _ => .boolean
theorem nmX9 : ∀ a, a < 6 → ∀ b, b < 6 → a ≠ b → (TX9 a).2.1 ≠ (TX9 b).2.1 := by decide +kernel
theorem tyX9_ok : ∀ k, k < 6 → parseFieldDescriptor (TX9 k).2.2.1 = some (tyX9 k) := by decide +kernel
abbrev cX9_init : ByteArray := prog_1_method_1_code
def yX9_init : MethodName := ⟨RX9, "<init>", "()V"⟩
abbrev cX9_crime : ByteArray := prog_1_method_2_code
def yX9_crime : MethodName := ⟨RX9, "crime", "(IIIIIZ)I"⟩
abbrev cX9_deed : ByteArray := prog_1_method_3_code
def yX9_deed : MethodName := ⟨RX9, "deed", "(IIII)I"⟩
abbrev cX9_years : ByteArray := prog_1_method_4_code
def yX9_years : MethodName := ⟨RX9, "years", "(IIIIII)I"⟩
abbrev cX9_named : ByteArray := prog_1_method_5_code
def yX9_named : MethodName := ⟨RX9, "named", "(IIIIII)I"⟩
abbrev cX9_custom : ByteArray := prog_1_method_6_code
def yX9_custom : MethodName := ⟨RX9, "custom", "(IIIII)I"⟩
abbrev cX9_type : ByteArray := prog_1_method_7_code
def yX9_type : MethodName := ⟨RX9, "type", "(JI)I"⟩
abbrev cX9_world : ByteArray := prog_1_method_8_code
def yX9_world : MethodName := ⟨RX9, "world", "()I"⟩
abbrev cX9_crimeOf : ByteArray := prog_1_method_9_code
def yX9_crimeOf : MethodName := ⟨RX9, "crimeOf", "(II)I"⟩
abbrev cX9_paper : ByteArray := prog_1_method_10_code
def yX9_paper : MethodName := ⟨RX9, "paper", "(II)I"⟩
abbrev cX9_bars : ByteArray := prog_1_method_11_code
def yX9_bars : MethodName := ⟨RX9, "bars", "(II)I"⟩
abbrev cX9_matches : ByteArray := prog_1_method_12_code
def yX9_matches : MethodName := ⟨RX9, "matches", "(III)I"⟩
abbrev cX9_yearsOf : ByteArray := prog_1_method_13_code
def yX9_yearsOf : MethodName := ⟨RX9, "yearsOf", "(III)I"⟩
abbrev cX9_shows : ByteArray := prog_1_method_14_code
def yX9_shows : MethodName := ⟨RX9, "shows", "(IIII)I"⟩
abbrev cX9_count : ByteArray := prog_1_method_15_code
def yX9_count : MethodName := ⟨RX9, "count", "(I)I"⟩
abbrev cX9_man : ByteArray := prog_1_method_16_code
def yX9_man : MethodName := ⟨RX9, "man", "(II)I"⟩
abbrev cX9_judged : ByteArray := prog_1_method_17_code
def yX9_judged : MethodName := ⟨RX9, "judged", "(IZ)I"⟩
abbrev cX9_bound : ByteArray := prog_1_method_18_code
def yX9_bound : MethodName := ⟨RX9, "bound", "(I)I"⟩
abbrev cX9_covers : ByteArray := prog_1_method_19_code
def yX9_covers : MethodName := ⟨RX9, "covers", "(I)I"⟩
abbrev cX9_lets : ByteArray := prog_1_method_20_code
def yX9_lets : MethodName := ⟨RX9, "lets", "(I)I"⟩
abbrev cX9_barred : ByteArray := prog_1_method_21_code
def yX9_barred : MethodName := ⟨RX9, "barred", "(II)I"⟩
abbrev cX9_send : ByteArray := prog_1_method_22_code
def yX9_send : MethodName := ⟨RX9, "send", "(I)I"⟩
abbrev cX9_tried : ByteArray := prog_1_method_23_code
def yX9_tried : MethodName := ⟨RX9, "tried", "()I"⟩
abbrev cX9_road : ByteArray := prog_1_method_24_code
def yX9_road : MethodName := ⟨RX9, "road", "(III)I"⟩
abbrev cX9_lands : ByteArray := prog_1_method_25_code
def yX9_lands : MethodName := ⟨RX9, "lands", "()I"⟩
abbrev cX9_safe : ByteArray := prog_1_method_26_code
def yX9_safe : MethodName := ⟨RX9, "safe", "(I)I"⟩
abbrev cX9_demand : ByteArray := prog_1_method_27_code
def yX9_demand : MethodName := ⟨RX9, "demand", "(III)I"⟩
abbrev cX9_ahead : ByteArray := prog_1_method_28_code
def yX9_ahead : MethodName := ⟨RX9, "ahead", "(I)I"⟩
abbrev cX9_promises : ByteArray := prog_1_method_29_code
def yX9_promises : MethodName := ⟨RX9, "promises", "(II)I"⟩
abbrev cX9_mended : ByteArray := prog_1_method_30_code
def yX9_mended : MethodName := ⟨RX9, "mended", "(II)I"⟩
abbrev cX9_part : ByteArray := prog_1_method_31_code
def yX9_part : MethodName := ⟨RX9, "part", "(III)I"⟩
abbrev cX9_image : ByteArray := prog_1_method_32_code
def yX9_image : MethodName := ⟨RX9, "image", "()I"⟩
abbrev cX9_restore : ByteArray := prog_1_method_33_code
def yX9_restore : MethodName := ⟨RX9, "restore", "()I"⟩
abbrev cX9_sheet : ByteArray := prog_1_method_34_code
def yX9_sheet : MethodName := ⟨RX9, "sheet", "(III)I"⟩
abbrev cX9_drop : ByteArray := prog_1_method_35_code
def yX9_drop : MethodName := ⟨RX9, "drop", "(I)I"⟩
abbrev cX9_item : ByteArray := prog_1_method_36_code
def yX9_item : MethodName := ⟨RX9, "item", "(IIII)I"⟩
abbrev cX9_isLand : ByteArray := prog_1_method_37_code
def yX9_isLand : MethodName := ⟨RX9, "isLand", "(I)Z"⟩
abbrev cX9_isYear : ByteArray := prog_1_method_38_code
def yX9_isYear : MethodName := ⟨RX9, "isYear", "(I)Z"⟩
abbrev cX9_isSheet : ByteArray := prog_1_method_39_code
def yX9_isSheet : MethodName := ⟨RX9, "isSheet", "(I)Z"⟩
abbrev cX9_isLane : ByteArray := prog_1_method_40_code
def yX9_isLane : MethodName := ⟨RX9, "isLane", "(I)Z"⟩
abbrev cX9_isDeed : ByteArray := prog_1_method_41_code
def yX9_isDeed : MethodName := ⟨RX9, "isDeed", "(I)Z"⟩
abbrev cX9_isPaper : ByteArray := prog_1_method_42_code
def yX9_isPaper : MethodName := ⟨RX9, "isPaper", "(I)Z"⟩
abbrev cX9_addPaper : ByteArray := prog_1_method_43_code
def yX9_addPaper : MethodName := ⟨RX9, "addPaper", "(IIIII)I"⟩
abbrev cX9_byteOf : ByteArray := prog_1_method_44_code
def yX9_byteOf : MethodName := ⟨RX9, "byteOf", "(JI)I"⟩
abbrev cX9_isLess : ByteArray := prog_1_method_45_code
def yX9_isLess : MethodName := ⟨RX9, "isLess", "(II)Z"⟩
def RX10 : String := "SentRoadsModel"
def TX10 : u_T := fun k => match k with
  | 0 => ("SentRoadsModel", "crimes", "I", false)
  | 1 => ("SentRoadsModel", "crime", "[I", true)
  | 2 => ("SentRoadsModel", "deeds", "I", false)
  | 3 => ("SentRoadsModel", "deed", "[I", true)
  | 4 => ("SentRoadsModel", "papers", "I", false)
  | 5 => ("SentRoadsModel", "paper", "[I", true)
  | 6 => ("SentRoadsModel", "demands", "I", false)
  | 7 => ("SentRoadsModel", "demand", "[I", true)
  | 8 => ("SentRoadsModel", "man", "[I", true)
  | 9 => ("SentRoadsModel", "open", "[I", true)
  | 10 => ("SentRoadsModel", "before", "[I", true)
  | 11 => ("SentRoadsModel", "byPaper", "[I", true)
  | 12 => ("SentRoadsModel", "queue", "[I", true)
  | 13 => ("SentRoadsModel", "queued", "I", false)
  | 14 => ("SentRoadsModel", "cost", "[I", true)
  | 15 => ("SentRoadsModel", "tape", "[I", true)
  | 16 => ("SentRoadsModel", "taped", "I", false)
  | 17 => ("SentRoadsModel", "at", "I", false)
  | 18 => ("SentRoadsModel", "readCrimes", "I", false)
  | 19 => ("SentRoadsModel", "gotCrimes", "[I", true)
  | 20 => ("SentRoadsModel", "readPapers", "I", false)
  | 21 => ("SentRoadsModel", "gotPapers", "[I", true)
  | 22 => ("SentRoadsModel", "isKept", "Z", false)
  | 23 => ("SentRoadsModel", "kept", "[I", true)
  | 24 => ("SentRoadsModel", "keptAt", "I", false)
  | 25 => ("SentRoadsModel", "singles", "[I", true)
  | 26 => ("SentRoadsModel", "lanes", "[I", true)
  | 27 => ("SentRoadsModel", "rowSizes", "[I", true)
  | _ => ("SentRoadsModel", "items", "[I", true)
def tyX10 : Nat → FieldType := fun k => match k with
  | 0 => .int
  | 1 => .array .int
  | 2 => .int
  | 3 => .array .int
  | 4 => .int
  | 5 => .array .int
  | 6 => .int
  | 7 => .array .int
  | 8 => .array .int
  | 9 => .array .int
  | 10 => .array .int
  | 11 => .array .int
  | 12 => .array .int
  | 13 => .int
  | 14 => .array .int
  | 15 => .array .int
  | 16 => .int
  | 17 => .int
  | 18 => .int
  | 19 => .array .int
  | 20 => .int
  | 21 => .array .int
  | 22 => .boolean
  | 23 => .array .int
  | 24 => .int
  | 25 => .array .int
  | 26 => .array .int
  | 27 => .array .int
  | _ => .array .int
theorem nmX10 : ∀ a, a < 29 → ∀ b, b < 29 → a ≠ b → (TX10 a).2.1 ≠ (TX10 b).2.1 := by decide +kernel
theorem tyX10_ok : ∀ k, k < 29 → parseFieldDescriptor (TX10 k).2.2.1 = some (tyX10 k) := by decide +kernel
abbrev cX10_in : ByteArray := prog_12_method_1_code
def yX10_in : MethodName := ⟨RX10, "in", "(JJJ)Z"⟩
abbrev cX10_init : ByteArray := prog_12_method_2_code
def yX10_init : MethodName := ⟨RX10, "<init>", "()V"⟩
abbrev cX10_free : ByteArray := prog_12_method_3_code
def yX10_free : MethodName := ⟨RX10, "free", "()V"⟩
abbrev cX10_isLand : ByteArray := prog_12_method_4_code
def yX10_isLand : MethodName := ⟨RX10, "isLand", "(I)Z"⟩
abbrev cX10_isDeed : ByteArray := prog_12_method_5_code
def yX10_isDeed : MethodName := ⟨RX10, "isDeed", "(I)Z"⟩
abbrev cX10_isPaper : ByteArray := prog_12_method_6_code
def yX10_isPaper : MethodName := ⟨RX10, "isPaper", "(I)Z"⟩
abbrev cX10_addCrime : ByteArray := prog_12_method_7_code
def yX10_addCrime : MethodName := ⟨RX10, "addCrime", "(IIIIII)V"⟩
abbrev cX10_crime : ByteArray := prog_12_method_8_code
def yX10_crime : MethodName := ⟨RX10, "crime", "(IIIIIZ)I"⟩
abbrev cX10_deed : ByteArray := prog_12_method_9_code
def yX10_deed : MethodName := ⟨RX10, "deed", "(IIII)I"⟩
abbrev cX10_mayBe : ByteArray := prog_12_method_10_code
def yX10_mayBe : MethodName := ⟨RX10, "mayBe", "(IIIII)Z"⟩
abbrev cX10_addPaper : ByteArray := prog_12_method_11_code
def yX10_addPaper : MethodName := ⟨RX10, "addPaper", "(IIIIIIII)I"⟩
abbrev cX10_years : ByteArray := prog_12_method_12_code
def yX10_years : MethodName := ⟨RX10, "years", "(IIIIII)I"⟩
abbrev cX10_named : ByteArray := prog_12_method_13_code
def yX10_named : MethodName := ⟨RX10, "named", "(IIIIII)I"⟩
abbrev cX10_custom : ByteArray := prog_12_method_14_code
def yX10_custom : MethodName := ⟨RX10, "custom", "(IIIII)I"⟩
abbrev cX10_crimeOf : ByteArray := prog_12_method_15_code
def yX10_crimeOf : MethodName := ⟨RX10, "crimeOf", "(II)I"⟩
abbrev cX10_paper : ByteArray := prog_12_method_16_code
def yX10_paper : MethodName := ⟨RX10, "paper", "(II)I"⟩
abbrev cX10_bars : ByteArray := prog_12_method_17_code
def yX10_bars : MethodName := ⟨RX10, "bars", "(II)I"⟩
abbrev cX10_areCrime : ByteArray := prog_12_method_18_code
def yX10_areCrime : MethodName := ⟨RX10, "areCrime", "(II)Z"⟩
abbrev cX10_crimesOf : ByteArray := prog_12_method_19_code
def yX10_crimesOf : MethodName := ⟨RX10, "crimesOf", "(II)I"⟩
abbrev cX10_yearsFor : ByteArray := prog_12_method_20_code
def yX10_yearsFor : MethodName := ⟨RX10, "yearsFor", "(II)I"⟩
abbrev cX10_isDeadly : ByteArray := prog_12_method_21_code
def yX10_isDeadly : MethodName := ⟨RX10, "isDeadly", "(II)Z"⟩
abbrev cX10_matches : ByteArray := prog_12_method_22_code
def yX10_matches : MethodName := ⟨RX10, "matches", "(III)I"⟩
abbrev cX10_yearsOf : ByteArray := prog_12_method_23_code
def yX10_yearsOf : MethodName := ⟨RX10, "yearsOf", "(III)I"⟩
abbrev cX10_count : ByteArray := prog_12_method_24_code
def yX10_count : MethodName := ⟨RX10, "count", "(I)I"⟩
abbrev cX10_man : ByteArray := prog_12_method_25_code
def yX10_man : MethodName := ⟨RX10, "man", "(II)I"⟩
abbrev cX10_judged : ByteArray := prog_12_method_26_code
def yX10_judged : MethodName := ⟨RX10, "judged", "(IZ)I"⟩
abbrev cX10_allDeeds : ByteArray := prog_12_method_27_code
def yX10_allDeeds : MethodName := ⟨RX10, "allDeeds", "()I"⟩
abbrev cX10_bound : ByteArray := prog_12_method_28_code
def yX10_bound : MethodName := ⟨RX10, "bound", "(I)I"⟩
abbrev cX10_isCovered : ByteArray := prog_12_method_29_code
def yX10_isCovered : MethodName := ⟨RX10, "isCovered", "(II)Z"⟩
abbrev cX10_standing : ByteArray := prog_12_method_30_code
def yX10_standing : MethodName := ⟨RX10, "standing", "(II)I"⟩
abbrev cX10_covers : ByteArray := prog_12_method_31_code
def yX10_covers : MethodName := ⟨RX10, "covers", "(I)I"⟩
abbrev cX10_barred : ByteArray := prog_12_method_32_code
def yX10_barred : MethodName := ⟨RX10, "barred", "(II)I"⟩
abbrev cX10_mayGo : ByteArray := prog_12_method_33_code
def yX10_mayGo : MethodName := ⟨RX10, "mayGo", "(IIIII)Z"⟩
abbrev cX10_findOpen : ByteArray := prog_12_method_34_code
def yX10_findOpen : MethodName := ⟨RX10, "findOpen", "()V"⟩
abbrev cX10_goes : ByteArray := prog_12_method_35_code
def yX10_goes : MethodName := ⟨RX10, "goes", "(IIIII)I"⟩
abbrev cX10_goesNow : ByteArray := prog_12_method_36_code
def yX10_goesNow : MethodName := ⟨RX10, "goesNow", "(I)I"⟩
abbrev cX10_lets : ByteArray := prog_12_method_37_code
def yX10_lets : MethodName := ⟨RX10, "lets", "(I)I"⟩
abbrev cX10_send : ByteArray := prog_12_method_38_code
def yX10_send : MethodName := ⟨RX10, "send", "(I)I"⟩
abbrev cX10_isTried : ByteArray := prog_12_method_39_code
def yX10_isTried : MethodName := ⟨RX10, "isTried", "(III)Z"⟩
abbrev cX10_triedAt : ByteArray := prog_12_method_40_code
def yX10_triedAt : MethodName := ⟨RX10, "triedAt", "(II)I"⟩
abbrev cX10_tried : ByteArray := prog_12_method_41_code
def yX10_tried : MethodName := ⟨RX10, "tried", "()I"⟩
abbrev cX10_come : ByteArray := prog_12_method_42_code
def yX10_come : MethodName := ⟨RX10, "come", "(III)V"⟩
abbrev cX10_codeOf : ByteArray := prog_12_method_43_code
def yX10_codeOf : MethodName := ⟨RX10, "codeOf", "(IIII)I"⟩
abbrev cX10_findStates : ByteArray := prog_12_method_44_code
def yX10_findStates : MethodName := ⟨RX10, "findStates", "()V"⟩
abbrev cX10_road : ByteArray := prog_12_method_45_code
def yX10_road : MethodName := ⟨RX10, "road", "(III)I"⟩
abbrev cX10_lands : ByteArray := prog_12_method_46_code
def yX10_lands : MethodName := ⟨RX10, "lands", "()I"⟩
abbrev cX10_safe : ByteArray := prog_12_method_47_code
def yX10_safe : MethodName := ⟨RX10, "safe", "(I)I"⟩
abbrev cX10_demand : ByteArray := prog_12_method_48_code
def yX10_demand : MethodName := ⟨RX10, "demand", "(III)I"⟩
abbrev cX10_standsFor : ByteArray := prog_12_method_49_code
def yX10_standsFor : MethodName := ⟨RX10, "standsFor", "(I)I"⟩
abbrev cX10_greatestYears : ByteArray := prog_12_method_50_code
def yX10_greatestYears : MethodName := ⟨RX10, "greatestYears", "(I)I"⟩
abbrev cX10_wasThere : ByteArray := prog_12_method_51_code
def yX10_wasThere : MethodName := ⟨RX10, "wasThere", "(I)I"⟩
abbrev cX10_isAhead : ByteArray := prog_12_method_52_code
def yX10_isAhead : MethodName := ⟨RX10, "isAhead", "(II)Z"⟩
abbrev cX10_ahead : ByteArray := prog_12_method_53_code
def yX10_ahead : MethodName := ⟨RX10, "ahead", "(I)I"⟩
abbrev cX10_ones : ByteArray := prog_12_method_54_code
def yX10_ones : MethodName := ⟨RX10, "ones", "(I)I"⟩
abbrev cX10_promises : ByteArray := prog_12_method_55_code
def yX10_promises : MethodName := ⟨RX10, "promises", "(II)I"⟩
abbrev cX10_canFollow : ByteArray := prog_12_method_56_code
def yX10_canFollow : MethodName := ⟨RX10, "canFollow", "(IIIII)Z"⟩
abbrev cX10_mended : ByteArray := prog_12_method_57_code
def yX10_mended : MethodName := ⟨RX10, "mended", "(II)I"⟩
abbrev cX10_part : ByteArray := prog_12_method_58_code
def yX10_part : MethodName := ⟨RX10, "part", "(III)I"⟩
abbrev cX10_type : ByteArray := prog_12_method_59_code
def yX10_type : MethodName := ⟨RX10, "type", "(JI)I"⟩
abbrev cX10_next : ByteArray := prog_12_method_60_code
def yX10_next : MethodName := ⟨RX10, "next", "()I"⟩
abbrev cX10_takes : ByteArray := prog_12_method_61_code
def yX10_takes : MethodName := ⟨RX10, "takes", "(I)Z"⟩
abbrev cX10_readNumber : ByteArray := prog_12_method_62_code
def yX10_readNumber : MethodName := ⟨RX10, "readNumber", "(II)I"⟩
abbrev cX10_readMarks : ByteArray := prog_12_method_63_code
def yX10_readMarks : MethodName := ⟨RX10, "readMarks", "(I)I"⟩
abbrev cX10_readCrime : ByteArray := prog_12_method_64_code
def yX10_readCrime : MethodName := ⟨RX10, "readCrime", "(I)Z"⟩
abbrev cX10_barOf : ByteArray := prog_12_method_65_code
def yX10_barOf : MethodName := ⟨RX10, "barOf", "(I)I"⟩
abbrev cX10_promiseOf : ByteArray := prog_12_method_66_code
def yX10_promiseOf : MethodName := ⟨RX10, "promiseOf", "(I)I"⟩
abbrev cX10_readPaper : ByteArray := prog_12_method_67_code
def yX10_readPaper : MethodName := ⟨RX10, "readPaper", "(I)Z"⟩
abbrev cX10_readWorld : ByteArray := prog_12_method_68_code
def yX10_readWorld : MethodName := ⟨RX10, "readWorld", "()Z"⟩
abbrev cX10_world : ByteArray := prog_12_method_69_code
def yX10_world : MethodName := ⟨RX10, "world", "()I"⟩
abbrev cX10_keep : ByteArray := prog_12_method_70_code
def yX10_keep : MethodName := ⟨RX10, "keep", "([I)V"⟩
abbrev cX10_bring : ByteArray := prog_12_method_71_code
def yX10_bring : MethodName := ⟨RX10, "bring", "([I)V"⟩
abbrev cX10_image : ByteArray := prog_12_method_72_code
def yX10_image : MethodName := ⟨RX10, "image", "()I"⟩
abbrev cX10_restore : ByteArray := prog_12_method_73_code
def yX10_restore : MethodName := ⟨RX10, "restore", "()I"⟩
abbrev cX10_isSheet : ByteArray := prog_12_method_74_code
def yX10_isSheet : MethodName := ⟨RX10, "isSheet", "(II)Z"⟩
abbrev cX10_sheet : ByteArray := prog_12_method_75_code
def yX10_sheet : MethodName := ⟨RX10, "sheet", "(III)I"⟩
abbrev cX10_drop : ByteArray := prog_12_method_76_code
def yX10_drop : MethodName := ⟨RX10, "drop", "(I)I"⟩
abbrev cX10_lacksRow : ByteArray := prog_12_method_77_code
def yX10_lacksRow : MethodName := ⟨RX10, "lacksRow", "(IIII)I"⟩
abbrev cX10_item : ByteArray := prog_12_method_78_code
def yX10_item : MethodName := ⟨RX10, "item", "(IIII)I"⟩
abbrev cX10_shows : ByteArray := prog_12_method_79_code
def yX10_shows : MethodName := ⟨RX10, "shows", "(IIII)I"⟩
def RJ11 : String := "java/lang/Character"
def TJ11 : u_T := fun k => match k with
  | _ => ("", "", "", false)
def tyJ11 : Nat → FieldType := fun k => match k with
  | _ => .int
theorem nmJ11 : ∀ a, a < 0 → ∀ b, b < 0 → a ≠ b → (TJ11 a).2.1 ≠ (TJ11 b).2.1 := by decide +kernel
theorem tyJ11_ok : ∀ k, k < 0 → parseFieldDescriptor (TJ11 k).2.2.1 = some (tyJ11 k) := by decide +kernel
abbrev cJ11_isValidCodePoint_9a6ad : ByteArray := prog_13_method_11_code
def yJ11_isValidCodePoint_9a6ad : MethodName := ⟨RJ11, "isValidCodePoint", "(I)Z"⟩
abbrev cJ11_highSurrogate_5068e : ByteArray := prog_13_method_28_code
def yJ11_highSurrogate_5068e : MethodName := ⟨RJ11, "highSurrogate", "(I)C"⟩
abbrev cJ11_lowSurrogate_5068e : ByteArray := prog_13_method_29_code
def yJ11_lowSurrogate_5068e : MethodName := ⟨RJ11, "lowSurrogate", "(I)C"⟩
def RJ6 : String := "java/lang/Integer"
def TJ6 : u_T := fun k => match k with
  | _ => ("", "", "", false)
def tyJ6 : Nat → FieldType := fun k => match k with
  | _ => .int
theorem nmJ6 : ∀ a, a < 0 → ∀ b, b < 0 → a ≠ b → (TJ6 a).2.1 ≠ (TJ6 b).2.1 := by decide +kernel
theorem tyJ6_ok : ∀ k, k < 0 → parseFieldDescriptor (TJ6 k).2.2.1 = some (tyJ6 k) := by decide +kernel
abbrev cJ6_bitCount_0f7a4 : ByteArray := prog_14_method_49_code
def yJ6_bitCount_0f7a4 : MethodName := ⟨RJ6, "bitCount", "(I)I"⟩
def RJ9 : String := "java/lang/Math"
def TJ9 : u_T := fun k => match k with
  | _ => ("", "", "", false)
def tyJ9 : Nat → FieldType := fun k => match k with
  | _ => .int
theorem nmJ9 : ∀ a, a < 0 → ∀ b, b < 0 → a ≠ b → (TJ9 a).2.1 ≠ (TJ9 b).2.1 := by decide +kernel
theorem tyJ9_ok : ∀ k, k < 0 → parseFieldDescriptor (TJ9 k).2.2.1 = some (tyJ9 k) := by decide +kernel
abbrev cJ9_max_7cf53 : ByteArray := prog_15_method_65_code
def yJ9_max_7cf53 : MethodName := ⟨RJ9, "max", "(II)I"⟩
abbrev cJ9_min_7cf53 : ByteArray := prog_15_method_69_code
def yJ9_min_7cf53 : MethodName := ⟨RJ9, "min", "(II)I"⟩
def RJ0 : String := "java/lang/String"
def TJ0 : u_T := fun k => match k with
  | _ => ("", "", "", false)
def tyJ0 : Nat → FieldType := fun k => match k with
  | _ => .int
theorem nmJ0 : ∀ a, a < 0 → ∀ b, b < 0 → a ≠ b → (TJ0 a).2.1 ≠ (TJ0 b).2.1 := by decide +kernel
theorem tyJ0_ok : ∀ k, k < 0 → parseFieldDescriptor (TJ0 k).2.2.1 = some (tyJ0 k) := by decide +kernel
abbrev cJ0_length_8abf5 : ByteArray := prog_16_method_54_code
def yJ0_length_8abf5 : MethodName := ⟨RJ0, "length", "()I"⟩
abbrev cJ0_indexOf_0f7a4 : ByteArray := prog_16_method_79_code
def yJ0_indexOf_0f7a4 : MethodName := ⟨RJ0, "indexOf", "(I)I"⟩
abbrev cJ0_indexOf_7cf53 : ByteArray := prog_16_method_80_code
def yJ0_indexOf_7cf53 : MethodName := ⟨RJ0, "indexOf", "(II)I"⟩
abbrev cJ0_coder_7d493 : ByteArray := prog_16_method_152_code
def yJ0_coder_7d493 : MethodName := ⟨RJ0, "coder", "()B"⟩
abbrev cJ0_isLatin1_aae02 : ByteArray := prog_16_method_154_code
def yJ0_isLatin1_aae02 : MethodName := ⟨RJ0, "isLatin1", "()Z"⟩
abbrev cJ0_checkBoundsBeginEnd_23922 : ByteArray := prog_16_method_158_code
def yJ0_checkBoundsBeginEnd_23922 : MethodName := ⟨RJ0, "checkBoundsBeginEnd", "(III)V"⟩
def RJ1 : String := "java/lang/StringLatin1"
def TJ1 : u_T := fun k => match k with
  | _ => ("", "", "", false)
def tyJ1 : Nat → FieldType := fun k => match k with
  | _ => .int
theorem nmJ1 : ∀ a, a < 0 → ∀ b, b < 0 → a ≠ b → (TJ1 a).2.1 ≠ (TJ1 b).2.1 := by decide +kernel
theorem tyJ1_ok : ∀ k, k < 0 → parseFieldDescriptor (TJ1 k).2.2.1 = some (tyJ1 k) := by decide +kernel
abbrev cJ1_canEncode_9a6ad : ByteArray := prog_17_method_4_code
def yJ1_canEncode_9a6ad : MethodName := ⟨RJ1, "canEncode", "(I)Z"⟩
abbrev cJ1_indexOf_4cfef : ByteArray := prog_17_method_22_code
def yJ1_indexOf_4cfef : MethodName := ⟨RJ1, "indexOf", "([BIII)I"⟩
abbrev cJ1_indexOfChar_4cfef : ByteArray := prog_17_method_23_code
def yJ1_indexOfChar_4cfef : MethodName := ⟨RJ1, "indexOfChar", "([BIII)I"⟩
def RJ2 : String := "java/lang/StringUTF16"
def TJ2 : u_T := fun k => match k with
  | _ => ("", "", "", false)
def tyJ2 : Nat → FieldType := fun k => match k with
  | _ => .int
theorem nmJ2 : ∀ a, a < 0 → ∀ b, b < 0 → a ≠ b → (TJ2 a).2.1 ≠ (TJ2 b).2.1 := by decide +kernel
theorem tyJ2_ok : ∀ k, k < 0 → parseFieldDescriptor (TJ2 k).2.2.1 = some (tyJ2 k) := by decide +kernel
abbrev cJ2_getChar_3b067 : ByteArray := prog_18_method_5_code
def yJ2_getChar_3b067 : MethodName := ⟨RJ2, "getChar", "([BI)C"⟩
abbrev cJ2_length_9d52b : ByteArray := prog_18_method_6_code
def yJ2_length_9d52b : MethodName := ⟨RJ2, "length", "([B)I"⟩
abbrev cJ2_indexOf_4cfef : ByteArray := prog_18_method_40_code
def yJ2_indexOf_4cfef : MethodName := ⟨RJ2, "indexOf", "([BIII)I"⟩
abbrev cJ2_indexOfChar_4cfef : ByteArray := prog_18_method_47_code
def yJ2_indexOfChar_4cfef : MethodName := ⟨RJ2, "indexOfChar", "([BIII)I"⟩
abbrev cJ2_indexOfCharUnsafe_4cfef : ByteArray := prog_18_method_48_code
def yJ2_indexOfCharUnsafe_4cfef : MethodName := ⟨RJ2, "indexOfCharUnsafe", "([BIII)I"⟩
abbrev cJ2_indexOfSupplementary_4cfef : ByteArray := prog_18_method_49_code
def yJ2_indexOfSupplementary_4cfef : MethodName := ⟨RJ2, "indexOfSupplementary", "([BIII)I"⟩
abbrev cJ2_checkBoundsBeginEnd_d044e : ByteArray := prog_18_method_93_code
def yJ2_checkBoundsBeginEnd_d044e : MethodName := ⟨RJ2, "checkBoundsBeginEnd", "(II[B)V"⟩
def RJ7 : String := "java/util/Arrays"
def TJ7 : u_T := fun k => match k with
  | _ => ("", "", "", false)
def tyJ7 : Nat → FieldType := fun k => match k with
  | _ => .int
theorem nmJ7 : ∀ a, a < 0 → ∀ b, b < 0 → a ≠ b → (TJ7 a).2.1 ≠ (TJ7 b).2.1 := by decide +kernel
theorem tyJ7_ok : ∀ k, k < 0 → parseFieldDescriptor (TJ7 k).2.2.1 = some (tyJ7 k) := by decide +kernel
abbrev cJ7_fill_53178 : ByteArray := prog_19_method_103_code
def yJ7_fill_53178 : MethodName := ⟨RJ7, "fill", "([II)V"⟩
def RJ3 : String := "jdk/internal/util/Preconditions"
def TJ3 : u_T := fun k => match k with
  | _ => ("", "", "", false)
def tyJ3 : Nat → FieldType := fun k => match k with
  | _ => .int
theorem nmJ3 : ∀ a, a < 0 → ∀ b, b < 0 → a ≠ b → (TJ3 a).2.1 ≠ (TJ3 b).2.1 := by decide +kernel
theorem tyJ3_ok : ∀ k, k < 0 → parseFieldDescriptor (TJ3 k).2.2.1 = some (tyJ3 k) := by decide +kernel
abbrev cJ3_checkFromToIndex_8c36e : ByteArray := prog_20_method_12_code
def yJ3_checkFromToIndex_8c36e : MethodName := ⟨RJ3, "checkFromToIndex", "(IIILjava/util/function/BiFunction;)I"⟩
def RL : String := "SentRoadsLaw"
abbrev cL_law : ByteArray := code
def yL_law : MethodName := ⟨RL, "law", "([I)Z"⟩
abbrev vwCl : List vw_C := [(RX0, TX0, 6), (RX1, TX1, 10), (RX2, TX2, 6), (RX3, TX3, 7), (RX4, TX4, 10), (RX5, TX5, 8), (RX6, TX6, 3), (RX7, TX7, 8), (RX8, TX8, 9), (RX9, TX9, 6), (RX10, TX10, 29)]
end
section
/-! ===== words: the good ones of the law's table, by their places ===== -/
def zT : List Cond := lw_tbl.filter goodWord
theorem zmem {w : Cond} (i : Nat) (h : lw_tbl[i]? = some w) (hg : goodWord w = true) : w ∈ zT := List.mem_filter.mpr ⟨List.mem_of_getElem? h, hg⟩
theorem zT_good : GoodIn zT zT := fun w h => ⟨h, good_of_word (List.mem_filter.mp h).2⟩
theorem zT_law : GoodIn lw_tbl zT := fun w h => ⟨(List.mem_filter.mp h).1, good_of_word (List.mem_filter.mp h).2⟩
theorem zT_code {y : MethodName} {cc : ByteArray} {nL : Nat} {rt : Option FieldType} (h : Cond.code y cc nL rt ∈ zT) : GoodIn zT (.code y cc nL rt :: zT) := fun w hw => (List.mem_cons.mp hw).elim (fun e => e ▸ zT_good _ h) (fun q => zT_good w q)
/-! ===== values, memory, shapes ===== -/
abbrev zV : Type := Int32 ⊕ (Int64 ⊕ (Nat × Nat))
abbrev zM : Type := Nat → Nat → Nat → Int32
abbrev zFd : Type := Option (Nat × (Nat → Nat))
abbrev zSh : Type := (Nat × List zFd) ⊕ (Nat × Nat × Option (Nat × (Nat → Nat → Nat)))
abbrev zi (x : Int32) : zV := .inl x
abbrev zl (x : Int64) : zV := .inr (.inl x)
abbrev zr (k n : Nat) : zV := .inr (.inr (k, n))
def zup (f : zM) (k n j : Nat) (x : Int32) : zM := fun a b c => if a = k ∧ b = n ∧ c = j then x else f a b c
theorem zup_same (f : zM) (k n j : Nat) (x : Int32) : zup f k n j x k n j = x := by simp [zup]
theorem zup_ne (f : zM) {k n j a b c : Nat} (x : Int32) (h : ¬ (a = k ∧ b = n ∧ c = j)) : zup f k n j x a b c = f a b c := by simp [zup, h]
def zcv (ad : Nat → Nat → Nat) : zV → Value
  | .inl x => .int x
  | .inr (.inl x) => .long x
  | .inr (.inr q) => .ref (ad q.1 q.2)
def zsz : List zV → Nat
  | [] => 0
  | .inl _ :: r => 1 + zsz r
  | .inr (.inl _) :: r => 2 + zsz r
  | .inr (.inr _) :: r => 1 + zsz r
theorem zsz_ok (ad : Nat → Nat → Nat) (st : List zV) : ((st.map (zcv ad)).map fun v => v.category).sum = zsz st := by
  induction st with
  | nil => rfl
  | cons v r ih =>
    simp only [List.map_cons, List.sum_cons, ih]
    rcases v with x | x | x <;> rfl
/-! the locals, by place -/
def zlv (ad : Nat → Nat → Nat) : Nat → List (Option zV) → List (Nat × Value)
  | _, [] => []
  | i, none :: r => zlv ad (i + 1) r
  | i, some v :: r => (i, zcv ad v) :: zlv ad (i + 1) r
theorem zlv_mem (ad : Nat → Nat → Nat) : ∀ (L : List (Option zV)) (j i : Nat) (v : zV), L[i]? = some (some v) → (j + i, zcv ad v) ∈ zlv ad j L
  | [], j, i, v, h => by simp at h
  | o :: r, j, 0, v, h => by
    simp only [List.getElem?_cons_zero, Option.some.injEq] at h
    subst h
    simp [zlv]
  | o :: r, j, i + 1, v, h => by
    rw [List.getElem?_cons_succ] at h
    have := zlv_mem ad r (j + 1) i v h
    rw [show j + 1 + i = j + (i + 1) by omega] at this
    cases o with
    | none => exact this
    | some w => exact List.mem_cons_of_mem _ this
theorem zlv_of (ad : Nat → Nat → Nat) : ∀ (L : List (Option zV)) (j : Nat) (q : Nat × Value), q ∈ zlv ad j L → ∃ (i : Nat) (v : zV), L[i]? = some (some v) ∧ q = (j + i, zcv ad v)
  | [], j, q, h => by simp [zlv] at h
  | none :: r, j, q, h => by
    obtain ⟨i, v, h1, h2⟩ := zlv_of ad r (j + 1) q h
    exact ⟨i + 1, v, by rw [List.getElem?_cons_succ]; exact h1, by rw [h2, show j + 1 + i = j + (i + 1) by omega]⟩
  | some w :: r, j, q, h => by
    rcases List.mem_cons.mp h with h | h
    · exact ⟨0, w, by simp, h⟩
    · obtain ⟨i, v, h1, h2⟩ := zlv_of ad r (j + 1) q h
      exact ⟨i + 1, v, by rw [List.getElem?_cons_succ]; exact h1, by rw [h2, show j + 1 + i = j + (i + 1) by omega]⟩
theorem zat {ad : Nat → Nat → Nat} {ls : Array Slot} {nL : Nat} {L : List (Option zV)} (h : lv_has ls nL (zlv ad 0 L)) {i : Nat} {v : zV} (hi : L[i]? = some (some v)) : ls[i]? = some (.val (zcv ad v)) := by
  have := h.2.2 _ (zlv_mem ad L 0 i v hi)
  rwa [Nat.zero_add] at this
theorem lv_less {ls : Array Slot} {nL : Nat} {l l' : List (Nat × Value)} (h : lv_has ls nL l) (hs : ∀ q ∈ l', q ∈ l) : lv_has ls nL l' := ⟨h.1, h.2.1, fun q hq => h.2.2 q (hs q hq)⟩
/-- the place ahead holds no long -/
def zno (L : List (Option zV)) : Nat → Bool
  | 0 => true
  | i + 1 => match L[i]? with
    | some (some (.inr (.inl _))) => false
    | _ => true
theorem zset {ad : Nat → Nat → Nat} {L : List (Option zV)} {i : Nat} {v : zV} (hn : zno L i = true) :
    ∀ q ∈ zlv ad 0 (L.set i (some v)), q ∈ (i, zcv ad v) :: (zlv ad 0 L).filter (fun q => !(q.1 == i) && !(q.1 + 1 == i && q.2.category == 2)) := by
  intro q hq
  obtain ⟨j, w, h1, h2⟩ := zlv_of ad _ 0 q hq
  rw [Nat.zero_add] at h2
  by_cases hj : i = j
  · subst hj
    have hl : i < (L.set i (some v)).length := (List.getElem?_eq_some_iff.mp h1).1
    rw [List.length_set] at hl
    rw [List.getElem?_set_self hl] at h1
    cases h1
    rw [h2]
    exact List.mem_cons_self
  · rw [List.getElem?_set_ne hj] at h1
    refine List.mem_cons_of_mem _ (List.mem_filter.mpr ⟨?_, ?_⟩)
    · rw [h2]
      have := zlv_mem ad L 0 j w h1
      rwa [Nat.zero_add] at this
    · rw [h2]
      have e1 : (j == i) = false := by simp; omega
      by_cases hc : j + 1 = i
      · subst hc
        rcases w with x | x | x
        · simp [e1, zcv, Value.category]
        · simp [zno, h1] at hn
        · simp [e1, zcv, Value.category]
      · have e2 : (j + 1 == i) = false := by simp; omega
        simp [e1, e2]
/-! the locals with which a method begins -/
def zarg : List zV → List (Option zV)
  | [] => []
  | .inr (.inl x) :: r => some (.inr (.inl x)) :: none :: zarg r
  | v :: r => some v :: zarg r
theorem zlv_pad (ad : Nat → Nat → Nat) : ∀ (n j : Nat), zlv ad j (List.replicate n none) = []
  | 0, _ => rfl
  | n + 1, j => by rw [List.replicate_succ]; exact zlv_pad ad n (j + 1)
theorem zlv_arg (ad : Nat → Nat → Nat) (n : Nat) : ∀ (as : List zV) (j : Nat), zlv ad j (zarg as ++ List.replicate n none) = lv_args j (as.map (zcv ad))
  | [], j => by simp only [zarg, List.nil_append, List.map_nil, lv_args]; exact zlv_pad ad n j
  | .inl x :: r, j => by
    simp only [zarg, List.cons_append, zlv, List.map_cons, lv_args, zcv, Value.category]
    rw [zlv_arg ad n r (j + 1)]
    rfl
  | .inr (.inl x) :: r, j => by
    simp only [zarg, List.cons_append, zlv, List.map_cons, lv_args, zcv, Value.category]
    rw [zlv_arg ad n r (j + 1 + 1)]
    rfl
  | .inr (.inr x) :: r, j => by
    simp only [zarg, List.cons_append, zlv, List.map_cons, lv_args, zcv, Value.category]
    rw [zlv_arg ad n r (j + 1)]
    rfl
/-! ===== the shapes of this system: (kind, number) names a cell ===== -/
abbrev zc (k : Nat) : zFd := some (k, fun _ => 0)
def zshp : Nat → zSh
  | 0 => .inl (9, [some (1, fun _ => 0), some (1, fun _ => 1), zc 13, zc 18, zc 22, none])
  | 1 => .inl (8, [some (2, fun n => n), some (3, fun n => n), some (4, fun n => n), some (5, fun n => n), some (6, fun n => n), none, none, none, none])
  | 2 => .inr (2, 24, some (7, fun n i => 24 * n + i))
  | 3 => .inr (3, 8, some (8, fun n i => 8 * n + i))
  | 4 => .inr (4, 12, some (11, fun n i => 12 * n + i))
  | 5 => .inr (5, 8, some (12, fun n i => 8 * n + i))
  | 6 => .inl (3, [none, none, none, none, none, none, none])
  | 7 => .inl (0, [none, none, none, none, none, none])
  | 8 => .inl (1, [none, none, none, none, none, none, none, none, some (9, fun n => n), some (10, fun n => n)])
  | 9 => .inr (0, 6, none)
  | 10 => .inr (0, 6, none)
  | 11 => .inl (4, [none, none, none, none, none, none, none, none, none, none])
  | 12 => .inl (2, [none, none, none, none, none, none])
  | 13 => .inl (5, [zc 1, some (6, fun _ => 2), zc 14, zc 15, zc 16, zc 17, none, none])
  | 14 => .inr (0, 3072, none)
  | 15 => .inr (0, 3073, none)
  | 16 => .inr (0, 3073, none)
  | 17 => .inr (0, 12, none)
  | 18 => .inl (7, [zc 19, zc 20, zc 21, none, none, none, none, none])
  | 19 => .inr (1, 120, none)
  | 20 => .inr (2, 12, some (7, fun _ i => 48 + i))
  | 21 => .inr (4, 12, some (11, fun _ i => 24 + i))
  | 22 => .inr (6, 4, some (23, fun _ i => i))
  | 23 => .inl (6, [some (24, fun n => n), none, none])
  | 24 => .inr (0, 16, none)
  | 25 => .inl (10, [none, zc 26, none, zc 27, none, zc 28, none, zc 29, zc 30, zc 31, zc 32, zc 33, zc 34, none, zc 35, zc 36, none, none, none, zc 37, none, zc 38, none, zc 39, none, zc 40, zc 41, zc 42, zc 43])
  | 26 => .inr (0, 144, none)
  | 27 => .inr (0, 40, none)
  | 28 => .inr (0, 96, none)
  | 29 => .inr (0, 24, none)
  | 30 => .inr (0, 7, none)
  | 31 => .inr (0, 12, none)
  | 32 => .inr (0, 21504, none)
  | 33 => .inr (0, 21504, none)
  | 34 => .inr (0, 21504, none)
  | 35 => .inr (0, 12, none)
  | 36 => .inr (0, 120, none)
  | 37 => .inr (0, 72, none)
  | 38 => .inr (0, 96, none)
  | 39 => .inr (0, 320, none)
  | 40 => .inr (0, 4, none)
  | 41 => .inr (0, 4, none)
  | 42 => .inr (0, 4, none)
  | 43 => .inr (0, 64, none)
  | _ => .inr (0, 0, none)
def zcnt : Nat → Nat
  | 0 => 1
  | 1 => 2
  | 2 => 2
  | 3 => 2
  | 4 => 2
  | 5 => 2
  | 6 => 3
  | 7 => 60
  | 8 => 16
  | 9 => 16
  | 10 => 16
  | 11 => 36
  | 12 => 16
  | 13 => 1
  | 14 => 1
  | 15 => 1
  | 16 => 1
  | 17 => 1
  | 18 => 1
  | 19 => 1
  | 20 => 1
  | 21 => 1
  | 22 => 1
  | 23 => 4
  | 24 => 4
  | k => if k < 44 then 1 else 0
/-- where the cells lie, counted from the first -/
def zoff : Nat → Nat → Nat
  | 0, _ => 0
  | 1, n => 1 + 74 * n
  | 2, n => 2 + 74 * n
  | 3, n => 3 + 74 * n
  | 4, n => 4 + 74 * n
  | 5, n => 5 + 74 * n
  | 6, n => if n < 2 then 6 + 74 * n else 150
  | 7, n => if n < 24 then 7 + n else if n < 48 then 81 + (n - 24) else 159 + 2 * (n - 48)
  | 8, n => if n < 8 then 31 + 3 * n else 105 + 3 * (n - 8)
  | 9, n => if n < 8 then 32 + 3 * n else 106 + 3 * (n - 8)
  | 10, n => if n < 8 then 33 + 3 * n else 107 + 3 * (n - 8)
  | 11, n => if n < 12 then 55 + n else if n < 24 then 129 + (n - 12) else 160 + 2 * (n - 24)
  | 12, n => if n < 8 then 67 + n else 141 + (n - 8)
  | 13, _ => 149
  | 14, _ => 151
  | 15, _ => 152
  | 16, _ => 153
  | 17, _ => 154
  | 18, _ => 155
  | 19, _ => 156
  | 20, _ => 157
  | 21, _ => 158
  | 22, _ => 183
  | 23, n => 184 + 2 * n
  | 24, n => 185 + 2 * n
  | k, _ => 192 + (k - 25)
def zinv : List (Nat × Nat) := (List.range 44).flatMap (fun k => (List.range (zcnt k)).map (fun n => (k, n)))
theorem zcnt_big (k : Nat) (h : 44 ≤ k) : zcnt k = 0 := by
  unfold zcnt
  split <;> first | omega | (rw [if_neg (by omega)])
theorem zoff_nodup : ((List.range 44).all fun k => (List.range (zcnt k)).all fun n => (List.range 44).all fun k' => (List.range (zcnt k')).all fun n' => !(zoff k n == zoff k' n') || (k == k' && n == n')) = true := by decide +kernel
theorem zoff_lt : ((List.range 44).all fun k => (List.range (zcnt k)).all fun n => decide (zoff k n < 211)) = true := by decide +kernel
theorem zoff_inj {k n k' n' : Nat} (h : n < zcnt k) (h' : n' < zcnt k') (e : zoff k n = zoff k' n') : k = k' ∧ n = n' := by
  have hk : k < 44 := by
    rcases Nat.lt_or_ge k 44 with q | q
    · exact q
    · rw [zcnt_big k q] at h; omega
  have hk' : k' < 44 := by
    rcases Nat.lt_or_ge k' 44 with q | q
    · exact q
    · rw [zcnt_big k' q] at h'; omega
  have h1 := List.all_eq_true.mp zoff_nodup k (List.mem_range.mpr hk)
  have h2 := List.all_eq_true.mp h1 n (List.mem_range.mpr h)
  have h3 := List.all_eq_true.mp h2 k' (List.mem_range.mpr hk')
  have h4 := List.all_eq_true.mp h3 n' (List.mem_range.mpr h')
  simpa [e] using h4
end
section
/-! ===== the judgement: the machine at (pc, locals, stack, memory) comes to the target ===== -/
def zfl (ad : Nat → Nat → Nat) (f : zM) (k n : Nat) : Nat → List zFd → List Value
  | _, [] => []
  | j, none :: r => .int (f k n j) :: zfl ad f k n (j + 1) r
  | j, some q :: r => .ref (ad q.1 (q.2 n)) :: zfl ad f k n (j + 1) r
def zent (cA : Nat → ClassId) (ad : Nat → Nat → Nat) (f : zM) (k n : Nat) : va_E := match zshp k with
  | .inl q => .inr (q.1, zfl ad f k n 0 q.2)
  | .inr (t, len, none) => .inl (cA t, len, .inl (f k n))
  | .inr (t, len, some q) => .inl (cA t, len, .inr (.inr (.inr (.inr (fun i => some (ad q.1 (q.2 n i)))))))
theorem zfl_get (ad : Nat → Nat → Nat) (f : zM) (k n : Nat) : ∀ (fds : List zFd) (j i : Nat) (d : zFd), fds[i]? = some d → (zfl ad f k n j fds)[i]? = some (match d with | none => .int (f k n (j + i)) | some q => .ref (ad q.1 (q.2 n)))
  | [], j, i, d, h => by simp at h
  | none :: r, j, 0, d, h => by simp at h; subst h; simp [zfl]
  | some q :: r, j, 0, d, h => by simp at h; subst h; simp [zfl]
  | none :: r, j, i + 1, d, h => by
    rw [List.getElem?_cons_succ] at h
    have := zfl_get ad f k n r (j + 1) i d h
    rw [show j + 1 + i = j + (i + 1) by omega] at this
    simpa [zfl] using this
  | some q :: r, j, i + 1, d, h => by
    rw [List.getElem?_cons_succ] at h
    have := zfl_get ad f k n r (j + 1) i d h
    rw [show j + 1 + i = j + (i + 1) by omega] at this
    simpa [zfl] using this
theorem zfl_len (ad : Nat → Nat → Nat) (f : zM) (k n : Nat) : ∀ (fds : List zFd) (j : Nat), (zfl ad f k n j fds).length = fds.length
  | [], j => rfl
  | none :: r, j => by simp [zfl, zfl_len ad f k n r (j + 1)]
  | some q :: r, j => by simp [zfl, zfl_len ad f k n r (j + 1)]
theorem zfl_congr (ad : Nat → Nat → Nat) (f g : zM) (k n : Nat) : ∀ (fds : List zFd) (j : Nat), (∀ i, f k n i = g k n i) → zfl ad f k n j fds = zfl ad g k n j fds
  | [], j, h => rfl
  | none :: r, j, h => by simp only [zfl]; rw [h j, zfl_congr ad f g k n r (j + 1) h]
  | some q :: r, j, h => by simp only [zfl]; rw [zfl_congr ad f g k n r (j + 1) h]
theorem zfl_low (ad : Nat → Nat → Nat) (f : zM) (k n i : Nat) (x : Int32) : ∀ (fds : List zFd) (j : Nat), i < j → zfl ad (zup f k n i x) k n j fds = zfl ad f k n j fds
  | [], j, h => rfl
  | none :: r, j, h => by simp only [zfl]; rw [zup_ne f x (by omega), zfl_low ad f k n i x r (j + 1) (by omega)]
  | some q :: r, j, h => by simp only [zfl]; rw [zfl_low ad f k n i x r (j + 1) (by omega)]
theorem zfl_set (ad : Nat → Nat → Nat) (f : zM) (k n : Nat) (x : Int32) : ∀ (fds : List zFd) (j i : Nat), fds[i]? = some none → (zfl ad f k n j fds).set i (.int x) = zfl ad (zup f k n (j + i) x) k n j fds
  | [], j, i, h => by simp at h
  | none :: r, j, 0, h => by simp only [zfl, List.set_cons_zero, Nat.add_zero]; rw [zup_same, zfl_low ad f k n j x r (j + 1) (by omega)]
  | some q :: r, j, 0, h => by simp at h
  | none :: r, j, i + 1, h => by
    rw [List.getElem?_cons_succ] at h
    simp only [zfl, List.set_cons_succ]
    rw [zfl_set ad f k n x r (j + 1) i h, zup_ne f x (by omega), show j + 1 + i = j + (i + 1) by omega]
  | some q :: r, j, i + 1, h => by
    rw [List.getElem?_cons_succ] at h
    simp only [zfl, List.set_cons_succ]
    rw [zfl_set ad f k n x r (j + 1) i h, show j + 1 + i = j + (i + 1) by omega]
def ztys (cA : Nat → ClassId) : List (ClassId × FieldType) := [(cA 0, .int), (cA 1, .char), (cA 2, .object "SentRoads$Crime"), (cA 3, .object "SentRoads$Deed"), (cA 4, .object "SentRoads$Paper"), (cA 5, .object "SentRoads$Demand"), (cA 6, .object "SentRoads$Sheet")]
def zty : Nat → FieldType
  | 0 => .int
  | 1 => .char
  | 2 => .object "SentRoads$Crime"
  | 3 => .object "SentRoads$Deed"
  | 4 => .object "SentRoads$Paper"
  | 5 => .object "SentRoads$Demand"
  | _ => .object "SentRoads$Sheet"
def zOb : Nat → String
  | 2 => "SentRoads$Crime"
  | 3 => "SentRoads$Deed"
  | 4 => "SentRoads$Paper"
  | 5 => "SentRoads$Demand"
  | _ => "SentRoads$Sheet"
theorem ztys_at (cA : Nat → ClassId) {t : Nat} (h : t < 7) : (ztys cA)[t]? = some (cA t, zty t) := by
  match t, h with
  | 0, _ => rfl
  | 1, _ => rfl
  | 2, _ => rfl
  | 3, _ => rfl
  | 4, _ => rfl
  | 5, _ => rfl
  | 6, _ => rfl
abbrev zNest : Cond := .methodLinkNest "SentRoads$Tape" 109 ⟨"SentRoads", "isLand", "(I)Z"⟩ "SentRoads"
def zK (D : va_G) (cA : Nat → ClassId) (U : State) : Prop := va_K D vwCl (ztys cA) U ∧ va_Nw zNest U
def zAt (D : va_G) (cA : Nat → ClassId) (ad : Nat → Nat → Nat) (f : zM) (H : Heap) : Prop := ∀ k n, n < zcnt k → va_at D vwCl (ad k n, zent cA ad f k n) H
def zG (ad : Nat → Nat → Nat) (lo : Nat) : Prop := (∀ k n, n < zcnt k → lo ≤ ad k n) ∧ ∀ k n k' n', n < zcnt k → n' < zcnt k' → ad k n = ad k' n' → k = k' ∧ n = n'
abbrev zX : Type := Program × Launch × Env × Room × State × MethodId × Array Value × List Frame × Method × Code × Nat × va_G × (Nat → ClassId) × (Nat → Nat → Nat) × Nat × Nat × Nat × (State → Prop)
def Z : zX → Nat → List (Option zV) → List zV → zM → Prop
  | (p, l, e, R, s, m, args, below, meth, c, nL, D, cA, ad, lo, cells, slots, Tg), pc, L, st, f => ∀ (H : Heap) (locs : List Loc) (ls : Array Slot), zAt D cA ad f H → va_S (fun q => lo ≤ q) s.heap H locs → lv_has ls nL (zlv ad 0 L) →
    W p l e R s m args below meth c H locs cells slots Tg (F0 m pc ls (st.map (zcv ad)))
def zC : zX → ByteArray → String → Nat → Prop
  | (p, l, e, R, s, m, args, below, meth, c, nL, D, cA, ad, lo, cells, slots, Tg), cc, own, d => p.tables.exec = Jvm.exec ∧ c.code = cc ∧ c.maxLocals = nL ∧ s.vm.findClass own = some m.cls ∧ (∀ w ∈ zT, w.before args s = true) ∧ zK D cA s ∧ zG ad lo ∧ (d ≤ R.frames ∧ 40 * d ≤ R.locals) ∧ (cells ≤ R.cells ∧ slots ≤ R.slots)
def znL : zX → Nat
  | (p, l, e, R, s, m, args, below, meth, c, nL, D, cA, ad, lo, cells, slots, Tg) => nL
theorem zK.moved {D : va_G} {cA : Nat → ClassId} {s U : State} (hW : s.WarmedH U.vm) (h : zK D cA s) : zK D cA U := ⟨va_K.moved hW.alike h.1, va_Nw.warmM hW h.2⟩
theorem zent_obj {cA : Nat → ClassId} {ad : Nat → Nat → Nat} {f : zM} {k n ci : Nat} {fds : List zFd} (hs : zshp k = .inl (ci, fds)) : zent cA ad f k n = .inr (ci, zfl ad f k n 0 fds) := by
  unfold zent; rw [hs]
theorem zent_arr {cA : Nat → ClassId} {ad : Nat → Nat → Nat} {f : zM} {k n t len : Nat} (hs : zshp k = .inr (t, len, none)) : zent cA ad f k n = .inl (cA t, len, .inl (f k n)) := by
  unfold zent; rw [hs]
theorem zent_rar {cA : Nat → ClassId} {ad : Nat → Nat → Nat} {f : zM} {k n t len : Nat} {q : Nat × (Nat → Nat → Nat)} (hs : zshp k = .inr (t, len, some q)) : zent cA ad f k n = .inl (cA t, len, .inr (.inr (.inr (.inr (fun i => some (ad q.1 (q.2 n i))))))) := by
  unfold zent; rw [hs]
theorem zent_congr {cA : Nat → ClassId} {ad : Nat → Nat → Nat} {f g : zM} {k n : Nat} (h : ∀ i, f k n i = g k n i) : zent cA ad f k n = zent cA ad g k n := by
  have e : f k n = g k n := funext h
  unfold zent
  split
  · rw [zfl_congr ad f g k n _ 0 h]
  · rw [e]
  · rfl
/-- one cell written: the others are as they were -/
theorem zAt.put {D : va_G} {cA : Nat → ClassId} {ad : Nat → Nat → Nat} {lo : Nat} {f : zM} {H H1 : Heap} {k n j : Nat} {x : Int32} (hP : zAt D cA ad f H) (hG : zG ad lo) (hn : n < zcnt k) (oq : ∀ q : Nat, q ≠ ad k n → H1[q]? = H[q]?) (hw : va_at D vwCl (ad k n, zent cA ad (zup f k n j x) k n) H1) : zAt D cA ad (zup f k n j x) H1 := by
  intro k' n' hn'
  by_cases hk : k' = k ∧ n' = n
  · obtain ⟨rfl, rfl⟩ := hk
    exact hw
  · have hne : ad k' n' ≠ ad k n := fun q => hk (hG.2 k' n' k n hn' hn q)
    rw [show zent cA ad (zup f k n j x) k' n' = zent cA ad f k' n' from zent_congr (fun i => zup_ne f x (fun q => hk ⟨q.1, q.2.1⟩))]
    exact (hP k' n' hn').kept (oq _ hne)
theorem zP1 {D : va_G} {e : Nat × va_E} {H : Heap} (h : va_at D vwCl e H) : va_P D vwCl [e] H := fun k q hk => by
  have hz : k < 1 := (List.getElem?_eq_some_iff.mp hk).1
  rw [show k = 0 by omega] at hk
  cases hk
  exact h
/-- a field, by the pool number of the code that names it -/
def zFl (own : String) (idx ci j : Nat) : Prop := ∃ (C : String) (T : u_T) (N : Nat), vwCl[ci]? = some (C, T, N) ∧ j < N ∧ (∀ w ∈ u_ws C T N, w ∈ zT) ∧ Cond.fieldLink own idx (T j).1 (T j).2.1 (T j).2.2.1 ∈ zT
/-- what a write to it wants besides -/
def zFw (ci j : Nat) (ty : FieldType) : Prop := ∃ (C : String) (T : u_T) (N : Nat) (ty0 : Nat → FieldType), vwCl[ci]? = some (C, T, N) ∧ (∀ k, k < N → parseFieldDescriptor (T k).2.2.1 = some (ty0 k)) ∧ (∀ a, a < N → ∀ b, b < N → a ≠ b → (T a).2.1 ≠ (T b).2.1) ∧ (T j).2.2.2 = false ∧ parseFieldDescriptor (T j).2.2.1 = some ty
section ZR
variable {X : zX} {cc : ByteArray} {own : String} {d : Nat} {pc : Nat} {L : List (Option zV)} {st : List zV} {f : zM}

theorem z_iconst {n : Int} {v : Int32} (C : zC X cc own d) (hd : decode cc pc = .ok (.iconst n, 1)) (hv : Int32.ofInt n = v) (kk : Z X (pc + 1) L (zi v :: st) f) : Z X pc L st f := by
  obtain ⟨p, l, e, R, s, m, args, below, meth, c, nL, D, cA, ad, lo, cells, slots, Tg⟩ := X
  obtain ⟨hx, hb, hml, hown, hts, hK, hG, hR, hcs⟩ := C
  intro H locs ls hP hS hl
  exact lv_iconst hx hb hd hv (kk H locs ls hP hS hl)
theorem z_bipush {n : Int} {v : Int32} (C : zC X cc own d) (hd : decode cc pc = .ok (.bipush n, 2)) (hv : (Int8.ofInt n).toInt32 = v) (kk : Z X (pc + 2) L (zi v :: st) f) : Z X pc L st f := by
  obtain ⟨p, l, e, R, s, m, args, below, meth, c, nL, D, cA, ad, lo, cells, slots, Tg⟩ := X
  obtain ⟨hx, hb, hml, hown, hts, hK, hG, hR, hcs⟩ := C
  intro H locs ls hP hS hl
  exact lv_bipush hx hb hd hv (kk H locs ls hP hS hl)
theorem z_sipush {n : Int} {v : Int32} (C : zC X cc own d) (hd : decode cc pc = .ok (.sipush n, 3)) (hv : (Int16.ofInt n).toInt32 = v) (kk : Z X (pc + 3) L (zi v :: st) f) : Z X pc L st f := by
  obtain ⟨p, l, e, R, s, m, args, below, meth, c, nL, D, cA, ad, lo, cells, slots, Tg⟩ := X
  obtain ⟨hx, hb, hml, hown, hts, hK, hG, hR, hcs⟩ := C
  intro H locs ls hP hS hl
  exact lv_sipush hx hb hd hv (kk H locs ls hP hS hl)
theorem z_lconst {n : Fin 2} {v : Int64} (C : zC X cc own d) (hd : decode cc pc = .ok (.lconst n, 1)) (hv : Int64.ofNat (n : Nat) = v) (kk : Z X (pc + 1) L (zl v :: st) f) : Z X pc L st f := by
  obtain ⟨p, l, e, R, s, m, args, below, meth, c, nL, D, cA, ad, lo, cells, slots, Tg⟩ := X
  obtain ⟨hx, hb, hml, hown, hts, hK, hG, hR, hcs⟩ := C
  intro H locs ls hP hS hl
  exact lv_lconst hx hb hd hv (kk H locs ls hP hS hl)
theorem z_ldc {idx : Nat} {v : Int32} (C : zC X cc own d) (hw : Cond.constant own idx v ∈ zT) (hd : decode cc pc = .ok (.ldc idx, 2)) (kk : Z X (pc + 2) L (zi v :: st) f) : Z X pc L st f := by
  obtain ⟨p, l, e, R, s, m, args, below, meth, c, nL, D, cA, ad, lo, cells, slots, Tg⟩ := X
  obtain ⟨hx, hb, hml, hown, hts, hK, hG, hR, hcs⟩ := C
  intro H locs ls hP hS hl
  exact lv_ldc hx hb hown (hts _ hw) hd (kk H locs ls hP hS hl)
theorem z_ldc2 {idx : Nat} {v : Int64} (C : zC X cc own d) (hw : Cond.constantLong own idx v ∈ zT) (hd : decode cc pc = .ok (.ldc2_w idx, 3)) (kk : Z X (pc + 3) L (zl v :: st) f) : Z X pc L st f := by
  obtain ⟨p, l, e, R, s, m, args, below, meth, c, nL, D, cA, ad, lo, cells, slots, Tg⟩ := X
  obtain ⟨hx, hb, hml, hown, hts, hK, hG, hR, hcs⟩ := C
  intro H locs ls hP hS hl
  exact lv_ldc2 hx hb hown (hts _ hw) hd (kk H locs ls hP hS hl)
theorem z_iload_n {k : Fin 4} {x : Int32} (C : zC X cc own d) (hd : decode cc pc = .ok (.iload_n k, 1)) (hi : L[(k : Nat)]? = some (some (zi x))) (kk : Z X (pc + 1) L (zi x :: st) f) : Z X pc L st f := by
  obtain ⟨p, l, e, R, s, m, args, below, meth, c, nL, D, cA, ad, lo, cells, slots, Tg⟩ := X
  obtain ⟨hx, hb, hml, hown, hts, hK, hG, hR, hcs⟩ := C
  intro H locs ls hP hS hl
  exact lv_iload_n hx hb hd rfl (zat hl hi) (kk H locs ls hP hS hl)
theorem z_iload {k : Nat} {x : Int32} (C : zC X cc own d) (hd : decode cc pc = .ok (.iload k, 2)) (hi : L[k]? = some (some (zi x))) (kk : Z X (pc + 2) L (zi x :: st) f) : Z X pc L st f := by
  obtain ⟨p, l, e, R, s, m, args, below, meth, c, nL, D, cA, ad, lo, cells, slots, Tg⟩ := X
  obtain ⟨hx, hb, hml, hown, hts, hK, hG, hR, hcs⟩ := C
  intro H locs ls hP hS hl
  exact lv_iload hx hb hd (zat hl hi) (kk H locs ls hP hS hl)
theorem z_lload_n {k : Fin 4} {x : Int64} (C : zC X cc own d) (hd : decode cc pc = .ok (.lload_n k, 1)) (hi : L[(k : Nat)]? = some (some (zl x))) (kk : Z X (pc + 1) L (zl x :: st) f) : Z X pc L st f := by
  obtain ⟨p, l, e, R, s, m, args, below, meth, c, nL, D, cA, ad, lo, cells, slots, Tg⟩ := X
  obtain ⟨hx, hb, hml, hown, hts, hK, hG, hR, hcs⟩ := C
  intro H locs ls hP hS hl
  exact lv_lload_n hx hb hd rfl (zat hl hi) (kk H locs ls hP hS hl)
theorem z_lload {k : Nat} {x : Int64} (C : zC X cc own d) (hd : decode cc pc = .ok (.lload k, 2)) (hi : L[k]? = some (some (zl x))) (kk : Z X (pc + 2) L (zl x :: st) f) : Z X pc L st f := by
  obtain ⟨p, l, e, R, s, m, args, below, meth, c, nL, D, cA, ad, lo, cells, slots, Tg⟩ := X
  obtain ⟨hx, hb, hml, hown, hts, hK, hG, hR, hcs⟩ := C
  intro H locs ls hP hS hl
  exact lv_lload hx hb hd (zat hl hi) (kk H locs ls hP hS hl)
theorem z_aload_n {k : Fin 4} {kd nn : Nat} (C : zC X cc own d) (hd : decode cc pc = .ok (.aload_n k, 1)) (hi : L[(k : Nat)]? = some (some (zr kd nn))) (kk : Z X (pc + 1) L (zr kd nn :: st) f) : Z X pc L st f := by
  obtain ⟨p, l, e, R, s, m, args, below, meth, c, nL, D, cA, ad, lo, cells, slots, Tg⟩ := X
  obtain ⟨hx, hb, hml, hown, hts, hK, hG, hR, hcs⟩ := C
  intro H locs ls hP hS hl
  exact lv_aload_n hx hb hd rfl (zat hl hi) (kk H locs ls hP hS hl)
theorem z_aload {k : Nat} {kd nn : Nat} (C : zC X cc own d) (hd : decode cc pc = .ok (.aload k, 2)) (hi : L[k]? = some (some (zr kd nn))) (kk : Z X (pc + 2) L (zr kd nn :: st) f) : Z X pc L st f := by
  obtain ⟨p, l, e, R, s, m, args, below, meth, c, nL, D, cA, ad, lo, cells, slots, Tg⟩ := X
  obtain ⟨hx, hb, hml, hown, hts, hK, hG, hR, hcs⟩ := C
  intro H locs ls hP hS hl
  exact lv_aload hx hb hd (zat hl hi) (kk H locs ls hP hS hl)
theorem z_istore_n {k : Fin 4} {x : Int32} (C : zC X cc own d) (hd : decode cc pc = .ok (.istore_n k, 1)) (hn : (k : Nat) < znL X) (ho : zno L k = true) (kk : Z X (pc + 1) (L.set k (some (zi x))) st f) : Z X pc L (zi x :: st) f := by
  obtain ⟨p, l, e, R, s, m, args, below, meth, c, nL, D, cA, ad, lo, cells, slots, Tg⟩ := X
  obtain ⟨hx, hb, hml, hown, hts, hK, hG, hR, hcs⟩ := C
  intro H locs ls hP hS hl
  exact lv_istore_n hx hb hd rfl hl hn rfl (fun ls2 hl2 => kk H locs ls2 hP hS (lv_less hl2 (zset ho)))
theorem z_istore {k : Nat} {x : Int32} (C : zC X cc own d) (hd : decode cc pc = .ok (.istore k, 2)) (hn : k < znL X) (ho : zno L k = true) (kk : Z X (pc + 2) (L.set k (some (zi x))) st f) : Z X pc L (zi x :: st) f := by
  obtain ⟨p, l, e, R, s, m, args, below, meth, c, nL, D, cA, ad, lo, cells, slots, Tg⟩ := X
  obtain ⟨hx, hb, hml, hown, hts, hK, hG, hR, hcs⟩ := C
  intro H locs ls hP hS hl
  exact lv_istore hx hb hd hl hn rfl (fun ls2 hl2 => kk H locs ls2 hP hS (lv_less hl2 (zset ho)))
theorem z_astore_n {k : Fin 4} {kd nn : Nat} (C : zC X cc own d) (hd : decode cc pc = .ok (.astore_n k, 1)) (hn : (k : Nat) < znL X) (ho : zno L k = true) (kk : Z X (pc + 1) (L.set k (some (zr kd nn))) st f) : Z X pc L (zr kd nn :: st) f := by
  obtain ⟨p, l, e, R, s, m, args, below, meth, c, nL, D, cA, ad, lo, cells, slots, Tg⟩ := X
  obtain ⟨hx, hb, hml, hown, hts, hK, hG, hR, hcs⟩ := C
  intro H locs ls hP hS hl
  exact lv_astore_n hx hb hd rfl hl hn rfl (fun ls2 hl2 => kk H locs ls2 hP hS (lv_less hl2 (zset ho)))
theorem z_astore {k : Nat} {kd nn : Nat} (C : zC X cc own d) (hd : decode cc pc = .ok (.astore k, 2)) (hn : k < znL X) (ho : zno L k = true) (kk : Z X (pc + 2) (L.set k (some (zr kd nn))) st f) : Z X pc L (zr kd nn :: st) f := by
  obtain ⟨p, l, e, R, s, m, args, below, meth, c, nL, D, cA, ad, lo, cells, slots, Tg⟩ := X
  obtain ⟨hx, hb, hml, hown, hts, hK, hG, hR, hcs⟩ := C
  intro H locs ls hP hS hl
  exact lv_astore hx hb hd hl hn rfl (fun ls2 hl2 => kk H locs ls2 hP hS (lv_less hl2 (zset ho)))
theorem z_iinc {k : Nat} {n : Int} {x v : Int32} (C : zC X cc own d) (hd : decode cc pc = .ok (.iinc k n, 3)) (hi : L[k]? = some (some (zi x))) (hv : Int32.ofInt n = v) (hn : k < znL X) (ho : zno L k = true) (kk : Z X (pc + 3) (L.set k (some (zi (x + v)))) st f) : Z X pc L st f := by
  obtain ⟨p, l, e, R, s, m, args, below, meth, c, nL, D, cA, ad, lo, cells, slots, Tg⟩ := X
  obtain ⟨hx, hb, hml, hown, hts, hK, hG, hR, hcs⟩ := C
  intro H locs ls hP hS hl
  subst hv
  have hm := zlv_mem ad L 0 k (zi x) hi
  rw [Nat.zero_add] at hm
  obtain ⟨i, hi2⟩ := List.getElem?_of_mem hm
  exact lv_iinc hx hb hd hl hi2 rfl hn rfl (fun ls2 hl2 => kk H locs ls2 hP hS (lv_less hl2 (zset (v := zi (x + Int32.ofInt n)) ho)))
theorem z_iadd {x y : Int32} (C : zC X cc own d) (hd : decode cc pc = .ok (.iadd, 1)) (kk : Z X (pc + 1) L (zi (x + y) :: st) f) : Z X pc L (zi y :: zi x :: st) f := by
  obtain ⟨p, l, e, R, s, m, args, below, meth, c, nL, D, cA, ad, lo, cells, slots, Tg⟩ := X
  obtain ⟨hx, hb, hml, hown, hts, hK, hG, hR, hcs⟩ := C
  intro H locs ls hP hS hl
  exact lv_iadd hx hb hd (kk H locs ls hP hS hl)
theorem z_isub {x y : Int32} (C : zC X cc own d) (hd : decode cc pc = .ok (.isub, 1)) (kk : Z X (pc + 1) L (zi (x - y) :: st) f) : Z X pc L (zi y :: zi x :: st) f := by
  obtain ⟨p, l, e, R, s, m, args, below, meth, c, nL, D, cA, ad, lo, cells, slots, Tg⟩ := X
  obtain ⟨hx, hb, hml, hown, hts, hK, hG, hR, hcs⟩ := C
  intro H locs ls hP hS hl
  exact lv_isub hx hb hd (kk H locs ls hP hS hl)
theorem z_imul {x y : Int32} (C : zC X cc own d) (hd : decode cc pc = .ok (.imul, 1)) (kk : Z X (pc + 1) L (zi (x * y) :: st) f) : Z X pc L (zi y :: zi x :: st) f := by
  obtain ⟨p, l, e, R, s, m, args, below, meth, c, nL, D, cA, ad, lo, cells, slots, Tg⟩ := X
  obtain ⟨hx, hb, hml, hown, hts, hK, hG, hR, hcs⟩ := C
  intro H locs ls hP hS hl
  exact lv_imul hx hb hd (kk H locs ls hP hS hl)
theorem z_iand {x y : Int32} (C : zC X cc own d) (hd : decode cc pc = .ok (.iand, 1)) (kk : Z X (pc + 1) L (zi (x &&& y) :: st) f) : Z X pc L (zi y :: zi x :: st) f := by
  obtain ⟨p, l, e, R, s, m, args, below, meth, c, nL, D, cA, ad, lo, cells, slots, Tg⟩ := X
  obtain ⟨hx, hb, hml, hown, hts, hK, hG, hR, hcs⟩ := C
  intro H locs ls hP hS hl
  exact lv_iand hx hb hd (kk H locs ls hP hS hl)
theorem z_ior {x y : Int32} (C : zC X cc own d) (hd : decode cc pc = .ok (.ior, 1)) (kk : Z X (pc + 1) L (zi (x ||| y) :: st) f) : Z X pc L (zi y :: zi x :: st) f := by
  obtain ⟨p, l, e, R, s, m, args, below, meth, c, nL, D, cA, ad, lo, cells, slots, Tg⟩ := X
  obtain ⟨hx, hb, hml, hown, hts, hK, hG, hR, hcs⟩ := C
  intro H locs ls hP hS hl
  exact lv_ior hx hb hd (kk H locs ls hP hS hl)
theorem z_ixor {x y : Int32} (C : zC X cc own d) (hd : decode cc pc = .ok (.ixor, 1)) (kk : Z X (pc + 1) L (zi (x ^^^ y) :: st) f) : Z X pc L (zi y :: zi x :: st) f := by
  obtain ⟨p, l, e, R, s, m, args, below, meth, c, nL, D, cA, ad, lo, cells, slots, Tg⟩ := X
  obtain ⟨hx, hb, hml, hown, hts, hK, hG, hR, hcs⟩ := C
  intro H locs ls hP hS hl
  exact lv_ixor hx hb hd (kk H locs ls hP hS hl)
theorem z_ishl {x y : Int32} (C : zC X cc own d) (hd : decode cc pc = .ok (.ishl, 1)) (kk : Z X (pc + 1) L (zi (x <<< (y &&& 31)) :: st) f) : Z X pc L (zi y :: zi x :: st) f := by
  obtain ⟨p, l, e, R, s, m, args, below, meth, c, nL, D, cA, ad, lo, cells, slots, Tg⟩ := X
  obtain ⟨hx, hb, hml, hown, hts, hK, hG, hR, hcs⟩ := C
  intro H locs ls hP hS hl
  exact lv_ishl hx hb hd (kk H locs ls hP hS hl)
theorem z_ishr {x y : Int32} (C : zC X cc own d) (hd : decode cc pc = .ok (.ishr, 1)) (kk : Z X (pc + 1) L (zi (x >>> (y &&& 31)) :: st) f) : Z X pc L (zi y :: zi x :: st) f := by
  obtain ⟨p, l, e, R, s, m, args, below, meth, c, nL, D, cA, ad, lo, cells, slots, Tg⟩ := X
  obtain ⟨hx, hb, hml, hown, hts, hK, hG, hR, hcs⟩ := C
  intro H locs ls hP hS hl
  exact lv_ishr hx hb hd (kk H locs ls hP hS hl)
theorem z_iushr {x y : Int32} (C : zC X cc own d) (hd : decode cc pc = .ok (.iushr, 1)) (kk : Z X (pc + 1) L (zi ((x.toUInt32 >>> (y.toUInt32 &&& Int32.toUInt32 31)).toInt32) :: st) f) : Z X pc L (zi y :: zi x :: st) f := by
  obtain ⟨p, l, e, R, s, m, args, below, meth, c, nL, D, cA, ad, lo, cells, slots, Tg⟩ := X
  obtain ⟨hx, hb, hml, hown, hts, hK, hG, hR, hcs⟩ := C
  intro H locs ls hP hS hl
  exact lv_iushr hx hb hd rfl (kk H locs ls hP hS hl)
theorem z_idiv {x y : Int32} (C : zC X cc own d) (hd : decode cc pc = .ok (.idiv, 1)) (hne : ¬ y = 0) (kk : Z X (pc + 1) L (zi (x / y) :: st) f) : Z X pc L (zi y :: zi x :: st) f := by
  obtain ⟨p, l, e, R, s, m, args, below, meth, c, nL, D, cA, ad, lo, cells, slots, Tg⟩ := X
  obtain ⟨hx, hb, hml, hown, hts, hK, hG, hR, hcs⟩ := C
  intro H locs ls hP hS hl
  exact lv_idiv hx hb hd hne (kk H locs ls hP hS hl)
theorem z_irem {x y : Int32} (C : zC X cc own d) (hd : decode cc pc = .ok (.irem, 1)) (hne : ¬ y = 0) (kk : Z X (pc + 1) L (zi (x - x / y * y) :: st) f) : Z X pc L (zi y :: zi x :: st) f := by
  obtain ⟨p, l, e, R, s, m, args, below, meth, c, nL, D, cA, ad, lo, cells, slots, Tg⟩ := X
  obtain ⟨hx, hb, hml, hown, hts, hK, hG, hR, hcs⟩ := C
  intro H locs ls hP hS hl
  exact lv_irem hx hb hd hne (kk H locs ls hP hS hl)
theorem z_ineg {x : Int32} (C : zC X cc own d) (hd : decode cc pc = .ok (.ineg, 1)) (kk : Z X (pc + 1) L (zi (-x) :: st) f) : Z X pc L (zi x :: st) f := by
  obtain ⟨p, l, e, R, s, m, args, below, meth, c, nL, D, cA, ad, lo, cells, slots, Tg⟩ := X
  obtain ⟨hx, hb, hml, hown, hts, hK, hG, hR, hcs⟩ := C
  intro H locs ls hP hS hl
  exact lv_ineg hx hb hd (kk H locs ls hP hS hl)
theorem z_land {x y : Int64} (C : zC X cc own d) (hd : decode cc pc = .ok (.land, 1)) (kk : Z X (pc + 1) L (zl (x &&& y) :: st) f) : Z X pc L (zl y :: zl x :: st) f := by
  obtain ⟨p, l, e, R, s, m, args, below, meth, c, nL, D, cA, ad, lo, cells, slots, Tg⟩ := X
  obtain ⟨hx, hb, hml, hown, hts, hK, hG, hR, hcs⟩ := C
  intro H locs ls hP hS hl
  exact lv_land hx hb hd (kk H locs ls hP hS hl)
theorem z_lor {x y : Int64} (C : zC X cc own d) (hd : decode cc pc = .ok (.lor, 1)) (kk : Z X (pc + 1) L (zl (x ||| y) :: st) f) : Z X pc L (zl y :: zl x :: st) f := by
  obtain ⟨p, l, e, R, s, m, args, below, meth, c, nL, D, cA, ad, lo, cells, slots, Tg⟩ := X
  obtain ⟨hx, hb, hml, hown, hts, hK, hG, hR, hcs⟩ := C
  intro H locs ls hP hS hl
  exact lv_lor hx hb hd (kk H locs ls hP hS hl)
theorem z_ladd {x y : Int64} (C : zC X cc own d) (hd : decode cc pc = .ok (.ladd, 1)) (kk : Z X (pc + 1) L (zl (x + y) :: st) f) : Z X pc L (zl y :: zl x :: st) f := by
  obtain ⟨p, l, e, R, s, m, args, below, meth, c, nL, D, cA, ad, lo, cells, slots, Tg⟩ := X
  obtain ⟨hx, hb, hml, hown, hts, hK, hG, hR, hcs⟩ := C
  intro H locs ls hP hS hl
  exact lv_ladd hx hb hd (kk H locs ls hP hS hl)
theorem z_lsub {x y : Int64} (C : zC X cc own d) (hd : decode cc pc = .ok (.lsub, 1)) (kk : Z X (pc + 1) L (zl (x - y) :: st) f) : Z X pc L (zl y :: zl x :: st) f := by
  obtain ⟨p, l, e, R, s, m, args, below, meth, c, nL, D, cA, ad, lo, cells, slots, Tg⟩ := X
  obtain ⟨hx, hb, hml, hown, hts, hK, hG, hR, hcs⟩ := C
  intro H locs ls hP hS hl
  exact lv_lsub hx hb hd (kk H locs ls hP hS hl)
theorem z_lshl {x : Int64} {y : Int32} (C : zC X cc own d) (hd : decode cc pc = .ok (.lshl, 1)) (kk : Z X (pc + 1) L (zl (x <<< (y.toInt64 &&& 63)) :: st) f) : Z X pc L (zi y :: zl x :: st) f := by
  obtain ⟨p, l, e, R, s, m, args, below, meth, c, nL, D, cA, ad, lo, cells, slots, Tg⟩ := X
  obtain ⟨hx, hb, hml, hown, hts, hK, hG, hR, hcs⟩ := C
  intro H locs ls hP hS hl
  exact lv_lshl hx hb hd rfl (kk H locs ls hP hS hl)
theorem z_lshr {x : Int64} {y : Int32} (C : zC X cc own d) (hd : decode cc pc = .ok (.lshr, 1)) (kk : Z X (pc + 1) L (zl (x >>> (y.toInt64 &&& 63)) :: st) f) : Z X pc L (zi y :: zl x :: st) f := by
  obtain ⟨p, l, e, R, s, m, args, below, meth, c, nL, D, cA, ad, lo, cells, slots, Tg⟩ := X
  obtain ⟨hx, hb, hml, hown, hts, hK, hG, hR, hcs⟩ := C
  intro H locs ls hP hS hl
  exact lv_lshr hx hb hd rfl (kk H locs ls hP hS hl)
theorem z_lushr {x : Int64} {y : Int32} (C : zC X cc own d) (hd : decode cc pc = .ok (.lushr, 1)) (kk : Z X (pc + 1) L (zl ((x.toUInt64 >>> (y.toInt64.toUInt64 &&& Int64.toUInt64 63)).toInt64) :: st) f) : Z X pc L (zi y :: zl x :: st) f := by
  obtain ⟨p, l, e, R, s, m, args, below, meth, c, nL, D, cA, ad, lo, cells, slots, Tg⟩ := X
  obtain ⟨hx, hb, hml, hown, hts, hK, hG, hR, hcs⟩ := C
  intro H locs ls hP hS hl
  exact lv_lushr hx hb hd rfl (kk H locs ls hP hS hl)
theorem z_lcmp {x y : Int64} (C : zC X cc own d) (hd : decode cc pc = .ok (.lcmp, 1)) (kk : Z X (pc + 1) L (zi (lg_cmp x y) :: st) f) : Z X pc L (zl y :: zl x :: st) f := by
  obtain ⟨p, l, e, R, s, m, args, below, meth, c, nL, D, cA, ad, lo, cells, slots, Tg⟩ := X
  obtain ⟨hx, hb, hml, hown, hts, hK, hG, hR, hcs⟩ := C
  intro H locs ls hP hS hl
  exact W.lcmp hx hb hd (kk H locs ls hP hS hl)
theorem z_i2l {x : Int32} (C : zC X cc own d) (hd : decode cc pc = .ok (.i2l, 1)) (kk : Z X (pc + 1) L (zl x.toInt64 :: st) f) : Z X pc L (zi x :: st) f := by
  obtain ⟨p, l, e, R, s, m, args, below, meth, c, nL, D, cA, ad, lo, cells, slots, Tg⟩ := X
  obtain ⟨hx, hb, hml, hown, hts, hK, hG, hR, hcs⟩ := C
  intro H locs ls hP hS hl
  exact lv_i2l hx hb hd rfl (kk H locs ls hP hS hl)
theorem z_l2i {x : Int64} (C : zC X cc own d) (hd : decode cc pc = .ok (.l2i, 1)) (kk : Z X (pc + 1) L (zi x.toInt32 :: st) f) : Z X pc L (zl x :: st) f := by
  obtain ⟨p, l, e, R, s, m, args, below, meth, c, nL, D, cA, ad, lo, cells, slots, Tg⟩ := X
  obtain ⟨hx, hb, hml, hown, hts, hK, hG, hR, hcs⟩ := C
  intro H locs ls hP hS hl
  exact lv_l2i hx hb hd rfl (kk H locs ls hP hS hl)
theorem z_i2b {x : Int32} (C : zC X cc own d) (hd : decode cc pc = .ok (.i2b, 1)) (kk : Z X (pc + 1) L (zi (x.toInt8.toInt32) :: st) f) : Z X pc L (zi x :: st) f := by
  obtain ⟨p, l, e, R, s, m, args, below, meth, c, nL, D, cA, ad, lo, cells, slots, Tg⟩ := X
  obtain ⟨hx, hb, hml, hown, hts, hK, hG, hR, hcs⟩ := C
  intro H locs ls hP hS hl
  exact lv_i2b hx hb hd rfl (kk H locs ls hP hS hl)
theorem z_i2s {x : Int32} (C : zC X cc own d) (hd : decode cc pc = .ok (.i2s, 1)) (kk : Z X (pc + 1) L (zi (x.toInt16.toInt32) :: st) f) : Z X pc L (zi x :: st) f := by
  obtain ⟨p, l, e, R, s, m, args, below, meth, c, nL, D, cA, ad, lo, cells, slots, Tg⟩ := X
  obtain ⟨hx, hb, hml, hown, hts, hK, hG, hR, hcs⟩ := C
  intro H locs ls hP hS hl
  exact lv_i2s hx hb hd rfl (kk H locs ls hP hS hl)
theorem z_i2c {x : Int32} (C : zC X cc own d) (hd : decode cc pc = .ok (.i2c, 1)) (kk : Z X (pc + 1) L (zi ((x.toUInt32 % 65536).toInt32) :: st) f) : Z X pc L (zi x :: st) f := by
  obtain ⟨p, l, e, R, s, m, args, below, meth, c, nL, D, cA, ad, lo, cells, slots, Tg⟩ := X
  obtain ⟨hx, hb, hml, hown, hts, hK, hG, hR, hcs⟩ := C
  intro H locs ls hP hS hl
  exact lv_i2c hx hb hd rfl (kk H locs ls hP hS hl)
theorem z_dupi {x : Int32} (C : zC X cc own d) (hd : decode cc pc = .ok (.dup, 1)) (kk : Z X (pc + 1) L (zi x :: zi x :: st) f) : Z X pc L (zi x :: st) f := by
  obtain ⟨p, l, e, R, s, m, args, below, meth, c, nL, D, cA, ad, lo, cells, slots, Tg⟩ := X
  obtain ⟨hx, hb, hml, hown, hts, hK, hG, hR, hcs⟩ := C
  intro H locs ls hP hS hl
  exact lv_dup hx hb hd rfl (kk H locs ls hP hS hl)
theorem z_dupr {k n : Nat} (C : zC X cc own d) (hd : decode cc pc = .ok (.dup, 1)) (kk : Z X (pc + 1) L (zr k n :: zr k n :: st) f) : Z X pc L (zr k n :: st) f := by
  obtain ⟨p, l, e, R, s, m, args, below, meth, c, nL, D, cA, ad, lo, cells, slots, Tg⟩ := X
  obtain ⟨hx, hb, hml, hown, hts, hK, hG, hR, hcs⟩ := C
  intro H locs ls hP hS hl
  exact lv_dup hx hb hd rfl (kk H locs ls hP hS hl)
theorem z_dup2 {x : Int32} {k n : Nat} (C : zC X cc own d) (hd : decode cc pc = .ok (.dup2, 1)) (kk : Z X (pc + 1) L (zi x :: zr k n :: zi x :: zr k n :: st) f) : Z X pc L (zi x :: zr k n :: st) f := by
  obtain ⟨p, l, e, R, s, m, args, below, meth, c, nL, D, cA, ad, lo, cells, slots, Tg⟩ := X
  obtain ⟨hx, hb, hml, hown, hts, hK, hG, hR, hcs⟩ := C
  intro H locs ls hP hS hl
  exact lv_dup2_11 hx hb hd rfl rfl (kk H locs ls hP hS hl)
theorem z_dupx1 {x : Int32} {k n : Nat} (C : zC X cc own d) (hd : decode cc pc = .ok (.dup_x1, 1)) (kk : Z X (pc + 1) L (zi x :: zr k n :: zi x :: st) f) : Z X pc L (zi x :: zr k n :: st) f := by
  obtain ⟨p, l, e, R, s, m, args, below, meth, c, nL, D, cA, ad, lo, cells, slots, Tg⟩ := X
  obtain ⟨hx, hb, hml, hown, hts, hK, hG, hR, hcs⟩ := C
  intro H locs ls hP hS hl
  exact lv_dup_x1 hx hb hd rfl rfl (kk H locs ls hP hS hl)
theorem z_pop {x : Int32} (C : zC X cc own d) (hd : decode cc pc = .ok (.pop, 1)) (kk : Z X (pc + 1) L st f) : Z X pc L (zi x :: st) f := by
  obtain ⟨p, l, e, R, s, m, args, below, meth, c, nL, D, cA, ad, lo, cells, slots, Tg⟩ := X
  obtain ⟨hx, hb, hml, hown, hts, hK, hG, hR, hcs⟩ := C
  intro H locs ls hP hS hl
  exact lv_pop hx hb hd rfl (kk H locs ls hP hS hl)
theorem z_goto {off : Int} (tgt : Nat) (C : zC X cc own d) (hd : decode cc pc = .ok (.goto off, 3)) (ht : (pc : Int) + off = (tgt : Int)) (kk : Z X tgt L st f) : Z X pc L st f := by
  obtain ⟨p, l, e, R, s, m, args, below, meth, c, nL, D, cA, ad, lo, cells, slots, Tg⟩ := X
  obtain ⟨hx, hb, hml, hown, hts, hK, hG, hR, hcs⟩ := C
  intro H locs ls hP hS hl
  exact lv_goto hx hb hd ht (kk H locs ls hP hS hl)
theorem z_if_eq {x : Int32} {off : Int} (tgt : Nat) (C : zC X cc own d) (hd : decode cc pc = .ok (.ifCond .eq off, 3)) (ht : (pc : Int) + off = (tgt : Int)) (kt : x = 0 → Z X tgt L st f) (kf : ¬ (x = 0) → Z X (pc + 3) L st f) : Z X pc L (zi x :: st) f := by
  obtain ⟨p, l, e, R, s, m, args, below, meth, c, nL, D, cA, ad, lo, cells, slots, Tg⟩ := X
  obtain ⟨hx, hb, hml, hown, hts, hK, hG, hR, hcs⟩ := C
  intro H locs ls hP hS hl
  exact lv_if_eq hx hb hd ht (fun h => kt h H locs ls hP hS hl) (fun h => kf h H locs ls hP hS hl)
theorem z_icmp_eq {x y : Int32} {off : Int} (tgt : Nat) (C : zC X cc own d) (hd : decode cc pc = .ok (.if_icmp .eq off, 3)) (ht : (pc : Int) + off = (tgt : Int)) (kt : x = y → Z X tgt L st f) (kf : ¬ (x = y) → Z X (pc + 3) L st f) : Z X pc L (zi y :: zi x :: st) f := by
  obtain ⟨p, l, e, R, s, m, args, below, meth, c, nL, D, cA, ad, lo, cells, slots, Tg⟩ := X
  obtain ⟨hx, hb, hml, hown, hts, hK, hG, hR, hcs⟩ := C
  intro H locs ls hP hS hl
  exact lv_icmp_eq hx hb hd ht (fun h => kt h H locs ls hP hS hl) (fun h => kf h H locs ls hP hS hl)
theorem z_if_ne {x : Int32} {off : Int} (tgt : Nat) (C : zC X cc own d) (hd : decode cc pc = .ok (.ifCond .ne off, 3)) (ht : (pc : Int) + off = (tgt : Int)) (kt : ¬ x = 0 → Z X tgt L st f) (kf : x = 0 → Z X (pc + 3) L st f) : Z X pc L (zi x :: st) f := by
  obtain ⟨p, l, e, R, s, m, args, below, meth, c, nL, D, cA, ad, lo, cells, slots, Tg⟩ := X
  obtain ⟨hx, hb, hml, hown, hts, hK, hG, hR, hcs⟩ := C
  intro H locs ls hP hS hl
  exact lv_if_ne hx hb hd ht (fun h => kt h H locs ls hP hS hl) (fun h => kf h H locs ls hP hS hl)
theorem z_icmp_ne {x y : Int32} {off : Int} (tgt : Nat) (C : zC X cc own d) (hd : decode cc pc = .ok (.if_icmp .ne off, 3)) (ht : (pc : Int) + off = (tgt : Int)) (kt : ¬ x = y → Z X tgt L st f) (kf : x = y → Z X (pc + 3) L st f) : Z X pc L (zi y :: zi x :: st) f := by
  obtain ⟨p, l, e, R, s, m, args, below, meth, c, nL, D, cA, ad, lo, cells, slots, Tg⟩ := X
  obtain ⟨hx, hb, hml, hown, hts, hK, hG, hR, hcs⟩ := C
  intro H locs ls hP hS hl
  exact lv_icmp_ne hx hb hd ht (fun h => kt h H locs ls hP hS hl) (fun h => kf h H locs ls hP hS hl)
theorem z_if_lt {x : Int32} {off : Int} (tgt : Nat) (C : zC X cc own d) (hd : decode cc pc = .ok (.ifCond .lt off, 3)) (ht : (pc : Int) + off = (tgt : Int)) (kt : x < 0 → Z X tgt L st f) (kf : ¬ (x < 0) → Z X (pc + 3) L st f) : Z X pc L (zi x :: st) f := by
  obtain ⟨p, l, e, R, s, m, args, below, meth, c, nL, D, cA, ad, lo, cells, slots, Tg⟩ := X
  obtain ⟨hx, hb, hml, hown, hts, hK, hG, hR, hcs⟩ := C
  intro H locs ls hP hS hl
  exact lv_if_lt hx hb hd ht (fun h => kt h H locs ls hP hS hl) (fun h => kf h H locs ls hP hS hl)
theorem z_icmp_lt {x y : Int32} {off : Int} (tgt : Nat) (C : zC X cc own d) (hd : decode cc pc = .ok (.if_icmp .lt off, 3)) (ht : (pc : Int) + off = (tgt : Int)) (kt : x < y → Z X tgt L st f) (kf : ¬ (x < y) → Z X (pc + 3) L st f) : Z X pc L (zi y :: zi x :: st) f := by
  obtain ⟨p, l, e, R, s, m, args, below, meth, c, nL, D, cA, ad, lo, cells, slots, Tg⟩ := X
  obtain ⟨hx, hb, hml, hown, hts, hK, hG, hR, hcs⟩ := C
  intro H locs ls hP hS hl
  exact lv_icmp_lt hx hb hd ht (fun h => kt h H locs ls hP hS hl) (fun h => kf h H locs ls hP hS hl)
theorem z_if_ge {x : Int32} {off : Int} (tgt : Nat) (C : zC X cc own d) (hd : decode cc pc = .ok (.ifCond .ge off, 3)) (ht : (pc : Int) + off = (tgt : Int)) (kt : 0 ≤ x → Z X tgt L st f) (kf : ¬ (0 ≤ x) → Z X (pc + 3) L st f) : Z X pc L (zi x :: st) f := by
  obtain ⟨p, l, e, R, s, m, args, below, meth, c, nL, D, cA, ad, lo, cells, slots, Tg⟩ := X
  obtain ⟨hx, hb, hml, hown, hts, hK, hG, hR, hcs⟩ := C
  intro H locs ls hP hS hl
  exact lv_if_ge hx hb hd ht (fun h => kt h H locs ls hP hS hl) (fun h => kf h H locs ls hP hS hl)
theorem z_icmp_ge {x y : Int32} {off : Int} (tgt : Nat) (C : zC X cc own d) (hd : decode cc pc = .ok (.if_icmp .ge off, 3)) (ht : (pc : Int) + off = (tgt : Int)) (kt : y ≤ x → Z X tgt L st f) (kf : ¬ (y ≤ x) → Z X (pc + 3) L st f) : Z X pc L (zi y :: zi x :: st) f := by
  obtain ⟨p, l, e, R, s, m, args, below, meth, c, nL, D, cA, ad, lo, cells, slots, Tg⟩ := X
  obtain ⟨hx, hb, hml, hown, hts, hK, hG, hR, hcs⟩ := C
  intro H locs ls hP hS hl
  exact lv_icmp_ge hx hb hd ht (fun h => kt h H locs ls hP hS hl) (fun h => kf h H locs ls hP hS hl)
theorem z_if_gt {x : Int32} {off : Int} (tgt : Nat) (C : zC X cc own d) (hd : decode cc pc = .ok (.ifCond .gt off, 3)) (ht : (pc : Int) + off = (tgt : Int)) (kt : 0 < x → Z X tgt L st f) (kf : ¬ (0 < x) → Z X (pc + 3) L st f) : Z X pc L (zi x :: st) f := by
  obtain ⟨p, l, e, R, s, m, args, below, meth, c, nL, D, cA, ad, lo, cells, slots, Tg⟩ := X
  obtain ⟨hx, hb, hml, hown, hts, hK, hG, hR, hcs⟩ := C
  intro H locs ls hP hS hl
  exact lv_if_gt hx hb hd ht (fun h => kt h H locs ls hP hS hl) (fun h => kf h H locs ls hP hS hl)
theorem z_icmp_gt {x y : Int32} {off : Int} (tgt : Nat) (C : zC X cc own d) (hd : decode cc pc = .ok (.if_icmp .gt off, 3)) (ht : (pc : Int) + off = (tgt : Int)) (kt : y < x → Z X tgt L st f) (kf : ¬ (y < x) → Z X (pc + 3) L st f) : Z X pc L (zi y :: zi x :: st) f := by
  obtain ⟨p, l, e, R, s, m, args, below, meth, c, nL, D, cA, ad, lo, cells, slots, Tg⟩ := X
  obtain ⟨hx, hb, hml, hown, hts, hK, hG, hR, hcs⟩ := C
  intro H locs ls hP hS hl
  exact lv_icmp_gt hx hb hd ht (fun h => kt h H locs ls hP hS hl) (fun h => kf h H locs ls hP hS hl)
theorem z_if_le {x : Int32} {off : Int} (tgt : Nat) (C : zC X cc own d) (hd : decode cc pc = .ok (.ifCond .le off, 3)) (ht : (pc : Int) + off = (tgt : Int)) (kt : x ≤ 0 → Z X tgt L st f) (kf : ¬ (x ≤ 0) → Z X (pc + 3) L st f) : Z X pc L (zi x :: st) f := by
  obtain ⟨p, l, e, R, s, m, args, below, meth, c, nL, D, cA, ad, lo, cells, slots, Tg⟩ := X
  obtain ⟨hx, hb, hml, hown, hts, hK, hG, hR, hcs⟩ := C
  intro H locs ls hP hS hl
  exact lv_if_le hx hb hd ht (fun h => kt h H locs ls hP hS hl) (fun h => kf h H locs ls hP hS hl)
theorem z_icmp_le {x y : Int32} {off : Int} (tgt : Nat) (C : zC X cc own d) (hd : decode cc pc = .ok (.if_icmp .le off, 3)) (ht : (pc : Int) + off = (tgt : Int)) (kt : x ≤ y → Z X tgt L st f) (kf : ¬ (x ≤ y) → Z X (pc + 3) L st f) : Z X pc L (zi y :: zi x :: st) f := by
  obtain ⟨p, l, e, R, s, m, args, below, meth, c, nL, D, cA, ad, lo, cells, slots, Tg⟩ := X
  obtain ⟨hx, hb, hml, hown, hts, hK, hG, hR, hcs⟩ := C
  intro H locs ls hP hS hl
  exact lv_icmp_le hx hb hd ht (fun h => kt h H locs ls hP hS hl) (fun h => kf h H locs ls hP hS hl)
theorem z_tabOut {dflt lo0 hi : Int} {offs : Array Int} {len : Nat} {x : Int32} (tgt : Nat) (C : zC X cc own d) (hd : decode cc pc = .ok (.tableswitch dflt lo0 hi offs, len)) (h : x.toInt < lo0 ∨ hi < x.toInt) (ht : (pc : Int) + dflt = (tgt : Int)) (kk : Z X tgt L st f) : Z X pc L (zi x :: st) f := by
  obtain ⟨p, l, e, R, s, m, args, below, meth, c, nL, D, cA, ad, lo, cells, slots, Tg⟩ := X
  obtain ⟨hx, hb, hml, hown, hts, hK, hG, hR, hcs⟩ := C
  intro H locs ls hP hS hl
  exact lv_tableOut hx hb hd h ht (kk H locs ls hP hS hl)
theorem z_tabIn {dflt lo0 hi : Int} {offs : Array Int} {len : Nat} {x : Int32} {off : Int} (tgt : Nat) (C : zC X cc own d) (hd : decode cc pc = .ok (.tableswitch dflt lo0 hi offs, len)) (h1 : ¬ x.toInt < lo0) (h2 : ¬ hi < x.toInt) (ho : offs[(x.toInt - lo0).toNat]? = some off) (ht : (pc : Int) + off = (tgt : Int)) (kk : Z X tgt L st f) : Z X pc L (zi x :: st) f := by
  obtain ⟨p, l, e, R, s, m, args, below, meth, c, nL, D, cA, ad, lo, cells, slots, Tg⟩ := X
  obtain ⟨hx, hb, hml, hown, hts, hK, hG, hR, hcs⟩ := C
  intro H locs ls hP hS hl
  exact lv_tableIn hx hb hd h1 h2 ho ht (kk H locs ls hP hS hl)
theorem z_lookup {dflt : Int} {ps : Array (Int × Int)} {len : Nat} {x : Int32} {off : Int} (tgt : Nat) (C : zC X cc own d) (hd : decode cc pc = .ok (.lookupswitch dflt ps, len)) (hp : (ps.toList.zip (ps.toList.drop 1)).all (fun (a, next) => a.1 < next.1) = true) (ho : Op.lookupswitch.offset ps.toList dflt x.toInt = off) (ht : (pc : Int) + off = (tgt : Int)) (kk : Z X tgt L st f) : Z X pc L (zi x :: st) f := by
  obtain ⟨p, l, e, R, s, m, args, below, meth, c, nL, D, cA, ad, lo, cells, slots, Tg⟩ := X
  obtain ⟨hx, hb, hml, hown, hts, hK, hG, hR, hcs⟩ := C
  intro H locs ls hP hS hl
  exact lv_lookup hx hb hd hp ho ht (kk H locs ls hP hS hl)
theorem z_getI {k n idx ci j : Nat} {fds : List zFd} (C : zC X cc own d) (hF : zFl own idx ci j) (hs : zshp k = .inl (ci, fds)) (hj : fds[j]? = some none) (hn : n < zcnt k) (hd : decode cc pc = .ok (.getfield idx, 3)) (kk : Z X (pc + 3) L (zi (f k n j) :: st) f) : Z X pc L (zr k n :: st) f := by
  obtain ⟨p, l, e, R, s, m, args, below, meth, c, nL, D, cA, ad, lo, cells, slots, Tg⟩ := X
  obtain ⟨hx, hb, hml, hown, hts, hK, hG, hR, hcs⟩ := C
  intro H locs ls hP hS hl
  obtain ⟨Cn, Tn, N, h1, h2, h3, h4⟩ := hF
  have hv := hP k n hn
  rw [zent_obj hs] at hv
  have hg := zfl_get ad f k n fds 0 j none hj
  rw [Nat.zero_add] at hg
  exact va_get hx hb hts h3 hown hK.1 (zP1 hv) 0 rfl h1 j h2 (hts _ h4) (fun _ h => h) hg hd (kk H locs ls hP hS hl)
theorem z_getR {k n idx ci j k2 : Nat} {ph : Nat → Nat} {fds : List zFd} (C : zC X cc own d) (hF : zFl own idx ci j) (hs : zshp k = .inl (ci, fds)) (hj : fds[j]? = some (some (k2, ph))) (hn : n < zcnt k) (hd : decode cc pc = .ok (.getfield idx, 3)) (kk : Z X (pc + 3) L (zr k2 (ph n) :: st) f) : Z X pc L (zr k n :: st) f := by
  obtain ⟨p, l, e, R, s, m, args, below, meth, c, nL, D, cA, ad, lo, cells, slots, Tg⟩ := X
  obtain ⟨hx, hb, hml, hown, hts, hK, hG, hR, hcs⟩ := C
  intro H locs ls hP hS hl
  obtain ⟨Cn, Tn, N, h1, h2, h3, h4⟩ := hF
  have hv := hP k n hn
  rw [zent_obj hs] at hv
  have hg := zfl_get ad f k n fds 0 j _ hj
  exact va_get hx hb hts h3 hown hK.1 (zP1 hv) 0 rfl h1 j h2 (hts _ h4) (fun _ h => h) hg hd (kk H locs ls hP hS hl)
theorem z_putV {k n idx ci j : Nat} {x : Int32} {ty : FieldType} {fds : List zFd} (C : zC X cc own d) (hF : zFl own idx ci j) (hFw : zFw ci j ty) (hnr : narrow ty (.int x) = .int x) (hft : fits ty (.int x) = true) (hs : zshp k = .inl (ci, fds)) (hj : fds[j]? = some none) (hn : n < zcnt k) (hd : decode cc pc = .ok (.putfield idx, 3)) (kk : Z X (pc + 3) L st (zup f k n j x)) : Z X pc L (zi x :: zr k n :: st) f := by
  obtain ⟨p, l, e, R, s, m, args, below, meth, c, nL, D, cA, ad, lo, cells, slots, Tg⟩ := X
  obtain ⟨hx, hb, hml, hown, hts, hK, hG, hR, hcs⟩ := C
  intro H locs ls hP hS hl
  obtain ⟨Cn, Tn, N, h1, hk, hin, hlk⟩ := hF
  obtain ⟨Cm, Tm, M, ty0, g1, hty, hnm, hfin, hde⟩ := hFw
  cases h1.symm.trans g1
  have hv := hP k n hn
  rw [zent_obj hs] at hv
  have hap := va_apart (own := own) hts hin ty0 hty hnm hK.1 h1
  obtain ⟨r, h1', cell, q1, q2, q3, q4⟩ := hv
  have hr : r = (Cn, Tn, N) := Option.some.inj (h1'.symm.trans h1)
  subst hr
  obtain ⟨hS9, hfc, kC, hkC, hkind⟩ := hK.1.1 ci _ h1
  obtain ⟨cf, kf, fi, fd, hi, hsl⟩ := hS9 j hk
  have hlay := hts _ (hin _ (u_in_lay hk))
  unfold u_lay at hlay
  rw [if_neg (by rw [hfin]; decide)] at hlay
  have hst := (u_facts hfc hkC (u_lays hts hin hk) hi).1
  have h6 := u_store hfc hkC hkind hlay hi hde hnr hft
  have hlen : j < (zfl ad f k n 0 fds).length := by rw [zfl_len]; exact (List.getElem?_eq_some_iff.mp hj).1
  have hfs := zfl_set ad f k n x fds 0 j hj
  rw [Nat.zero_add] at hfs
  refine W.putK hx hb (f := fd) ⟨hown, hts _ hlk, ⟨_, _, _, hi⟩, hst⟩ (by rw [q2]; exact h6) q1 q3 (by rw [hsl]; exact k2_hasslot (q4 j hk)) rfl rfl hd fun H' e1 e2 e3 => ?_
  rw [hsl] at e1 ⊢
  refine kk H' _ ls (hP.put hG hn e3 ?_) (hS.put e2 e3 (hG.1 k n hn)) hl
  rw [zent_obj hs, ← hfs]
  exact ⟨_, h1, t_OB.to (V := updV (vp_V (zfl ad f k n 0 fds)) j (.int x)) ⟨_, e1, q2, q3, t_set q4 hap hk (.int x)⟩ (fun i _ => vp_updV_set hlen (.int x) i)⟩
theorem z_putI {k n idx ci j : Nat} {x : Int32} {fds : List zFd} (C : zC X cc own d) (hF : zFl own idx ci j) (hFw : zFw ci j .int) (hs : zshp k = .inl (ci, fds)) (hj : fds[j]? = some none) (hn : n < zcnt k) (hd : decode cc pc = .ok (.putfield idx, 3)) (kk : Z X (pc + 3) L st (zup f k n j x)) : Z X pc L (zi x :: zr k n :: st) f := z_putV C hF hFw rfl rfl hs hj hn hd kk
theorem z_bool {x : Int32} (h : x = 0 ∨ x = 1) : narrow .boolean (.int x) = .int x ∧ fits .boolean (.int x) = true := by
  rcases h with rfl | rfl <;> exact ⟨by decide +kernel, by decide +kernel⟩
theorem z_putZ {k n idx ci j : Nat} {x : Int32} {fds : List zFd} (C : zC X cc own d) (hF : zFl own idx ci j) (hFw : zFw ci j .boolean) (hx01 : x = 0 ∨ x = 1) (hs : zshp k = .inl (ci, fds)) (hj : fds[j]? = some none) (hn : n < zcnt k) (hd : decode cc pc = .ok (.putfield idx, 3)) (kk : Z X (pc + 3) L st (zup f k n j x)) : Z X pc L (zi x :: zr k n :: st) f := z_putV C hF hFw (z_bool hx01).1 (z_bool hx01).2 hs hj hn hd kk
theorem z_iald {k n len : Nat} {i : Int32} (C : zC X cc own d) (hs : zshp k = .inr (0, len, none)) (hn : n < zcnt k) (hi : vp_in i len) (hd : decode cc pc = .ok (.iaload, 1)) (kk : Z X (pc + 1) L (zi (f k n i.toNatClampNeg) :: st) f) : Z X pc L (zi i :: zr k n :: st) f := by
  obtain ⟨p, l, e, R, s, m, args, below, meth, c, nL, D, cA, ad, lo, cells, slots, Tg⟩ := X
  obtain ⟨hx, hb, hml, hown, hts, hK, hG, hR, hcs⟩ := C
  intro H locs ls hP hS hl
  have hv := hP k n hn
  rw [zent_arr hs] at hv
  exact va_iald hx hb hK.1 (zP1 hv) 0 0 rfl (ztys_at cA (by decide)) hi hd (kk H locs ls hP hS hl)
theorem z_cald {k n len : Nat} {i : Int32} (C : zC X cc own d) (hs : zshp k = .inr (1, len, none)) (hn : n < zcnt k) (hi : vp_in i len) (hd : decode cc pc = .ok (.caload, 1)) (kk : Z X (pc + 1) L (zi (f k n i.toNatClampNeg) :: st) f) : Z X pc L (zi i :: zr k n :: st) f := by
  obtain ⟨p, l, e, R, s, m, args, below, meth, c, nL, D, cA, ad, lo, cells, slots, Tg⟩ := X
  obtain ⟨hx, hb, hml, hown, hts, hK, hG, hR, hcs⟩ := C
  intro H locs ls hP hS hl
  have hv := hP k n hn
  rw [zent_arr hs] at hv
  exact va_cald hx hb hK.1 (zP1 hv) 0 1 rfl (ztys_at cA (by decide)) hi hd (kk H locs ls hP hS hl)
theorem z_aald {k n t len k2 : Nat} {ps : Nat → Nat → Nat} {i : Int32} (C : zC X cc own d) (hs : zshp k = .inr (t, len, some (k2, ps))) (ht : zty t = .object (zOb t) ∧ t < 7) (hn : n < zcnt k) (hi : vp_in i len) (hd : decode cc pc = .ok (.aaload, 1)) (kk : Z X (pc + 1) L (zr k2 (ps n i.toNatClampNeg) :: st) f) : Z X pc L (zi i :: zr k n :: st) f := by
  obtain ⟨p, l, e, R, s, m, args, below, meth, c, nL, D, cA, ad, lo, cells, slots, Tg⟩ := X
  obtain ⟨hx, hb, hml, hown, hts, hK, hG, hR, hcs⟩ := C
  intro H locs ls hP hS hl
  have hv := hP k n hn
  rw [zent_rar hs] at hv
  have hat := ztys_at cA ht.2
  rw [ht.1] at hat
  exact va_aldq hx hb hK.1 (zP1 hv) 0 t rfl hat hi hd (kk H locs ls hP hS hl)
theorem z_alenI {k n len : Nat} {v : Int32} (C : zC X cc own d) (hs : zshp k = .inr (0, len, none)) (hn : n < zcnt k) (hv : Int32.ofNat len = v) (hd : decode cc pc = .ok (.arraylength, 1)) (kk : Z X (pc + 1) L (zi v :: st) f) : Z X pc L (zr k n :: st) f := by
  obtain ⟨p, l, e, R, s, m, args, below, meth, c, nL, D, cA, ad, lo, cells, slots, Tg⟩ := X
  obtain ⟨hx, hb, hml, hown, hts, hK, hG, hR, hcs⟩ := C
  intro H locs ls hP hS hl
  have hv2 := hP k n hn
  rw [zent_arr hs] at hv2
  exact va_alen hx hb hK.1 (zP1 hv2) 0 0 rfl (ztys_at cA (by decide)) hv hd (kk H locs ls hP hS hl)
theorem z_iast {k n len : Nat} {i x : Int32} (C : zC X cc own d) (hs : zshp k = .inr (0, len, none)) (hn : n < zcnt k) (hi : vp_in i len) (hd : decode cc pc = .ok (.iastore, 1)) (kk : Z X (pc + 1) L st (zup f k n i.toNatClampNeg x)) : Z X pc L (zi x :: zi i :: zr k n :: st) f := by
  obtain ⟨p, l, e, R, s, m, args, below, meth, c, nL, D, cA, ad, lo, cells, slots, Tg⟩ := X
  obtain ⟨hx, hb, hml, hown, hts, hK, hG, hR, hcs⟩ := C
  intro H locs ls hP hS hl
  have hv := hP k n hn
  rw [zent_arr hs] at hv
  refine W.iast hx hb hv ((hK.1.2 0 _ (ztys_at cA (by decide))).1 len (fun j => .int (f k n j))) (fun q => by cases q) (by show ¬ (i < 0 ∨ (arrV _ _ _).slots.size ≤ _); rw [arrV_size]; exact hi) rfl rfl hd fun H1 e z oq => ?_
  refine kk H1 _ ls (hP.put hG hn oq ?_) (hS.put z oq (hG.1 k n hn)) hl
  rw [zent_arr hs]
  show H1[ad k n]? = some (vp_cell _ _)
  rw [e, vp_cell_i, vp_cell_i, arrV_store]
  congr 2
  funext q
  by_cases hq : q = i.toNatClampNeg
  · subst hq
    simp [updV, zup]
  · simp [updV, zup, hq]
theorem z_cast {k n len : Nat} {i x : Int32} (C : zC X cc own d) (hs : zshp k = .inr (1, len, none)) (hn : n < zcnt k) (hi : vp_in i len) (hd : decode cc pc = .ok (.castore, 1)) (kk : Z X (pc + 1) L st (zup f k n i.toNatClampNeg (vp_nar .char x))) : Z X pc L (zi x :: zi i :: zr k n :: st) f := by
  obtain ⟨p, l, e, R, s, m, args, below, meth, c, nL, D, cA, ad, lo, cells, slots, Tg⟩ := X
  obtain ⟨hx, hb, hml, hown, hts, hK, hG, hR, hcs⟩ := C
  intro H locs ls hP hS hl
  have hv := hP k n hn
  rw [zent_arr hs] at hv
  refine W.cast hx hb hv ((hK.1.2 1 _ (ztys_at cA (by decide))).1 len (fun j => .int (f k n j))) (fun q => by cases q) (by show ¬ (i < 0 ∨ (arrV _ _ _).slots.size ≤ _); rw [arrV_size]; exact hi) rfl rfl hd fun H1 e z oq => ?_
  refine kk H1 _ ls (hP.put hG hn oq ?_) (hS.put z oq (hG.1 k n hn)) hl
  rw [zent_arr hs]
  show H1[ad k n]? = some (vp_cell _ _)
  rw [e, vp_cell_i, vp_cell_i, arrV_store]
  congr 2
  funext q
  by_cases hq : q = i.toNatClampNeg
  · subst hq
    simp [updV, zup, vp_nar]
    try rfl
  · simp [updV, zup, hq]
end ZR
/-! ===== contracts ===== -/
def zroom (d : Nat) : Room := { frames := d, cells := 0, slots := 0, locals := 40 * d }
def zPre (D : va_G) (cA : Nat → ClassId) (ad : Nat → Nat → Nat) (f : zM) (as : List zV) : Array Value → State → Prop := va_Pc (as.map (zcv ad)) (fun U => zK D cA U ∧ zAt D cA ad f U.heap)
def zPost (D : va_G) (cA : Nat → ClassId) (ad : Nat → Nat → Nat) (lo : Nat) (Q : Option zV → zM → Prop) : Array Value → State → Outcome → State → Prop := fun _ st o t => ∃ (r : Option zV) (f' : zM), o = .returned (r.map (zcv ad)) ∧ Q r f' ∧ zAt D cA ad f' t.heap ∧ va_F (fun q => lo ≤ q) st t
/-- the contract of method y: called with these arguments on this memory, it returns, and Q holds of its answer and of the memory behind it -/
def ZM (d : Nat) (y : MethodName) (cc : ByteArray) (nL : Nat) (rt : Option FieldType) (as : List zV) (f : zM) (Q : Option zV → zM → Prop) : Prop := ∀ (l : Launch) (D : va_G) (cA : Nat → ClassId) (ad : Nat → Nat → Nat) (lo : Nat), zG ad lo →
  Met l y (.code y cc nL rt :: zT) (zroom d) (zPre D cA ad f as) (zPost D cA ad lo Q) 0 0 (fun q => lo ≤ q)
def zRet : zX → Option FieldType → (Option zV → zM → Prop) → Prop
  | (p, l, e, R, s, m, args, below, meth, c, nL, D, cA, ad, lo, cells, slots, Tg), rt, Q => meth.sig.returnType = rt ∧ meth.locks = false ∧ Tg = MQ below (zPost D cA ad lo Q) args s cells slots (fun q => lo ≤ q)
def zL0 (as : List zV) (nL : Nat) : List (Option zV) := zarg as ++ List.replicate (nL - (zarg as).length) none
theorem zarg_len (ad : Nat → Nat → Nat) : ∀ as : List zV, (lg_sl (as.map (zcv ad))).length = (zarg as).length
  | [] => rfl
  | .inl x :: r => by simpa [lg_sl, zcv, zarg, Value.category] using zarg_len ad r
  | .inr (.inl x) :: r => by simpa [lg_sl, zcv, zarg, Value.category] using zarg_len ad r
  | .inr (.inr x) :: r => by simpa [lg_sl, zcv, zarg, Value.category] using zarg_len ad r
theorem ZM.intro {d : Nat} {y : MethodName} {cc : ByteArray} {nL : Nat} {rt : Option FieldType} {as : List zV} {f : zM} {Q : Option zV → zM → Prop} (hy : plainName y.cls = true) (hlen : (zarg as).length ≤ nL)
    (h : ∀ X : zX, zC X cc y.cls d → zRet X rt Q → znL X = nL → Z X 0 (zL0 as nL) [] f) : ZM d y cc nL rt as f Q := by
  intro l D cA ad lo hG
  refine Met.ofW (cc := cc) (maxL := nL) (ret := rt) hy rfl ?_
  intro p e s m args below meth c s₁ B hml hv
  obtain ⟨rfl, hK, hP⟩ := hv
  have hts0 := atoms_spec (ws := .code y cc nL rt :: zT) B.pre
  have hts : ∀ w ∈ zT, w.before (as.map (zcv ad)).toArray s = true := fun w hw => hts0 w (List.mem_cons_of_mem _ hw)
  have hZ := h (p, l, e, (headSpec (.code y cc nL rt :: zT) (zroom d)).room, s, m, (as.map (zcv ad)).toArray, below, meth, c, nL, D, cA, ad, lo, 0, 0, MQ below (zPost D cA ad lo Q) (as.map (zcv ad)).toArray s 0 0 (fun q => lo ≤ q))
    ⟨B.exec, B.bytes, hml, findClass_of_methodNamed B.named, hts, hK, hG, ⟨Nat.le_refl _, Nat.le_refl _⟩, Nat.zero_le _, Nat.zero_le _⟩ ⟨B.returns, B.notSynchronized, rfl⟩ rfl
  have hl := lv_entry (as.map (zcv ad)) (n := nL) (by rw [zarg_len ad as]; exact hlen)
  rw [lg_entry_eq]
  generalize (lg_sl (as.map (zcv ad)) ++ List.replicate (nL - (lg_sl (as.map (zcv ad))).length) Slot.unset).toArray = ls at hl ⊢
  refine hZ s.heap [] ls hP va_S.rf ?_
  rw [zL0, zlv_arg]
  exact hl
section ZR2
variable {X : zX} {cc : ByteArray} {own : String} {d : Nat} {pc : Nat} {L : List (Option zV)} {st : List zV} {f : zM} {Q : Option zV → zM → Prop}

theorem z_iret {v : Int32} (C : zC X cc own d) (hr : zRet X (some .int) Q) (hd : decode cc pc = .ok (.ireturn, 1)) (hq : Q (some (zi v)) f) : Z X pc L [zi v] f := by
  obtain ⟨p, l, e, R, s, m, args, below, meth, c, nL, D, cA, ad, lo, cells, slots, Tg⟩ := X
  obtain ⟨hx, hb, hml, hown, hts, hK, hG, hR, hcs⟩ := C
  intro H locs ls hP hS hl
  obtain ⟨r1, r2, rfl⟩ := hr
  exact W.iret (v := v) hx hb r1 (fun t ht hW => ⟨(some (zi v)), f, rfl, hq, by rw [ht]; exact hP, hS.F ht⟩) hS.2.2 hd r2
theorem z_vret (C : zC X cc own d) (hr : zRet X (none) Q) (hd : decode cc pc = .ok (.return_, 1)) (hq : Q none f) : Z X pc L [] f := by
  obtain ⟨p, l, e, R, s, m, args, below, meth, c, nL, D, cA, ad, lo, cells, slots, Tg⟩ := X
  obtain ⟨hx, hb, hml, hown, hts, hK, hG, hR, hcs⟩ := C
  intro H locs ls hP hS hl
  obtain ⟨r1, r2, rfl⟩ := hr
  exact W.vret hx hb r1 (fun t ht hW => ⟨none, f, rfl, hq, by rw [ht]; exact hP, hS.F ht⟩) hS.2.2 hd r2
theorem z_zret {v : Int32} (C : zC X cc own d) (hr : zRet X (some .boolean) Q) (hv : v = 0 ∨ v = 1) (hd : decode cc pc = .ok (.ireturn, 1)) (hq : Q (some (zi v)) f) : Z X pc L [zi v] f := by
  obtain ⟨p, l, e, R, s, m, args, below, meth, c, nL, D, cA, ad, lo, cells, slots, Tg⟩ := X
  obtain ⟨hx, hb, hml, hown, hts, hK, hG, hR, hcs⟩ := C
  intro H locs ls hP hS hl
  obtain ⟨r1, r2, rfl⟩ := hr
  exact W.zret (v := v) hx hb r1 (z_bool hv).1 (fun t ht hW => ⟨(some (zi v)), f, rfl, hq, by rw [ht]; exact hP, hS.F ht⟩) hS.2.2 hd r2
end ZR2
theorem zBlind {D : va_G} {cA : Nat → ClassId} {ad : Nat → Nat → Nat} {f : zM} {as : List zV} : FrameBlind (zPre D cA ad f as) := by
  intro a U g mk h
  obtain ⟨h1, h2, h3⟩ := h
  exact ⟨h1, ⟨va_K.moved (u := U) (U := U.calling g mk a) (Vm.Alike.refl U.vm) h2.1, va_Nw.same rfl (rfl : U.vm = (U.calling g mk a).vm) h2.2⟩, h3⟩
/-- a call of an instance method: what the tables say -/
def zCv (own : String) (idx : Nat) (y : MethodName) (cy : ByteArray) (nLy : Nat) (rty : Option FieldType) (n : Nat) : Prop := Cond.methodLink own idx y ∈ zT ∧ Cond.instanceMethod y ∈ zT ∧ Cond.selects y.cls y y ∈ zT ∧ Cond.initialized y.cls ∈ zT ∧ Cond.code y cy nLy rty ∈ zT ∧ (y.cls ≠ "java/lang/invoke/MethodHandle" ∧ y.cls ≠ "java/lang/invoke/VarHandle" ∧ (parseMethodDescriptor y.desc).map (fun q => q.parameters.length) = some n) ∧ nLy ≤ 21
def zCs (own : String) (idx : Nat) (y : MethodName) (cy : ByteArray) (nLy : Nat) (rty : Option FieldType) (n : Nat) : Prop := Cond.methodLink own idx y ∈ zT ∧ Cond.static y ∈ zT ∧ Cond.initialized y.cls ∈ zT ∧ Cond.code y cy nLy rty ∈ zT ∧ (y.cls ≠ "java/lang/invoke/MethodHandle" ∧ y.cls ≠ "java/lang/invoke/VarHandle" ∧ (parseMethodDescriptor y.desc).map (fun q => q.parameters.length) = some n) ∧ nLy ≤ 21
section ZR3
variable {p : Program} {l : Launch} {e : Env} {R : Room} {s : State} {m : MethodId} {args : Array Value} {below : List Frame} {meth : Method} {c : Code} {H : Heap} {locs : List Loc} {cells slots : Nat} {Qs : State → Prop}
variable {D : va_G} {cA : Nat → ClassId} {ad : Nat → Nat → Nat} {lo pc : Nat} {ls : Array Slot} {rest st0 : List Value} {a : Array Value} {H0 : Heap} {Q : Option zV → zM → Prop}
theorem zrun (hr : va_Run p l e R s m args below meth c H locs cells slots 0 0 (F0 m pc ls st0) rest (zPost D cA ad lo Q a) (fun q => lo ≤ q)) (hS : va_S (fun q => lo ≤ q) H0 H locs)
    (kk : ∀ (r : Option zV) (f' : zM) (H1 : Heap) (locs1 : List Loc), Q r f' → zAt D cA ad f' H1 → va_S (fun q => lo ≤ q) H0 H1 locs1 → W p l e R s m args below meth c H1 locs1 cells slots Qs (F0 m (pc + 3) ls ((r.map (zcv ad)).toList ++ rest))) : W p l e R s m args below meth c H locs cells slots Qs (F0 m pc ls st0) := by
  intro T hT X
  obtain ⟨v, st₀, t, T', L, h0, X', hL, e1, e2, ⟨r, f', hv, hq, hat, hz, hk⟩, st⟩ := hr T hT X
  cases hv
  rw [h0] at hz hk
  obtain ⟨t2, a1, b1⟩ := kk r f' T'.heap (locs ++ L) hq (by rw [e1]; exact hat)
    ⟨Nat.le_trans hS.1 (by rw [e1]; exact hz), fun q h1 h2 => by rw [e1, hk q (Nat.lt_of_lt_of_le h1 hS.1) h2]; exact hS.2.1 q h1 h2, fun q hq => by
      rcases List.mem_append.mp hq with h | h
      · exact hS.2.2 q h
      · exact hL q h⟩ T' rfl X'
  exact ⟨t2, st t2 a1, b1⟩
end ZR3
section ZR4
variable {X : zX} {cc : ByteArray} {own : String} {d : Nat} {pc : Nat} {L : List (Option zV)} {st stk : List zV} {f : zM} {Q : Option zV → zM → Prop} {y : MethodName} {cy : ByteArray} {nLy idx n : Nat} {rty : Option FieldType} {as : List zV}
theorem zroomR {R : Room} {nLy : Nat} (hR : d + 1 ≤ R.frames ∧ 40 * (d + 1) ≤ R.locals) (h : nLy ≤ 21) : (zroom d).frames + 1 ≤ R.frames ∧ 8 + (nLy + 11) + (zroom d).locals ≤ R.locals := ⟨hR.1, by show 8 + (nLy + 11) + 40 * d ≤ R.locals; omega⟩
theorem zopt (ad : Nat → Nat → Nat) (r : Option zV) (st : List zV) : (r.toList ++ st).map (zcv ad) = (r.map (zcv ad)).toList ++ st.map (zcv ad) := by cases r <;> simp
/-- a virtual call -/
theorem z_callV {k nn ci : Nat} {fds : List zFd} (C : zC X cc own (d + 1)) (hw : zCv own idx y cy nLy rty n) (hM : ZM d y cy nLy rty (zr k nn :: as) f Q) (hs : zshp k = .inl (ci, fds)) (hci : (vwCl[ci]?).map (fun q => q.1) = some y.cls) (hnn : nn < zcnt k) (hn : as.length = n) (hst : stk = as.reverse ++ zr k nn :: st) (hW : zsz st ≤ 8) (hd : decode cc pc = .ok (.invokevirtual idx, 3))
    (kk : ∀ (r : Option zV) (f' : zM), Q r f' → Z X (pc + 3) L (r.toList ++ st) f') : Z X pc L stk f := by
  obtain ⟨p, l, e, R, s, m, args, below, meth, c, nL, D, cA, ad, lo, cells, slots, Tg⟩ := X
  obtain ⟨hx, hb, hml, hown, hts, hK, hG, hR, hcs⟩ := C
  intro H locs ls hP hS hl
  obtain ⟨w1, w2, w3, w4, w5, w6, w7⟩ := hw
  have hv := hP k nn hnn
  rw [zent_obj hs] at hv
  obtain ⟨q, hq1, hq2⟩ := Option.map_eq_some_iff.mp hci
  have hrec := va_recv hK.1 (zP1 hv) hq1 (q0 := 0) rfl
  rw [hq2] at hrec
  have hB : CallB R s args own idx y cy nLy rty (.code y cy nLy rty :: zT) (zroom d) 0 0 n := callB_of n hts (zT_code w5) rfl rfl rfl (hts _ w4) (hts _ w1) w6 (zroomR hR w7)
  refine zrun (Q := Q) (va_runV (As := as.map (zcv ad)) (rest := st.map (zcv ad)) ⟨hx, hb, hml, hown, hts⟩ (hM l D cA ad lo hG) ⟨hB, hts _ w2, hts _ w3⟩ ⟨zBlind, hrec, fun U hU hWU => ⟨rfl, zK.moved hWU hK, by rw [hU]; exact hP⟩⟩ rfl (by rw [List.length_map]; exact hn) hl.1 (by rw [hst, List.map_append, List.map_reverse]; rfl) (lv_room (by rw [zsz_ok]; exact hW)) hd ⟨hcs.1, hcs.2⟩) hS (fun r f' H1 locs1 hq hat hS1 => ?_)
  have := kk r f' hq H1 locs1 ls hat hS1 hl
  rwa [zopt] at this
/-- a static call -/
theorem z_callS (C : zC X cc own (d + 1)) (hw : zCs own idx y cy nLy rty n) (hM : ZM d y cy nLy rty as f Q) (hn : as.length = n) (hst : stk = as.reverse ++ st) (hW : zsz st ≤ 8) (hd : decode cc pc = .ok (.invokestatic idx, 3))
    (kk : ∀ (r : Option zV) (f' : zM), Q r f' → Z X (pc + 3) L (r.toList ++ st) f') : Z X pc L stk f := by
  obtain ⟨p, l, e, R, s, m, args, below, meth, c, nL, D, cA, ad, lo, cells, slots, Tg⟩ := X
  obtain ⟨hx, hb, hml, hown, hts, hK, hG, hR, hcs⟩ := C
  intro H locs ls hP hS hl
  obtain ⟨w1, w2, w4, w5, w6, w7⟩ := hw
  have hB : CallB R s args own idx y cy nLy rty (.code y cy nLy rty :: zT) (zroom d) 0 0 n := callB_of n hts (zT_code w5) rfl rfl rfl (hts _ w4) (hts _ w1) w6 (zroomR hR w7)
  refine zrun (Q := Q) (va_runS (As := as.map (zcv ad)) (rest := st.map (zcv ad)) ⟨hx, hb, hml, hown, hts⟩ (hM l D cA ad lo hG) ⟨hB, hts _ w2⟩ ⟨zBlind, fun U hU hWU => ⟨rfl, zK.moved hWU hK, by rw [hU]; exact hP⟩⟩ rfl (by rw [List.length_map]; exact hn) hl.1 (by rw [hst, List.map_append, List.map_reverse]) (lv_room (by rw [zsz_ok]; exact hW)) hd ⟨hcs.1, hcs.2⟩) hS (fun r f' H1 locs1 hq hat hS1 => ?_)
  have := kk r f' hq H1 locs1 ls hat hS1 hl
  rwa [zopt] at this
/-- exact contracts -/
theorem z_callVx {k nn ci : Nat} {fds : List zFd} {r : Option zV} {f' : zM} (C : zC X cc own (d + 1)) (hw : zCv own idx y cy nLy rty n) (hM : ZM d y cy nLy rty (zr k nn :: as) f (fun r' g => r' = r ∧ g = f')) (hs : zshp k = .inl (ci, fds)) (hci : (vwCl[ci]?).map (fun q => q.1) = some y.cls) (hnn : nn < zcnt k) (hn : as.length = n) (hst : stk = as.reverse ++ zr k nn :: st) (hW : zsz st ≤ 8) (hd : decode cc pc = .ok (.invokevirtual idx, 3))
    (kk : Z X (pc + 3) L (r.toList ++ st) f') : Z X pc L stk f := z_callV C hw hM hs hci hnn hn hst hW hd (fun r2 f2 h => by obtain ⟨rfl, rfl⟩ := h; exact kk)
theorem z_callSx {r : Option zV} {f' : zM} (C : zC X cc own (d + 1)) (hw : zCs own idx y cy nLy rty n) (hM : ZM d y cy nLy rty as f (fun r' g => r' = r ∧ g = f')) (hn : as.length = n) (hst : stk = as.reverse ++ st) (hW : zsz st ≤ 8) (hd : decode cc pc = .ok (.invokestatic idx, 3))
    (kk : Z X (pc + 3) L (r.toList ++ st) f') : Z X pc L stk f := z_callS C hw hM hn hst hW hd (fun r2 f2 h => by obtain ⟨rfl, rfl⟩ := h; exact kk)
end ZR4
end
