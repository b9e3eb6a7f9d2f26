section
-- ===== PART A: goes FIRST, ahead of the names: the tables' words, and 'selects' of the private methods out of them =====
/-- a private method of a class that the tables say can be made, by its rows of tables_1 -/
def lw_okq (q : MethodName × Nat) : Prop := (q.1.cls ≠ "java/lang/invoke/MethodHandle" ∧ q.1.cls ≠ "java/lang/invoke/VarHandle") ∧ Cond.instantiable q.1.cls q.2 ∈ tables_1 ∧ Cond.privateMethod q.1 ∈ tables_1 ∧ Cond.instanceMethod q.1 ∈ tables_1
theorem lw_p0 : lw_okq (⟨"SentRoads", "addPaper", "(IIIII)I"⟩, 6) := ⟨⟨by decide +kernel, by decide +kernel⟩, List.mem_of_getElem? (i := 21) (by decide +kernel), List.mem_of_getElem? (i := 463) (by decide +kernel), List.mem_of_getElem? (i := 464) (by decide +kernel)⟩
theorem lw_p1 : lw_okq (⟨"SentRoads", "isPaper", "(I)Z"⟩, 6) := ⟨⟨by decide +kernel, by decide +kernel⟩, List.mem_of_getElem? (i := 21) (by decide +kernel), List.mem_of_getElem? (i := 677) (by decide +kernel), List.mem_of_getElem? (i := 678) (by decide +kernel)⟩
theorem lw_p2 : lw_okq (⟨"SentRoads", "isDeed", "(I)Z"⟩, 6) := ⟨⟨by decide +kernel, by decide +kernel⟩, List.mem_of_getElem? (i := 21) (by decide +kernel), List.mem_of_getElem? (i := 689) (by decide +kernel), List.mem_of_getElem? (i := 690) (by decide +kernel)⟩
theorem lw_p3 : lw_okq (⟨"SentRoadsModel", "free", "()V"⟩, 29) := ⟨⟨by decide +kernel, by decide +kernel⟩, List.mem_of_getElem? (i := 980) (by decide +kernel), List.mem_of_getElem? (i := 986) (by decide +kernel), List.mem_of_getElem? (i := 987) (by decide +kernel)⟩
theorem lw_p4 : lw_okq (⟨"SentRoadsModel", "addCrime", "(IIIIII)V"⟩, 29) := ⟨⟨by decide +kernel, by decide +kernel⟩, List.mem_of_getElem? (i := 980) (by decide +kernel), List.mem_of_getElem? (i := 1091) (by decide +kernel), List.mem_of_getElem? (i := 1092) (by decide +kernel)⟩
theorem lw_p5 : lw_okq (⟨"SentRoadsModel", "addPaper", "(IIIIIIII)I"⟩, 29) := ⟨⟨by decide +kernel, by decide +kernel⟩, List.mem_of_getElem? (i := 980) (by decide +kernel), List.mem_of_getElem? (i := 1109) (by decide +kernel), List.mem_of_getElem? (i := 1110) (by decide +kernel)⟩
theorem lw_p6 : lw_okq (⟨"SentRoadsModel", "isPaper", "(I)Z"⟩, 29) := ⟨⟨by decide +kernel, by decide +kernel⟩, List.mem_of_getElem? (i := 980) (by decide +kernel), List.mem_of_getElem? (i := 1129) (by decide +kernel), List.mem_of_getElem? (i := 1130) (by decide +kernel)⟩
theorem lw_p7 : lw_okq (⟨"SentRoadsModel", "isDeed", "(I)Z"⟩, 29) := ⟨⟨by decide +kernel, by decide +kernel⟩, List.mem_of_getElem? (i := 980) (by decide +kernel), List.mem_of_getElem? (i := 1141) (by decide +kernel), List.mem_of_getElem? (i := 1142) (by decide +kernel)⟩
theorem lw_p8 : lw_okq (⟨"SentRoadsModel", "crimesOf", "(II)I"⟩, 29) := ⟨⟨by decide +kernel, by decide +kernel⟩, List.mem_of_getElem? (i := 980) (by decide +kernel), List.mem_of_getElem? (i := 1145) (by decide +kernel), List.mem_of_getElem? (i := 1146) (by decide +kernel)⟩
theorem lw_p9 : lw_okq (⟨"SentRoadsModel", "areCrime", "(II)Z"⟩, 29) := ⟨⟨by decide +kernel, by decide +kernel⟩, List.mem_of_getElem? (i := 980) (by decide +kernel), List.mem_of_getElem? (i := 1149) (by decide +kernel), List.mem_of_getElem? (i := 1150) (by decide +kernel)⟩
theorem lw_p10 : lw_okq (⟨"SentRoadsModel", "yearsFor", "(II)I"⟩, 29) := ⟨⟨by decide +kernel, by decide +kernel⟩, List.mem_of_getElem? (i := 980) (by decide +kernel), List.mem_of_getElem? (i := 1157) (by decide +kernel), List.mem_of_getElem? (i := 1158) (by decide +kernel)⟩
theorem lw_p11 : lw_okq (⟨"SentRoadsModel", "allDeeds", "()I"⟩, 29) := ⟨⟨by decide +kernel, by decide +kernel⟩, List.mem_of_getElem? (i := 980) (by decide +kernel), List.mem_of_getElem? (i := 1178) (by decide +kernel), List.mem_of_getElem? (i := 1179) (by decide +kernel)⟩
theorem lw_p12 : lw_okq (⟨"SentRoadsModel", "isCovered", "(II)Z"⟩, 29) := ⟨⟨by decide +kernel, by decide +kernel⟩, List.mem_of_getElem? (i := 980) (by decide +kernel), List.mem_of_getElem? (i := 1186) (by decide +kernel), List.mem_of_getElem? (i := 1187) (by decide +kernel)⟩
theorem lw_p13 : lw_okq (⟨"SentRoadsModel", "standing", "(II)I"⟩, 29) := ⟨⟨by decide +kernel, by decide +kernel⟩, List.mem_of_getElem? (i := 980) (by decide +kernel), List.mem_of_getElem? (i := 1194) (by decide +kernel), List.mem_of_getElem? (i := 1195) (by decide +kernel)⟩
theorem lw_p14 : lw_okq (⟨"SentRoadsModel", "isDeadly", "(II)Z"⟩, 29) := ⟨⟨by decide +kernel, by decide +kernel⟩, List.mem_of_getElem? (i := 980) (by decide +kernel), List.mem_of_getElem? (i := 1198) (by decide +kernel), List.mem_of_getElem? (i := 1199) (by decide +kernel)⟩
theorem lw_p15 : lw_okq (⟨"SentRoadsModel", "findOpen", "()V"⟩, 29) := ⟨⟨by decide +kernel, by decide +kernel⟩, List.mem_of_getElem? (i := 980) (by decide +kernel), List.mem_of_getElem? (i := 1206) (by decide +kernel), List.mem_of_getElem? (i := 1207) (by decide +kernel)⟩
def lw_privs_1 : List (MethodName × Nat) := [(⟨"SentRoads", "addPaper", "(IIIII)I"⟩, 6), (⟨"SentRoads", "isPaper", "(I)Z"⟩, 6), (⟨"SentRoads", "isDeed", "(I)Z"⟩, 6), (⟨"SentRoadsModel", "free", "()V"⟩, 29), (⟨"SentRoadsModel", "addCrime", "(IIIIII)V"⟩, 29), (⟨"SentRoadsModel", "addPaper", "(IIIIIIII)I"⟩, 29), (⟨"SentRoadsModel", "isPaper", "(I)Z"⟩, 29), (⟨"SentRoadsModel", "isDeed", "(I)Z"⟩, 29), (⟨"SentRoadsModel", "crimesOf", "(II)I"⟩, 29), (⟨"SentRoadsModel", "areCrime", "(II)Z"⟩, 29), (⟨"SentRoadsModel", "yearsFor", "(II)I"⟩, 29), (⟨"SentRoadsModel", "allDeeds", "()I"⟩, 29), (⟨"SentRoadsModel", "isCovered", "(II)Z"⟩, 29), (⟨"SentRoadsModel", "standing", "(II)I"⟩, 29), (⟨"SentRoadsModel", "isDeadly", "(II)Z"⟩, 29), (⟨"SentRoadsModel", "findOpen", "()V"⟩, 29)]
theorem lw_r1 : ∀ q ∈ lw_privs_1, lw_okq q := List.forall_mem_cons.mpr ⟨lw_p0, List.forall_mem_cons.mpr ⟨lw_p1, List.forall_mem_cons.mpr ⟨lw_p2, List.forall_mem_cons.mpr ⟨lw_p3, List.forall_mem_cons.mpr ⟨lw_p4, List.forall_mem_cons.mpr ⟨lw_p5, List.forall_mem_cons.mpr ⟨lw_p6, List.forall_mem_cons.mpr ⟨lw_p7, List.forall_mem_cons.mpr ⟨lw_p8, List.forall_mem_cons.mpr ⟨lw_p9, List.forall_mem_cons.mpr ⟨lw_p10, List.forall_mem_cons.mpr ⟨lw_p11, List.forall_mem_cons.mpr ⟨lw_p12, List.forall_mem_cons.mpr ⟨lw_p13, List.forall_mem_cons.mpr ⟨lw_p14, List.forall_mem_cons.mpr ⟨lw_p15, fun _ h => absurd h List.not_mem_nil⟩⟩⟩⟩⟩⟩⟩⟩⟩⟩⟩⟩⟩⟩⟩⟩
theorem lw_p16 : lw_okq (⟨"SentRoadsModel", "goesNow", "(I)I"⟩, 29) := ⟨⟨by decide +kernel, by decide +kernel⟩, List.mem_of_getElem? (i := 980) (by decide +kernel), List.mem_of_getElem? (i := 1210) (by decide +kernel), List.mem_of_getElem? (i := 1211) (by decide +kernel)⟩
theorem lw_p17 : lw_okq (⟨"SentRoadsModel", "goes", "(IIIII)I"⟩, 29) := ⟨⟨by decide +kernel, by decide +kernel⟩, List.mem_of_getElem? (i := 980) (by decide +kernel), List.mem_of_getElem? (i := 1214) (by decide +kernel), List.mem_of_getElem? (i := 1215) (by decide +kernel)⟩
theorem lw_p18 : lw_okq (⟨"SentRoadsModel", "mayGo", "(IIIII)Z"⟩, 29) := ⟨⟨by decide +kernel, by decide +kernel⟩, List.mem_of_getElem? (i := 980) (by decide +kernel), List.mem_of_getElem? (i := 1218) (by decide +kernel), List.mem_of_getElem? (i := 1219) (by decide +kernel)⟩
theorem lw_p19 : lw_okq (⟨"SentRoadsModel", "triedAt", "(II)I"⟩, 29) := ⟨⟨by decide +kernel, by decide +kernel⟩, List.mem_of_getElem? (i := 980) (by decide +kernel), List.mem_of_getElem? (i := 1231) (by decide +kernel), List.mem_of_getElem? (i := 1232) (by decide +kernel)⟩
theorem lw_p20 : lw_okq (⟨"SentRoadsModel", "isTried", "(III)Z"⟩, 29) := ⟨⟨by decide +kernel, by decide +kernel⟩, List.mem_of_getElem? (i := 980) (by decide +kernel), List.mem_of_getElem? (i := 1235) (by decide +kernel), List.mem_of_getElem? (i := 1236) (by decide +kernel)⟩
theorem lw_p21 : lw_okq (⟨"SentRoadsModel", "findStates", "()V"⟩, 29) := ⟨⟨by decide +kernel, by decide +kernel⟩, List.mem_of_getElem? (i := 980) (by decide +kernel), List.mem_of_getElem? (i := 1243) (by decide +kernel), List.mem_of_getElem? (i := 1244) (by decide +kernel)⟩
theorem lw_p22 : lw_okq (⟨"SentRoadsModel", "codeOf", "(IIII)I"⟩, 29) := ⟨⟨by decide +kernel, by decide +kernel⟩, List.mem_of_getElem? (i := 980) (by decide +kernel), List.mem_of_getElem? (i := 1247) (by decide +kernel), List.mem_of_getElem? (i := 1248) (by decide +kernel)⟩
theorem lw_p23 : lw_okq (⟨"SentRoadsModel", "come", "(III)V"⟩, 29) := ⟨⟨by decide +kernel, by decide +kernel⟩, List.mem_of_getElem? (i := 980) (by decide +kernel), List.mem_of_getElem? (i := 1251) (by decide +kernel), List.mem_of_getElem? (i := 1252) (by decide +kernel)⟩
theorem lw_p24 : lw_okq (⟨"SentRoadsModel", "standsFor", "(I)I"⟩, 29) := ⟨⟨by decide +kernel, by decide +kernel⟩, List.mem_of_getElem? (i := 980) (by decide +kernel), List.mem_of_getElem? (i := 1271) (by decide +kernel), List.mem_of_getElem? (i := 1272) (by decide +kernel)⟩
theorem lw_p25 : lw_okq (⟨"SentRoadsModel", "isAhead", "(II)Z"⟩, 29) := ⟨⟨by decide +kernel, by decide +kernel⟩, List.mem_of_getElem? (i := 980) (by decide +kernel), List.mem_of_getElem? (i := 1275) (by decide +kernel), List.mem_of_getElem? (i := 1276) (by decide +kernel)⟩
theorem lw_p26 : lw_okq (⟨"SentRoadsModel", "greatestYears", "(I)I"⟩, 29) := ⟨⟨by decide +kernel, by decide +kernel⟩, List.mem_of_getElem? (i := 980) (by decide +kernel), List.mem_of_getElem? (i := 1279) (by decide +kernel), List.mem_of_getElem? (i := 1280) (by decide +kernel)⟩
theorem lw_p27 : lw_okq (⟨"SentRoadsModel", "wasThere", "(I)I"⟩, 29) := ⟨⟨by decide +kernel, by decide +kernel⟩, List.mem_of_getElem? (i := 980) (by decide +kernel), List.mem_of_getElem? (i := 1283) (by decide +kernel), List.mem_of_getElem? (i := 1284) (by decide +kernel)⟩
theorem lw_p28 : lw_okq (⟨"SentRoadsModel", "canFollow", "(IIIII)Z"⟩, 29) := ⟨⟨by decide +kernel, by decide +kernel⟩, List.mem_of_getElem? (i := 980) (by decide +kernel), List.mem_of_getElem? (i := 1298) (by decide +kernel), List.mem_of_getElem? (i := 1299) (by decide +kernel)⟩
theorem lw_p29 : lw_okq (⟨"SentRoadsModel", "readWorld", "()Z"⟩, 29) := ⟨⟨by decide +kernel, by decide +kernel⟩, List.mem_of_getElem? (i := 980) (by decide +kernel), List.mem_of_getElem? (i := 1318) (by decide +kernel), List.mem_of_getElem? (i := 1319) (by decide +kernel)⟩
theorem lw_p30 : lw_okq (⟨"SentRoadsModel", "next", "()I"⟩, 29) := ⟨⟨by decide +kernel, by decide +kernel⟩, List.mem_of_getElem? (i := 980) (by decide +kernel), List.mem_of_getElem? (i := 1322) (by decide +kernel), List.mem_of_getElem? (i := 1323) (by decide +kernel)⟩
theorem lw_p31 : lw_okq (⟨"SentRoadsModel", "takes", "(I)Z"⟩, 29) := ⟨⟨by decide +kernel, by decide +kernel⟩, List.mem_of_getElem? (i := 980) (by decide +kernel), List.mem_of_getElem? (i := 1326) (by decide +kernel), List.mem_of_getElem? (i := 1327) (by decide +kernel)⟩
def lw_privs_2 : List (MethodName × Nat) := [(⟨"SentRoadsModel", "goesNow", "(I)I"⟩, 29), (⟨"SentRoadsModel", "goes", "(IIIII)I"⟩, 29), (⟨"SentRoadsModel", "mayGo", "(IIIII)Z"⟩, 29), (⟨"SentRoadsModel", "triedAt", "(II)I"⟩, 29), (⟨"SentRoadsModel", "isTried", "(III)Z"⟩, 29), (⟨"SentRoadsModel", "findStates", "()V"⟩, 29), (⟨"SentRoadsModel", "codeOf", "(IIII)I"⟩, 29), (⟨"SentRoadsModel", "come", "(III)V"⟩, 29), (⟨"SentRoadsModel", "standsFor", "(I)I"⟩, 29), (⟨"SentRoadsModel", "isAhead", "(II)Z"⟩, 29), (⟨"SentRoadsModel", "greatestYears", "(I)I"⟩, 29), (⟨"SentRoadsModel", "wasThere", "(I)I"⟩, 29), (⟨"SentRoadsModel", "canFollow", "(IIIII)Z"⟩, 29), (⟨"SentRoadsModel", "readWorld", "()Z"⟩, 29), (⟨"SentRoadsModel", "next", "()I"⟩, 29), (⟨"SentRoadsModel", "takes", "(I)Z"⟩, 29)]
theorem lw_r2 : ∀ q ∈ lw_privs_2, lw_okq q := List.forall_mem_cons.mpr ⟨lw_p16, List.forall_mem_cons.mpr ⟨lw_p17, List.forall_mem_cons.mpr ⟨lw_p18, List.forall_mem_cons.mpr ⟨lw_p19, List.forall_mem_cons.mpr ⟨lw_p20, List.forall_mem_cons.mpr ⟨lw_p21, List.forall_mem_cons.mpr ⟨lw_p22, List.forall_mem_cons.mpr ⟨lw_p23, List.forall_mem_cons.mpr ⟨lw_p24, List.forall_mem_cons.mpr ⟨lw_p25, List.forall_mem_cons.mpr ⟨lw_p26, List.forall_mem_cons.mpr ⟨lw_p27, List.forall_mem_cons.mpr ⟨lw_p28, List.forall_mem_cons.mpr ⟨lw_p29, List.forall_mem_cons.mpr ⟨lw_p30, List.forall_mem_cons.mpr ⟨lw_p31, fun _ h => absurd h List.not_mem_nil⟩⟩⟩⟩⟩⟩⟩⟩⟩⟩⟩⟩⟩⟩⟩⟩
theorem lw_p32 : lw_okq (⟨"SentRoadsModel", "readCrime", "(I)Z"⟩, 29) := ⟨⟨by decide +kernel, by decide +kernel⟩, List.mem_of_getElem? (i := 980) (by decide +kernel), List.mem_of_getElem? (i := 1330) (by decide +kernel), List.mem_of_getElem? (i := 1331) (by decide +kernel)⟩
theorem lw_p33 : lw_okq (⟨"SentRoadsModel", "readMarks", "(I)I"⟩, 29) := ⟨⟨by decide +kernel, by decide +kernel⟩, List.mem_of_getElem? (i := 980) (by decide +kernel), List.mem_of_getElem? (i := 1334) (by decide +kernel), List.mem_of_getElem? (i := 1335) (by decide +kernel)⟩
theorem lw_p34 : lw_okq (⟨"SentRoadsModel", "readNumber", "(II)I"⟩, 29) := ⟨⟨by decide +kernel, by decide +kernel⟩, List.mem_of_getElem? (i := 980) (by decide +kernel), List.mem_of_getElem? (i := 1338) (by decide +kernel), List.mem_of_getElem? (i := 1339) (by decide +kernel)⟩
theorem lw_p35 : lw_okq (⟨"SentRoadsModel", "readPaper", "(I)Z"⟩, 29) := ⟨⟨by decide +kernel, by decide +kernel⟩, List.mem_of_getElem? (i := 980) (by decide +kernel), List.mem_of_getElem? (i := 1344) (by decide +kernel), List.mem_of_getElem? (i := 1345) (by decide +kernel)⟩
theorem lw_p36 : lw_okq (⟨"SentRoadsModel", "keep", "([I)V"⟩, 29) := ⟨⟨by decide +kernel, by decide +kernel⟩, List.mem_of_getElem? (i := 980) (by decide +kernel), List.mem_of_getElem? (i := 1358) (by decide +kernel), List.mem_of_getElem? (i := 1359) (by decide +kernel)⟩
theorem lw_p37 : lw_okq (⟨"SentRoadsModel", "bring", "([I)V"⟩, 29) := ⟨⟨by decide +kernel, by decide +kernel⟩, List.mem_of_getElem? (i := 980) (by decide +kernel), List.mem_of_getElem? (i := 1366) (by decide +kernel), List.mem_of_getElem? (i := 1367) (by decide +kernel)⟩
theorem lw_p38 : lw_okq (⟨"SentRoadsModel", "lacksRow", "(IIII)I"⟩, 29) := ⟨⟨by decide +kernel, by decide +kernel⟩, List.mem_of_getElem? (i := 980) (by decide +kernel), List.mem_of_getElem? (i := 1386) (by decide +kernel), List.mem_of_getElem? (i := 1387) (by decide +kernel)⟩
def lw_privs_3 : List (MethodName × Nat) := [(⟨"SentRoadsModel", "readCrime", "(I)Z"⟩, 29), (⟨"SentRoadsModel", "readMarks", "(I)I"⟩, 29), (⟨"SentRoadsModel", "readNumber", "(II)I"⟩, 29), (⟨"SentRoadsModel", "readPaper", "(I)Z"⟩, 29), (⟨"SentRoadsModel", "keep", "([I)V"⟩, 29), (⟨"SentRoadsModel", "bring", "([I)V"⟩, 29), (⟨"SentRoadsModel", "lacksRow", "(IIII)I"⟩, 29)]
theorem lw_r3 : ∀ q ∈ lw_privs_3, lw_okq q := List.forall_mem_cons.mpr ⟨lw_p32, List.forall_mem_cons.mpr ⟨lw_p33, List.forall_mem_cons.mpr ⟨lw_p34, List.forall_mem_cons.mpr ⟨lw_p35, List.forall_mem_cons.mpr ⟨lw_p36, List.forall_mem_cons.mpr ⟨lw_p37, List.forall_mem_cons.mpr ⟨lw_p38, fun _ h => absurd h List.not_mem_nil⟩⟩⟩⟩⟩⟩⟩
def lw_privs : List (MethodName × Nat) := lw_privs_1 ++ (lw_privs_2 ++ (lw_privs_3))
def lw_tbl : List Cond := k2_sels lw_privs ++ tables_1
theorem lw_privs_ok : ∀ q ∈ lw_privs, lw_okq q := by
  show ∀ q ∈ lw_privs_1 ++ (lw_privs_2 ++ (lw_privs_3)), lw_okq q
  exact List.forall_mem_append.mpr ⟨lw_r1, List.forall_mem_append.mpr ⟨lw_r2, lw_r3⟩⟩
end
section
def RX0 : String := "SentRoads$Crime"
def TX0 : u_T := fun k => match k with
  | 0 => ("SentRoads$Crime", "land", "I", false)
  | 1 => ("SentRoads$Crime", "must", "I", false)
  | 2 => ("SentRoads$Crime", "but", "I", false)
  | 3 => ("SentRoads$Crime", "least", "I", false)
  | 4 => ("SentRoads$Crime", "most", "I", false)
  | _ => ("SentRoads$Crime", "death", "Z", false)
def tyX0 : Nat → FieldType := fun k => match k with
  | 0 => .int
  | 1 => .int
  | 2 => .int
  | 3 => .int
  | 4 => .int
  | _ => .boolean
theorem nmX0 : ∀ a, a < 6 → ∀ b, b < 6 → a ≠ b → (TX0 a).2.1 ≠ (TX0 b).2.1 := by decide +kernel
theorem tyX0_ok : ∀ k, k < 6 → parseFieldDescriptor (TX0 k).2.2.1 = some (tyX0 k) := by decide +kernel
abbrev cX0_init : ByteArray := prog_2_method_1_code
def yX0_init : MethodName := ⟨RX0, "<init>", "()V"⟩
abbrev cX0_tell : ByteArray := prog_2_method_2_code
def yX0_tell : MethodName := ⟨RX0, "tell", "(IIIIIZ)V"⟩
abbrev cX0_copy : ByteArray := prog_2_method_3_code
def yX0_copy : MethodName := ⟨RX0, "copy", "(LSentRoads$Crime;)V"⟩
abbrev cX0_isMarks : ByteArray := prog_2_method_4_code
def yX0_isMarks : MethodName := ⟨RX0, "isMarks", "(I)Z"⟩
def RX1 : String := "SentRoads$Deed"
def TX1 : u_T := fun k => match k with
  | 0 => ("SentRoads$Deed", "charged", "I", false)
  | 1 => ("SentRoads$Deed", "shown", "I", false)
  | 2 => ("SentRoads$Deed", "land", "I", false)
  | 3 => ("SentRoads$Deed", "year", "I", false)
  | 4 => ("SentRoads$Deed", "judged", "Z", false)
  | 5 => ("SentRoads$Deed", "chargedCrimes", "I", false)
  | 6 => ("SentRoads$Deed", "shownCrimes", "I", false)
  | 7 => ("SentRoads$Deed", "deadlyLands", "I", false)
  | 8 => ("SentRoads$Deed", "chargedYears", "[I", true)
  | _ => ("SentRoads$Deed", "shownYears", "[I", true)
def tyX1 : Nat → FieldType := fun k => match k with
  | 0 => .int
  | 1 => .int
  | 2 => .int
  | 3 => .int
  | 4 => .boolean
  | 5 => .int
  | 6 => .int
  | 7 => .int
  | 8 => .array .int
  | _ => .array .int
theorem nmX1 : ∀ a, a < 10 → ∀ b, b < 10 → a ≠ b → (TX1 a).2.1 ≠ (TX1 b).2.1 := by decide +kernel
theorem tyX1_ok : ∀ k, k < 10 → parseFieldDescriptor (TX1 k).2.2.1 = some (tyX1 k) := by decide +kernel
abbrev cX1_init : ByteArray := prog_3_method_1_code
def yX1_init : MethodName := ⟨RX1, "<init>", "()V"⟩
abbrev cX1_tell : ByteArray := prog_3_method_2_code
def yX1_tell : MethodName := ⟨RX1, "tell", "(IIII)V"⟩
abbrev cX1_copy : ByteArray := prog_3_method_3_code
def yX1_copy : MethodName := ⟨RX1, "copy", "(LSentRoads$Deed;)V"⟩
abbrev cX1_forget : ByteArray := prog_3_method_4_code
def yX1_forget : MethodName := ⟨RX1, "forget", "()V"⟩
abbrev cX1_learn : ByteArray := prog_3_method_5_code
def yX1_learn : MethodName := ⟨RX1, "learn", "(ILSentRoads$Crime;)V"⟩
abbrev cX1_isDeadly : ByteArray := prog_3_method_6_code
def yX1_isDeadly : MethodName := ⟨RX1, "isDeadly", "(I)Z"⟩
abbrev cX1_isCrime : ByteArray := prog_3_method_7_code
def yX1_isCrime : MethodName := ⟨RX1, "isCrime", "(I)Z"⟩
def RX2 : String := "SentRoads$Demand"
def TX2 : u_T := fun k => match k with
  | 0 => ("SentRoads$Demand", "land", "I", false)
  | 1 => ("SentRoads$Demand", "deeds", "I", false)
  | 2 => ("SentRoads$Demand", "day", "I", false)
  | 3 => ("SentRoads$Demand", "standing", "I", false)
  | 4 => ("SentRoads$Demand", "years", "I", false)
  | _ => ("SentRoads$Demand", "home", "Z", false)
def tyX2 : Nat → FieldType := fun k => match k with
  | 0 => .int
  | 1 => .int
  | 2 => .int
  | 3 => .int
  | 4 => .int
  | _ => .boolean
theorem nmX2 : ∀ a, a < 6 → ∀ b, b < 6 → a ≠ b → (TX2 a).2.1 ≠ (TX2 b).2.1 := by decide +kernel
theorem tyX2_ok : ∀ k, k < 6 → parseFieldDescriptor (TX2 k).2.2.1 = some (tyX2 k) := by decide +kernel
abbrev cX2_init : ByteArray := prog_4_method_1_code
def yX2_init : MethodName := ⟨RX2, "<init>", "()V"⟩
abbrev cX2_tell : ByteArray := prog_4_method_2_code
def yX2_tell : MethodName := ⟨RX2, "tell", "(III)V"⟩
abbrev cX2_order : ByteArray := prog_4_method_3_code
def yX2_order : MethodName := ⟨RX2, "order", "(LSentRoads$Demand;)I"⟩
def RX3 : String := "SentRoads$Man"
def TX3 : u_T := fun k => match k with
  | 0 => ("SentRoads$Man", "of", "I", false)
  | 1 => ("SentRoads$Man", "at", "I", false)
  | 2 => ("SentRoads$Man", "year", "I", false)
  | 3 => ("SentRoads$Man", "sent", "I", false)
  | 4 => ("SentRoads$Man", "noDeath", "Z", false)
  | 5 => ("SentRoads$Man", "onlyTo", "I", false)
  | _ => ("SentRoads$Man", "deeds", "I", false)
def tyX3 : Nat → FieldType := fun k => match k with
  | 0 => .int
  | 1 => .int
  | 2 => .int
  | 3 => .int
  | 4 => .boolean
  | 5 => .int
  | _ => .int
theorem nmX3 : ∀ a, a < 7 → ∀ b, b < 7 → a ≠ b → (TX3 a).2.1 ≠ (TX3 b).2.1 := by decide +kernel
theorem tyX3_ok : ∀ k, k < 7 → parseFieldDescriptor (TX3 k).2.2.1 = some (tyX3 k) := by decide +kernel
abbrev cX3_init : ByteArray := prog_5_method_1_code
def yX3_init : MethodName := ⟨RX3, "<init>", "()V"⟩
abbrev cX3_sit : ByteArray := prog_5_method_2_code
def yX3_sit : MethodName := ⟨RX3, "sit", "(I)V"⟩
abbrev cX3_stand : ByteArray := prog_5_method_3_code
def yX3_stand : MethodName := ⟨RX3, "stand", "(LSentRoads$Man;)V"⟩
abbrev cX3_copy : ByteArray := prog_5_method_4_code
def yX3_copy : MethodName := ⟨RX3, "copy", "(LSentRoads$Man;)V"⟩
abbrev cX3_goesBy : ByteArray := prog_5_method_5_code
def yX3_goesBy : MethodName := ⟨RX3, "goesBy", "(LSentRoads$Paper;)I"⟩
abbrev cX3_go : ByteArray := prog_5_method_6_code
def yX3_go : MethodName := ⟨RX3, "go", "(LSentRoads$Paper;I)V"⟩
def RX4 : String := "SentRoads$Paper"
def TX4 : u_T := fun k => match k with
  | 0 => ("SentRoads$Paper", "kind", "I", false)
  | 1 => ("SentRoads$Paper", "from", "I", false)
  | 2 => ("SentRoads$Paper", "to", "I", false)
  | 3 => ("SentRoads$Paper", "n", "I", false)
  | 4 => ("SentRoads$Paper", "crimes", "I", false)
  | 5 => ("SentRoads$Paper", "bars", "I", false)
  | 6 => ("SentRoads$Paper", "age", "I", false)
  | 7 => ("SentRoads$Paper", "promised", "I", false)
  | 8 => ("SentRoads$Paper", "open", "I", false)
  | _ => ("SentRoads$Paper", "deadly", "I", false)
def tyX4 : Nat → FieldType := fun k => match k with
  | 0 => .int
  | 1 => .int
  | 2 => .int
  | 3 => .int
  | 4 => .int
  | 5 => .int
  | 6 => .int
  | 7 => .int
  | 8 => .int
  | _ => .int
theorem nmX4 : ∀ a, a < 10 → ∀ b, b < 10 → a ≠ b → (TX4 a).2.1 ≠ (TX4 b).2.1 := by decide +kernel
theorem tyX4_ok : ∀ k, k < 10 → parseFieldDescriptor (TX4 k).2.2.1 = some (tyX4 k) := by decide +kernel
abbrev cX4_init : ByteArray := prog_6_method_1_code
def yX4_init : MethodName := ⟨RX4, "<init>", "()V"⟩
abbrev cX4_lead : ByteArray := prog_6_method_2_code
def yX4_lead : MethodName := ⟨RX4, "lead", "(II)V"⟩
abbrev cX4_become : ByteArray := prog_6_method_3_code
def yX4_become : MethodName := ⟨RX4, "become", "(III)V"⟩
abbrev cX4_rule : ByteArray := prog_6_method_4_code
def yX4_rule : MethodName := ⟨RX4, "rule", "(III)V"⟩
abbrev cX4_copy : ByteArray := prog_6_method_5_code
def yX4_copy : MethodName := ⟨RX4, "copy", "(LSentRoads$Paper;)V"⟩
abbrev cX4_pledges : ByteArray := prog_6_method_6_code
def yX4_pledges : MethodName := ⟨RX4, "pledges", "(I)Z"⟩
abbrev cX4_isFor : ByteArray := prog_6_method_7_code
def yX4_isFor : MethodName := ⟨RX4, "isFor", "(LSentRoads$Deed;)Z"⟩
def RX5 : String := "SentRoads$Roads"
def TX5 : u_T := fun k => match k with
  | 0 => ("SentRoads$Roads", "world", "LSentRoads$World;", true)
  | 1 => ("SentRoads$Roads", "walker", "LSentRoads$Man;", true)
  | 2 => ("SentRoads$Roads", "seenIn", "[I", true)
  | 3 => ("SentRoads$Roads", "steps", "[I", true)
  | 4 => ("SentRoads$Roads", "comesFrom", "[I", true)
  | 5 => ("SentRoads$Roads", "fewest", "[I", true)
  | 6 => ("SentRoads$Roads", "stepCount", "I", false)
  | _ => ("SentRoads$Roads", "search", "I", false)
def tyX5 : Nat → FieldType := fun k => match k with
  | 0 => .object "SentRoads$World"
  | 1 => .object "SentRoads$Man"
  | 2 => .array .int
  | 3 => .array .int
  | 4 => .array .int
  | 5 => .array .int
  | 6 => .int
  | _ => .int
theorem nmX5 : ∀ a, a < 8 → ∀ b, b < 8 → a ≠ b → (TX5 a).2.1 ≠ (TX5 b).2.1 := by decide +kernel
theorem tyX5_ok : ∀ k, k < 8 → parseFieldDescriptor (TX5 k).2.2.1 = some (tyX5 k) := by decide +kernel
abbrev cX5_init : ByteArray := prog_7_method_1_code
def yX5_init : MethodName := ⟨RX5, "<init>", "(LSentRoads$World;)V"⟩
abbrev cX5_find : ByteArray := prog_7_method_2_code
def yX5_find : MethodName := ⟨RX5, "find", "(II)I"⟩
abbrev cX5_reach : ByteArray := prog_7_method_3_code
def yX5_reach : MethodName := ⟨RX5, "reach", "()I"⟩
abbrev cX5_begin : ByteArray := prog_7_method_4_code
def yX5_begin : MethodName := ⟨RX5, "begin", "()V"⟩
abbrev cX5_placeWalker : ByteArray := prog_7_method_5_code
def yX5_placeWalker : MethodName := ⟨RX5, "placeWalker", "(I)V"⟩
abbrev cX5_spread : ByteArray := prog_7_method_6_code
def yX5_spread : MethodName := ⟨RX5, "spread", "(I)V"⟩
abbrev cX5_lengthTo : ByteArray := prog_7_method_7_code
def yX5_lengthTo : MethodName := ⟨RX5, "lengthTo", "(I)I"⟩
abbrev cX5_paperOn : ByteArray := prog_7_method_8_code
def yX5_paperOn : MethodName := ⟨RX5, "paperOn", "(II)I"⟩
abbrev cX5_safeLands : ByteArray := prog_7_method_9_code
def yX5_safeLands : MethodName := ⟨RX5, "safeLands", "(Z)I"⟩
abbrev cX5_fewestBars : ByteArray := prog_7_method_10_code
def yX5_fewestBars : MethodName := ⟨RX5, "fewestBars", "(II)I"⟩
abbrev cX5_relax : ByteArray := prog_7_method_11_code
def yX5_relax : MethodName := ⟨RX5, "relax", "(II)Z"⟩
def RX6 : String := "SentRoads$Sheet"
def TX6 : u_T := fun k => match k with
  | 0 => ("SentRoads$Sheet", "items", "[I", true)
  | 1 => ("SentRoads$Sheet", "lane", "I", false)
  | _ => ("SentRoads$Sheet", "size", "I", false)
def tyX6 : Nat → FieldType := fun k => match k with
  | 0 => .array .int
  | 1 => .int
  | _ => .int
theorem nmX6 : ∀ a, a < 3 → ∀ b, b < 3 → a ≠ b → (TX6 a).2.1 ≠ (TX6 b).2.1 := by decide +kernel
theorem tyX6_ok : ∀ k, k < 3 → parseFieldDescriptor (TX6 k).2.2.1 = some (tyX6 k) := by decide +kernel
abbrev cX6_init : ByteArray := prog_8_method_1_code
def yX6_init : MethodName := ⟨RX6, "<init>", "()V"⟩
abbrev cX6_begin : ByteArray := prog_8_method_2_code
def yX6_begin : MethodName := ⟨RX6, "begin", "(II)V"⟩
abbrev cX6_refuse : ByteArray := prog_8_method_3_code
def yX6_refuse : MethodName := ⟨RX6, "refuse", "(I)I"⟩
abbrev cX6_put : ByteArray := prog_8_method_4_code
def yX6_put : MethodName := ⟨RX6, "put", "(II)V"⟩
abbrev cX6_marksFrom : ByteArray := prog_8_method_5_code
def yX6_marksFrom : MethodName := ⟨RX6, "marksFrom", "(I)I"⟩
def RX7 : String := "SentRoads$Tape"
def TX7 : u_T := fun k => match k with
  | 0 => ("SentRoads$Tape", "bytes", "[C", true)
  | 1 => ("SentRoads$Tape", "crimes", "[LSentRoads$Crime;", true)
  | 2 => ("SentRoads$Tape", "papers", "[LSentRoads$Paper;", true)
  | 3 => ("SentRoads$Tape", "length", "I", false)
  | 4 => ("SentRoads$Tape", "crimeCount", "I", false)
  | 5 => ("SentRoads$Tape", "paperCount", "I", false)
  | 6 => ("SentRoads$Tape", "place", "I", false)
  | _ => ("SentRoads$Tape", "fault", "I", false)
def tyX7 : Nat → FieldType := fun k => match k with
  | 0 => .array .char
  | 1 => .array (.object "SentRoads$Crime")
  | 2 => .array (.object "SentRoads$Paper")
  | 3 => .int
  | 4 => .int
  | 5 => .int
  | 6 => .int
  | _ => .int
theorem nmX7 : ∀ a, a < 8 → ∀ b, b < 8 → a ≠ b → (TX7 a).2.1 ≠ (TX7 b).2.1 := by decide +kernel
theorem tyX7_ok : ∀ k, k < 8 → parseFieldDescriptor (TX7 k).2.2.1 = some (tyX7 k) := by decide +kernel
abbrev cX7_init : ByteArray := prog_9_method_1_code
def yX7_init : MethodName := ⟨RX7, "<init>", "()V"⟩
abbrev cX7_write : ByteArray := prog_9_method_2_code
def yX7_write : MethodName := ⟨RX7, "write", "(C)V"⟩
abbrev cX7_parse : ByteArray := prog_9_method_3_code
def yX7_parse : MethodName := ⟨RX7, "parse", "()I"⟩
abbrev cX7_fail : ByteArray := prog_9_method_4_code
def yX7_fail : MethodName := ⟨RX7, "fail", "(I)V"⟩
abbrev cX7_next : ByteArray := prog_9_method_5_code
def yX7_next : MethodName := ⟨RX7, "next", "()I"⟩
abbrev cX7_takes : ByteArray := prog_9_method_6_code
def yX7_takes : MethodName := ⟨RX7, "takes", "(I)Z"⟩
abbrev cX7_need : ByteArray := prog_9_method_7_code
def yX7_need : MethodName := ⟨RX7, "need", "(I)V"⟩
abbrev cX7_readClause : ByteArray := prog_9_method_8_code
def yX7_readClause : MethodName := ⟨RX7, "readClause", "()V"⟩
abbrev cX7_readCrime : ByteArray := prog_9_method_9_code
def yX7_readCrime : MethodName := ⟨RX7, "readCrime", "(I)V"⟩
abbrev cX7_readPaper : ByteArray := prog_9_method_10_code
def yX7_readPaper : MethodName := ⟨RX7, "readPaper", "(I)V"⟩
abbrev cX7_readLand : ByteArray := prog_9_method_11_code
def yX7_readLand : MethodName := ⟨RX7, "readLand", "(I)I"⟩
abbrev cX7_readMarks : ByteArray := prog_9_method_12_code
def yX7_readMarks : MethodName := ⟨RX7, "readMarks", "(I)I"⟩
abbrev cX7_readNumber : ByteArray := prog_9_method_13_code
def yX7_readNumber : MethodName := ⟨RX7, "readNumber", "(II)I"⟩
abbrev cX7_readPromises : ByteArray := prog_9_method_14_code
def yX7_readPromises : MethodName := ⟨RX7, "readPromises", "()I"⟩
abbrev cX7_readLetters : ByteArray := prog_9_method_15_code
def yX7_readLetters : MethodName := ⟨RX7, "readLetters", "(Ljava/lang/String;Z)I"⟩
def RX8 : String := "SentRoads$World"
def TX8 : u_T := fun k => match k with
  | 0 => ("SentRoads$World", "crimes", "[LSentRoads$Crime;", true)
  | 1 => ("SentRoads$World", "deeds", "[LSentRoads$Deed;", true)
  | 2 => ("SentRoads$World", "papers", "[LSentRoads$Paper;", true)
  | 3 => ("SentRoads$World", "demands", "[LSentRoads$Demand;", true)
  | 4 => ("SentRoads$World", "man", "LSentRoads$Man;", true)
  | 5 => ("SentRoads$World", "crimeCount", "I", false)
  | 6 => ("SentRoads$World", "deedCount", "I", false)
  | 7 => ("SentRoads$World", "paperCount", "I", false)
  | _ => ("SentRoads$World", "demandCount", "I", false)
def tyX8 : Nat → FieldType := fun k => match k with
  | 0 => .array (.object "SentRoads$Crime")
  | 1 => .array (.object "SentRoads$Deed")
  | 2 => .array (.object "SentRoads$Paper")
  | 3 => .array (.object "SentRoads$Demand")
  | 4 => .object "SentRoads$Man"
  | 5 => .int
  | 6 => .int
  | 7 => .int
  | _ => .int
theorem nmX8 : ∀ a, a < 9 → ∀ b, b < 9 → a ≠ b → (TX8 a).2.1 ≠ (TX8 b).2.1 := by decide +kernel
theorem tyX8_ok : ∀ k, k < 9 → parseFieldDescriptor (TX8 k).2.2.1 = some (tyX8 k) := by decide +kernel
abbrev cX8_init : ByteArray := prog_10_method_1_code
def yX8_init : MethodName := ⟨RX8, "<init>", "()V"⟩
abbrev cX8_copy : ByteArray := prog_10_method_2_code
def yX8_copy : MethodName := ⟨RX8, "copy", "(LSentRoads$World;)V"⟩
abbrev cX8_takeCrime : ByteArray := prog_10_method_3_code
def yX8_takeCrime : MethodName := ⟨RX8, "takeCrime", "()I"⟩
abbrev cX8_takeDeed : ByteArray := prog_10_method_4_code
def yX8_takeDeed : MethodName := ⟨RX8, "takeDeed", "()I"⟩
abbrev cX8_takePaper : ByteArray := prog_10_method_5_code
def yX8_takePaper : MethodName := ⟨RX8, "takePaper", "()I"⟩
abbrev cX8_learnAgain : ByteArray := prog_10_method_6_code
def yX8_learnAgain : MethodName := ⟨RX8, "learnAgain", "(I)V"⟩
abbrev cX8_allDeeds : ByteArray := prog_10_method_7_code
def yX8_allDeeds : MethodName := ⟨RX8, "allDeeds", "()I"⟩
abbrev cX8_crimesOf : ByteArray := prog_10_method_8_code
def yX8_crimesOf : MethodName := ⟨RX8, "crimesOf", "(I)I"⟩
abbrev cX8_landsWhereCrime : ByteArray := prog_10_method_9_code
def yX8_landsWhereCrime : MethodName := ⟨RX8, "landsWhereCrime", "(I)I"⟩
abbrev cX8_coveredBy : ByteArray := prog_10_method_10_code
def yX8_coveredBy : MethodName := ⟨RX8, "coveredBy", "(LSentRoads$Paper;)I"⟩
abbrev cX8_barsAgainst : ByteArray := prog_10_method_11_code
def yX8_barsAgainst : MethodName := ⟨RX8, "barsAgainst", "(LSentRoads$Paper;LSentRoads$Deed;)I"⟩
abbrev cX8_weigh : ByteArray := prog_10_method_12_code
def yX8_weigh : MethodName := ⟨RX8, "weigh", "(LSentRoads$Paper;)V"⟩
abbrev cX8_weighAll : ByteArray := prog_10_method_13_code
def yX8_weighAll : MethodName := ⟨RX8, "weighAll", "()V"⟩
abbrev cX8_weighAlone : ByteArray := prog_10_method_14_code
def yX8_weighAlone : MethodName := ⟨RX8, "weighAlone", "(I)V"⟩
abbrev cX8_triedBy : ByteArray := prog_10_method_15_code
def yX8_triedBy : MethodName := ⟨RX8, "triedBy", "(LSentRoads$Man;)I"⟩
abbrev cX8_weighDemands : ByteArray := prog_10_method_16_code
def yX8_weighDemands : MethodName := ⟨RX8, "weighDemands", "()V"⟩
abbrev cX8_letTo : ByteArray := prog_10_method_17_code
def yX8_letTo : MethodName := ⟨RX8, "letTo", "(I)I"⟩
abbrev cX8_placeOf : ByteArray := prog_10_method_18_code
def yX8_placeOf : MethodName := ⟨RX8, "placeOf", "(I)I"⟩
def RX9 : String := "SentRoads"
def TX9 : u_T := fun k => match k with
  | 0 => ("SentRoads", "now", "LSentRoads$World;", true)
  | 1 => ("SentRoads", "kept", "LSentRoads$World;", true)
  | 2 => ("SentRoads", "roads", "LSentRoads$Roads;", true)
  | 3 => ("SentRoads", "tape", "LSentRoads$Tape;", true)
  | 4 => ("SentRoads", "sheets", "[LSentRoads$Sheet;", true)
  | _ => ("SentRoads", "hasImage", "Z", false)
def tyX9 : Nat → FieldType := fun k => match k with
  | 0 => .object "SentRoads$World"
  | 1 => .object "SentRoads$World"
  | 2 => .object "SentRoads$Roads"
  | 3 => .object "SentRoads$Tape"
  | 4 => .array (.object "SentRoads$Sheet")
  | _ => .boolean
theorem nmX9 : ∀ a, a < 6 → ∀ b, b < 6 → a ≠ b → (TX9 a).2.1 ≠ (TX9 b).2.1 := by decide +kernel
theorem tyX9_ok : ∀ k, k < 6 → parseFieldDescriptor (TX9 k).2.2.1 = some (tyX9 k) := by decide +kernel
abbrev cX9_init : ByteArray := prog_1_method_1_code
def yX9_init : MethodName := ⟨RX9, "<init>", "()V"⟩
abbrev cX9_crime : ByteArray := prog_1_method_2_code
def yX9_crime : MethodName := ⟨RX9, "crime", "(IIIIIZ)I"⟩
abbrev cX9_deed : ByteArray := prog_1_method_3_code
def yX9_deed : MethodName := ⟨RX9, "deed", "(IIII)I"⟩
abbrev cX9_years : ByteArray := prog_1_method_4_code
def yX9_years : MethodName := ⟨RX9, "years", "(IIIIII)I"⟩
abbrev cX9_named : ByteArray := prog_1_method_5_code
def yX9_named : MethodName := ⟨RX9, "named", "(IIIIII)I"⟩
abbrev cX9_custom : ByteArray := prog_1_method_6_code
def yX9_custom : MethodName := ⟨RX9, "custom", "(IIIII)I"⟩
abbrev cX9_type : ByteArray := prog_1_method_7_code
def yX9_type : MethodName := ⟨RX9, "type", "(JI)I"⟩
abbrev cX9_world : ByteArray := prog_1_method_8_code
def yX9_world : MethodName := ⟨RX9, "world", "()I"⟩
abbrev cX9_crimeOf : ByteArray := prog_1_method_9_code
def yX9_crimeOf : MethodName := ⟨RX9, "crimeOf", "(II)I"⟩
abbrev cX9_paper : ByteArray := prog_1_method_10_code
def yX9_paper : MethodName := ⟨RX9, "paper", "(II)I"⟩
abbrev cX9_bars : ByteArray := prog_1_method_11_code
def yX9_bars : MethodName := ⟨RX9, "bars", "(II)I"⟩
abbrev cX9_matches : ByteArray := prog_1_method_12_code
def yX9_matches : MethodName := ⟨RX9, "matches", "(III)I"⟩
abbrev cX9_yearsOf : ByteArray := prog_1_method_13_code
def yX9_yearsOf : MethodName := ⟨RX9, "yearsOf", "(III)I"⟩
abbrev cX9_shows : ByteArray := prog_1_method_14_code
def yX9_shows : MethodName := ⟨RX9, "shows", "(IIII)I"⟩
abbrev cX9_count : ByteArray := prog_1_method_15_code
def yX9_count : MethodName := ⟨RX9, "count", "(I)I"⟩
abbrev cX9_man : ByteArray := prog_1_method_16_code
def yX9_man : MethodName := ⟨RX9, "man", "(II)I"⟩
abbrev cX9_judged : ByteArray := prog_1_method_17_code
def yX9_judged : MethodName := ⟨RX9, "judged", "(IZ)I"⟩
abbrev cX9_bound : ByteArray := prog_1_method_18_code
def yX9_bound : MethodName := ⟨RX9, "bound", "(I)I"⟩
abbrev cX9_covers : ByteArray := prog_1_method_19_code
def yX9_covers : MethodName := ⟨RX9, "covers", "(I)I"⟩
abbrev cX9_lets : ByteArray := prog_1_method_20_code
def yX9_lets : MethodName := ⟨RX9, "lets", "(I)I"⟩
abbrev cX9_barred : ByteArray := prog_1_method_21_code
def yX9_barred : MethodName := ⟨RX9, "barred", "(II)I"⟩
abbrev cX9_send : ByteArray := prog_1_method_22_code
def yX9_send : MethodName := ⟨RX9, "send", "(I)I"⟩
abbrev cX9_tried : ByteArray := prog_1_method_23_code
def yX9_tried : MethodName := ⟨RX9, "tried", "()I"⟩
abbrev cX9_road : ByteArray := prog_1_method_24_code
def yX9_road : MethodName := ⟨RX9, "road", "(III)I"⟩
abbrev cX9_lands : ByteArray := prog_1_method_25_code
def yX9_lands : MethodName := ⟨RX9, "lands", "()I"⟩
abbrev cX9_safe : ByteArray := prog_1_method_26_code
def yX9_safe : MethodName := ⟨RX9, "safe", "(I)I"⟩
abbrev cX9_demand : ByteArray := prog_1_method_27_code
def yX9_demand : MethodName := ⟨RX9, "demand", "(III)I"⟩
abbrev cX9_ahead : ByteArray := prog_1_method_28_code
def yX9_ahead : MethodName := ⟨RX9, "ahead", "(I)I"⟩
abbrev cX9_promises : ByteArray := prog_1_method_29_code
def yX9_promises : MethodName := ⟨RX9, "promises", "(II)I"⟩
abbrev cX9_mended : ByteArray := prog_1_method_30_code
def yX9_mended : MethodName := ⟨RX9, "mended", "(II)I"⟩
abbrev cX9_part : ByteArray := prog_1_method_31_code
def yX9_part : MethodName := ⟨RX9, "part", "(III)I"⟩
abbrev cX9_image : ByteArray := prog_1_method_32_code
def yX9_image : MethodName := ⟨RX9, "image", "()I"⟩
abbrev cX9_restore : ByteArray := prog_1_method_33_code
def yX9_restore : MethodName := ⟨RX9, "restore", "()I"⟩
abbrev cX9_sheet : ByteArray := prog_1_method_34_code
def yX9_sheet : MethodName := ⟨RX9, "sheet", "(III)I"⟩
abbrev cX9_drop : ByteArray := prog_1_method_35_code
def yX9_drop : MethodName := ⟨RX9, "drop", "(I)I"⟩
abbrev cX9_item : ByteArray := prog_1_method_36_code
def yX9_item : MethodName := ⟨RX9, "item", "(IIII)I"⟩
abbrev cX9_isLand : ByteArray := prog_1_method_37_code
def yX9_isLand : MethodName := ⟨RX9, "isLand", "(I)Z"⟩
abbrev cX9_isYear : ByteArray := prog_1_method_38_code
def yX9_isYear : MethodName := ⟨RX9, "isYear", "(I)Z"⟩
abbrev cX9_isSheet : ByteArray := prog_1_method_39_code
def yX9_isSheet : MethodName := ⟨RX9, "isSheet", "(I)Z"⟩
abbrev cX9_isLane : ByteArray := prog_1_method_40_code
def yX9_isLane : MethodName := ⟨RX9, "isLane", "(I)Z"⟩
abbrev cX9_isDeed : ByteArray := prog_1_method_41_code
def yX9_isDeed : MethodName := ⟨RX9, "isDeed", "(I)Z"⟩
abbrev cX9_isPaper : ByteArray := prog_1_method_42_code
def yX9_isPaper : MethodName := ⟨RX9, "isPaper", "(I)Z"⟩
abbrev cX9_addPaper : ByteArray := prog_1_method_43_code
def yX9_addPaper : MethodName := ⟨RX9, "addPaper", "(IIIII)I"⟩
abbrev cX9_byteOf : ByteArray := prog_1_method_44_code
def yX9_byteOf : MethodName := ⟨RX9, "byteOf", "(JI)I"⟩
abbrev cX9_isLess : ByteArray := prog_1_method_45_code
def yX9_isLess : MethodName := ⟨RX9, "isLess", "(II)Z"⟩
def RX10 : String := "SentRoadsModel"
def TX10 : u_T := fun k => match k with
  | 0 => ("SentRoadsModel", "crimes", "I", false)
  | 1 => ("SentRoadsModel", "crime", "[I", true)
  | 2 => ("SentRoadsModel", "deeds", "I", false)
  | 3 => ("SentRoadsModel", "deed", "[I", true)
  | 4 => ("SentRoadsModel", "papers", "I", false)
  | 5 => ("SentRoadsModel", "paper", "[I", true)
  | 6 => ("SentRoadsModel", "demands", "I", false)
  | 7 => ("SentRoadsModel", "demand", "[I", true)
  | 8 => ("SentRoadsModel", "man", "[I", true)
  | 9 => ("SentRoadsModel", "open", "[I", true)
  | 10 => ("SentRoadsModel", "before", "[I", true)
  | 11 => ("SentRoadsModel", "byPaper", "[I", true)
  | 12 => ("SentRoadsModel", "queue", "[I", true)
  | 13 => ("SentRoadsModel", "queued", "I", false)
  | 14 => ("SentRoadsModel", "cost", "[I", true)
  | 15 => ("SentRoadsModel", "tape", "[I", true)
  | 16 => ("SentRoadsModel", "taped", "I", false)
  | 17 => ("SentRoadsModel", "at", "I", false)
  | 18 => ("SentRoadsModel", "readCrimes", "I", false)
  | 19 => ("SentRoadsModel", "gotCrimes", "[I", true)
  | 20 => ("SentRoadsModel", "readPapers", "I", false)
  | 21 => ("SentRoadsModel", "gotPapers", "[I", true)
  | 22 => ("SentRoadsModel", "isKept", "Z", false)
  | 23 => ("SentRoadsModel", "kept", "[I", true)
  | 24 => ("SentRoadsModel", "keptAt", "I", false)
  | 25 => ("SentRoadsModel", "singles", "[I", true)
  | 26 => ("SentRoadsModel", "lanes", "[I", true)
  | 27 => ("SentRoadsModel", "rowSizes", "[I", true)
  | _ => ("SentRoadsModel", "items", "[I", true)
def tyX10 : Nat → FieldType := fun k => match k with
  | 0 => .int
  | 1 => .array .int
  | 2 => .int
  | 3 => .array .int
  | 4 => .int
  | 5 => .array .int
  | 6 => .int
  | 7 => .array .int
  | 8 => .array .int
  | 9 => .array .int
  | 10 => .array .int
  | 11 => .array .int
  | 12 => .array .int
  | 13 => .int
  | 14 => .array .int
  | 15 => .array .int
  | 16 => .int
  | 17 => .int
  | 18 => .int
  | 19 => .array .int
  | 20 => .int
  | 21 => .array .int
  | 22 => .boolean
  | 23 => .array .int
  | 24 => .int
  | 25 => .array .int
  | 26 => .array .int
  | 27 => .array .int
  | _ => .array .int
theorem nmX10 : ∀ a, a < 29 → ∀ b, b < 29 → a ≠ b → (TX10 a).2.1 ≠ (TX10 b).2.1 := by decide +kernel
theorem tyX10_ok : ∀ k, k < 29 → parseFieldDescriptor (TX10 k).2.2.1 = some (tyX10 k) := by decide +kernel
abbrev cX10_in : ByteArray := prog_12_method_1_code
def yX10_in : MethodName := ⟨RX10, "in", "(JJJ)Z"⟩
abbrev cX10_init : ByteArray := prog_12_method_2_code
def yX10_init : MethodName := ⟨RX10, "<init>", "()V"⟩
abbrev cX10_free : ByteArray := prog_12_method_3_code
def yX10_free : MethodName := ⟨RX10, "free", "()V"⟩
abbrev cX10_isLand : ByteArray := prog_12_method_4_code
def yX10_isLand : MethodName := ⟨RX10, "isLand", "(I)Z"⟩
abbrev cX10_isDeed : ByteArray := prog_12_method_5_code
def yX10_isDeed : MethodName := ⟨RX10, "isDeed", "(I)Z"⟩
abbrev cX10_isPaper : ByteArray := prog_12_method_6_code
def yX10_isPaper : MethodName := ⟨RX10, "isPaper", "(I)Z"⟩
abbrev cX10_addCrime : ByteArray := prog_12_method_7_code
def yX10_addCrime : MethodName := ⟨RX10, "addCrime", "(IIIIII)V"⟩
abbrev cX10_crime : ByteArray := prog_12_method_8_code
def yX10_crime : MethodName := ⟨RX10, "crime", "(IIIIIZ)I"⟩
abbrev cX10_deed : ByteArray := prog_12_method_9_code
def yX10_deed : MethodName := ⟨RX10, "deed", "(IIII)I"⟩
abbrev cX10_mayBe : ByteArray := prog_12_method_10_code
def yX10_mayBe : MethodName := ⟨RX10, "mayBe", "(IIIII)Z"⟩
abbrev cX10_addPaper : ByteArray := prog_12_method_11_code
def yX10_addPaper : MethodName := ⟨RX10, "addPaper", "(IIIIIIII)I"⟩
abbrev cX10_years : ByteArray := prog_12_method_12_code
def yX10_years : MethodName := ⟨RX10, "years", "(IIIIII)I"⟩
abbrev cX10_named : ByteArray := prog_12_method_13_code
def yX10_named : MethodName := ⟨RX10, "named", "(IIIIII)I"⟩
abbrev cX10_custom : ByteArray := prog_12_method_14_code
def yX10_custom : MethodName := ⟨RX10, "custom", "(IIIII)I"⟩
abbrev cX10_crimeOf : ByteArray := prog_12_method_15_code
def yX10_crimeOf : MethodName := ⟨RX10, "crimeOf", "(II)I"⟩
abbrev cX10_paper : ByteArray := prog_12_method_16_code
def yX10_paper : MethodName := ⟨RX10, "paper", "(II)I"⟩
abbrev cX10_bars : ByteArray := prog_12_method_17_code
def yX10_bars : MethodName := ⟨RX10, "bars", "(II)I"⟩
abbrev cX10_areCrime : ByteArray := prog_12_method_18_code
def yX10_areCrime : MethodName := ⟨RX10, "areCrime", "(II)Z"⟩
abbrev cX10_crimesOf : ByteArray := prog_12_method_19_code
def yX10_crimesOf : MethodName := ⟨RX10, "crimesOf", "(II)I"⟩
abbrev cX10_yearsFor : ByteArray := prog_12_method_20_code
def yX10_yearsFor : MethodName := ⟨RX10, "yearsFor", "(II)I"⟩
abbrev cX10_isDeadly : ByteArray := prog_12_method_21_code
def yX10_isDeadly : MethodName := ⟨RX10, "isDeadly", "(II)Z"⟩
abbrev cX10_matches : ByteArray := prog_12_method_22_code
def yX10_matches : MethodName := ⟨RX10, "matches", "(III)I"⟩
abbrev cX10_yearsOf : ByteArray := prog_12_method_23_code
def yX10_yearsOf : MethodName := ⟨RX10, "yearsOf", "(III)I"⟩
abbrev cX10_count : ByteArray := prog_12_method_24_code
def yX10_count : MethodName := ⟨RX10, "count", "(I)I"⟩
abbrev cX10_man : ByteArray := prog_12_method_25_code
def yX10_man : MethodName := ⟨RX10, "man", "(II)I"⟩
abbrev cX10_judged : ByteArray := prog_12_method_26_code
def yX10_judged : MethodName := ⟨RX10, "judged", "(IZ)I"⟩
abbrev cX10_allDeeds : ByteArray := prog_12_method_27_code
def yX10_allDeeds : MethodName := ⟨RX10, "allDeeds", "()I"⟩
abbrev cX10_bound : ByteArray := prog_12_method_28_code
def yX10_bound : MethodName := ⟨RX10, "bound", "(I)I"⟩
abbrev cX10_isCovered : ByteArray := prog_12_method_29_code
def yX10_isCovered : MethodName := ⟨RX10, "isCovered", "(II)Z"⟩
abbrev cX10_standing : ByteArray := prog_12_method_30_code
def yX10_standing : MethodName := ⟨RX10, "standing", "(II)I"⟩
abbrev cX10_covers : ByteArray := prog_12_method_31_code
def yX10_covers : MethodName := ⟨RX10, "covers", "(I)I"⟩
abbrev cX10_barred : ByteArray := prog_12_method_32_code
def yX10_barred : MethodName := ⟨RX10, "barred", "(II)I"⟩
abbrev cX10_mayGo : ByteArray := prog_12_method_33_code
def yX10_mayGo : MethodName := ⟨RX10, "mayGo", "(IIIII)Z"⟩
abbrev cX10_findOpen : ByteArray := prog_12_method_34_code
def yX10_findOpen : MethodName := ⟨RX10, "findOpen", "()V"⟩
abbrev cX10_goes : ByteArray := prog_12_method_35_code
def yX10_goes : MethodName := ⟨RX10, "goes", "(IIIII)I"⟩
abbrev cX10_goesNow : ByteArray := prog_12_method_36_code
def yX10_goesNow : MethodName := ⟨RX10, "goesNow", "(I)I"⟩
abbrev cX10_lets : ByteArray := prog_12_method_37_code
def yX10_lets : MethodName := ⟨RX10, "lets", "(I)I"⟩
abbrev cX10_send : ByteArray := prog_12_method_38_code
def yX10_send : MethodName := ⟨RX10, "send", "(I)I"⟩
abbrev cX10_isTried : ByteArray := prog_12_method_39_code
def yX10_isTried : MethodName := ⟨RX10, "isTried", "(III)Z"⟩
abbrev cX10_triedAt : ByteArray := prog_12_method_40_code
def yX10_triedAt : MethodName := ⟨RX10, "triedAt", "(II)I"⟩
abbrev cX10_tried : ByteArray := prog_12_method_41_code
def yX10_tried : MethodName := ⟨RX10, "tried", "()I"⟩
abbrev cX10_come : ByteArray := prog_12_method_42_code
def yX10_come : MethodName := ⟨RX10, "come", "(III)V"⟩
abbrev cX10_codeOf : ByteArray := prog_12_method_43_code
def yX10_codeOf : MethodName := ⟨RX10, "codeOf", "(IIII)I"⟩
abbrev cX10_findStates : ByteArray := prog_12_method_44_code
def yX10_findStates : MethodName := ⟨RX10, "findStates", "()V"⟩
abbrev cX10_road : ByteArray := prog_12_method_45_code
def yX10_road : MethodName := ⟨RX10, "road", "(III)I"⟩
abbrev cX10_lands : ByteArray := prog_12_method_46_code
def yX10_lands : MethodName := ⟨RX10, "lands", "()I"⟩
abbrev cX10_safe : ByteArray := prog_12_method_47_code
def yX10_safe : MethodName := ⟨RX10, "safe", "(I)I"⟩
abbrev cX10_demand : ByteArray := prog_12_method_48_code
def yX10_demand : MethodName := ⟨RX10, "demand", "(III)I"⟩
abbrev cX10_standsFor : ByteArray := prog_12_method_49_code
def yX10_standsFor : MethodName := ⟨RX10, "standsFor", "(I)I"⟩
abbrev cX10_greatestYears : ByteArray := prog_12_method_50_code
def yX10_greatestYears : MethodName := ⟨RX10, "greatestYears", "(I)I"⟩
abbrev cX10_wasThere : ByteArray := prog_12_method_51_code
def yX10_wasThere : MethodName := ⟨RX10, "wasThere", "(I)I"⟩
abbrev cX10_isAhead : ByteArray := prog_12_method_52_code
def yX10_isAhead : MethodName := ⟨RX10, "isAhead", "(II)Z"⟩
abbrev cX10_ahead : ByteArray := prog_12_method_53_code
def yX10_ahead : MethodName := ⟨RX10, "ahead", "(I)I"⟩
abbrev cX10_ones : ByteArray := prog_12_method_54_code
def yX10_ones : MethodName := ⟨RX10, "ones", "(I)I"⟩
abbrev cX10_promises : ByteArray := prog_12_method_55_code
def yX10_promises : MethodName := ⟨RX10, "promises", "(II)I"⟩
abbrev cX10_canFollow : ByteArray := prog_12_method_56_code
def yX10_canFollow : MethodName := ⟨RX10, "canFollow", "(IIIII)Z"⟩
abbrev cX10_mended : ByteArray := prog_12_method_57_code
def yX10_mended : MethodName := ⟨RX10, "mended", "(II)I"⟩
abbrev cX10_part : ByteArray := prog_12_method_58_code
def yX10_part : MethodName := ⟨RX10, "part", "(III)I"⟩
abbrev cX10_type : ByteArray := prog_12_method_59_code
def yX10_type : MethodName := ⟨RX10, "type", "(JI)I"⟩
abbrev cX10_next : ByteArray := prog_12_method_60_code
def yX10_next : MethodName := ⟨RX10, "next", "()I"⟩
abbrev cX10_takes : ByteArray := prog_12_method_61_code
def yX10_takes : MethodName := ⟨RX10, "takes", "(I)Z"⟩
abbrev cX10_readNumber : ByteArray := prog_12_method_62_code
def yX10_readNumber : MethodName := ⟨RX10, "readNumber", "(II)I"⟩
abbrev cX10_readMarks : ByteArray := prog_12_method_63_code
def yX10_readMarks : MethodName := ⟨RX10, "readMarks", "(I)I"⟩
abbrev cX10_readCrime : ByteArray := prog_12_method_64_code
def yX10_readCrime : MethodName := ⟨RX10, "readCrime", "(I)Z"⟩
abbrev cX10_barOf : ByteArray := prog_12_method_65_code
def yX10_barOf : MethodName := ⟨RX10, "barOf", "(I)I"⟩
abbrev cX10_promiseOf : ByteArray := prog_12_method_66_code
def yX10_promiseOf : MethodName := ⟨RX10, "promiseOf", "(I)I"⟩
abbrev cX10_readPaper : ByteArray := prog_12_method_67_code
def yX10_readPaper : MethodName := ⟨RX10, "readPaper", "(I)Z"⟩
abbrev cX10_readWorld : ByteArray := prog_12_method_68_code
def yX10_readWorld : MethodName := ⟨RX10, "readWorld", "()Z"⟩
abbrev cX10_world : ByteArray := prog_12_method_69_code
def yX10_world : MethodName := ⟨RX10, "world", "()I"⟩
abbrev cX10_keep : ByteArray := prog_12_method_70_code
def yX10_keep : MethodName := ⟨RX10, "keep", "([I)V"⟩
abbrev cX10_bring : ByteArray := prog_12_method_71_code
def yX10_bring : MethodName := ⟨RX10, "bring", "([I)V"⟩
abbrev cX10_image : ByteArray := prog_12_method_72_code
def yX10_image : MethodName := ⟨RX10, "image", "()I"⟩
abbrev cX10_restore : ByteArray := prog_12_method_73_code
def yX10_restore : MethodName := ⟨RX10, "restore", "()I"⟩
abbrev cX10_isSheet : ByteArray := prog_12_method_74_code
def yX10_isSheet : MethodName := ⟨RX10, "isSheet", "(II)Z"⟩
abbrev cX10_sheet : ByteArray := prog_12_method_75_code
def yX10_sheet : MethodName := ⟨RX10, "sheet", "(III)I"⟩
abbrev cX10_drop : ByteArray := prog_12_method_76_code
def yX10_drop : MethodName := ⟨RX10, "drop", "(I)I"⟩
abbrev cX10_lacksRow : ByteArray := prog_12_method_77_code
def yX10_lacksRow : MethodName := ⟨RX10, "lacksRow", "(IIII)I"⟩
abbrev cX10_item : ByteArray := prog_12_method_78_code
def yX10_item : MethodName := ⟨RX10, "item", "(IIII)I"⟩
abbrev cX10_shows : ByteArray := prog_12_method_79_code
def yX10_shows : MethodName := ⟨RX10, "shows", "(IIII)I"⟩
def RJ11 : String := "java/lang/Character"
def TJ11 : u_T := fun k => match k with
  | _ => ("", "", "", false)
def tyJ11 : Nat → FieldType := fun k => match k with
  | _ => .int
theorem nmJ11 : ∀ a, a < 0 → ∀ b, b < 0 → a ≠ b → (TJ11 a).2.1 ≠ (TJ11 b).2.1 := by decide +kernel
theorem tyJ11_ok : ∀ k, k < 0 → parseFieldDescriptor (TJ11 k).2.2.1 = some (tyJ11 k) := by decide +kernel
abbrev cJ11_isValidCodePoint_9a6ad : ByteArray := prog_13_method_11_code
def yJ11_isValidCodePoint_9a6ad : MethodName := ⟨RJ11, "isValidCodePoint", "(I)Z"⟩
abbrev cJ11_highSurrogate_5068e : ByteArray := prog_13_method_28_code
def yJ11_highSurrogate_5068e : MethodName := ⟨RJ11, "highSurrogate", "(I)C"⟩
abbrev cJ11_lowSurrogate_5068e : ByteArray := prog_13_method_29_code
def yJ11_lowSurrogate_5068e : MethodName := ⟨RJ11, "lowSurrogate", "(I)C"⟩
def RJ6 : String := "java/lang/Integer"
def TJ6 : u_T := fun k => match k with
  | _ => ("", "", "", false)
def tyJ6 : Nat → FieldType := fun k => match k with
  | _ => .int
theorem nmJ6 : ∀ a, a < 0 → ∀ b, b < 0 → a ≠ b → (TJ6 a).2.1 ≠ (TJ6 b).2.1 := by decide +kernel
theorem tyJ6_ok : ∀ k, k < 0 → parseFieldDescriptor (TJ6 k).2.2.1 = some (tyJ6 k) := by decide +kernel
abbrev cJ6_bitCount_0f7a4 : ByteArray := prog_14_method_49_code
def yJ6_bitCount_0f7a4 : MethodName := ⟨RJ6, "bitCount", "(I)I"⟩
def RJ9 : String := "java/lang/Math"
def TJ9 : u_T := fun k => match k with
  | _ => ("", "", "", false)
def tyJ9 : Nat → FieldType := fun k => match k with
  | _ => .int
theorem nmJ9 : ∀ a, a < 0 → ∀ b, b < 0 → a ≠ b → (TJ9 a).2.1 ≠ (TJ9 b).2.1 := by decide +kernel
theorem tyJ9_ok : ∀ k, k < 0 → parseFieldDescriptor (TJ9 k).2.2.1 = some (tyJ9 k) := by decide +kernel
abbrev cJ9_max_7cf53 : ByteArray := prog_15_method_65_code
def yJ9_max_7cf53 : MethodName := ⟨RJ9, "max", "(II)I"⟩
abbrev cJ9_min_7cf53 : ByteArray := prog_15_method_69_code
def yJ9_min_7cf53 : MethodName := ⟨RJ9, "min", "(II)I"⟩
def RJ0 : String := "java/lang/String"
def TJ0 : u_T := fun k => match k with
  | _ => ("", "", "", false)
def tyJ0 : Nat → FieldType := fun k => match k with
  | _ => .int
theorem nmJ0 : ∀ a, a < 0 → ∀ b, b < 0 → a ≠ b → (TJ0 a).2.1 ≠ (TJ0 b).2.1 := by decide +kernel
theorem tyJ0_ok : ∀ k, k < 0 → parseFieldDescriptor (TJ0 k).2.2.1 = some (tyJ0 k) := by decide +kernel
abbrev cJ0_length_8abf5 : ByteArray := prog_16_method_54_code
def yJ0_length_8abf5 : MethodName := ⟨RJ0, "length", "()I"⟩
abbrev cJ0_indexOf_0f7a4 : ByteArray := prog_16_method_79_code
def yJ0_indexOf_0f7a4 : MethodName := ⟨RJ0, "indexOf", "(I)I"⟩
abbrev cJ0_indexOf_7cf53 : ByteArray := prog_16_method_80_code
def yJ0_indexOf_7cf53 : MethodName := ⟨RJ0, "indexOf", "(II)I"⟩
abbrev cJ0_coder_7d493 : ByteArray := prog_16_method_152_code
def yJ0_coder_7d493 : MethodName := ⟨RJ0, "coder", "()B"⟩
abbrev cJ0_isLatin1_aae02 : ByteArray := prog_16_method_154_code
def yJ0_isLatin1_aae02 : MethodName := ⟨RJ0, "isLatin1", "()Z"⟩
abbrev cJ0_checkBoundsBeginEnd_23922 : ByteArray := prog_16_method_158_code
def yJ0_checkBoundsBeginEnd_23922 : MethodName := ⟨RJ0, "checkBoundsBeginEnd", "(III)V"⟩
def RJ1 : String := "java/lang/StringLatin1"
def TJ1 : u_T := fun k => match k with
  | _ => ("", "", "", false)
def tyJ1 : Nat → FieldType := fun k => match k with
  | _ => .int
theorem nmJ1 : ∀ a, a < 0 → ∀ b, b < 0 → a ≠ b → (TJ1 a).2.1 ≠ (TJ1 b).2.1 := by decide +kernel
theorem tyJ1_ok : ∀ k, k < 0 → parseFieldDescriptor (TJ1 k).2.2.1 = some (tyJ1 k) := by decide +kernel
abbrev cJ1_canEncode_9a6ad : ByteArray := prog_17_method_4_code
def yJ1_canEncode_9a6ad : MethodName := ⟨RJ1, "canEncode", "(I)Z"⟩
abbrev cJ1_indexOf_4cfef : ByteArray := prog_17_method_22_code
def yJ1_indexOf_4cfef : MethodName := ⟨RJ1, "indexOf", "([BIII)I"⟩
abbrev cJ1_indexOfChar_4cfef : ByteArray := prog_17_method_23_code
def yJ1_indexOfChar_4cfef : MethodName := ⟨RJ1, "indexOfChar", "([BIII)I"⟩
def RJ2 : String := "java/lang/StringUTF16"
def TJ2 : u_T := fun k => match k with
  | _ => ("", "", "", false)
def tyJ2 : Nat → FieldType := fun k => match k with
  | _ => .int
theorem nmJ2 : ∀ a, a < 0 → ∀ b, b < 0 → a ≠ b → (TJ2 a).2.1 ≠ (TJ2 b).2.1 := by decide +kernel
theorem tyJ2_ok : ∀ k, k < 0 → parseFieldDescriptor (TJ2 k).2.2.1 = some (tyJ2 k) := by decide +kernel
abbrev cJ2_getChar_3b067 : ByteArray := prog_18_method_5_code
def yJ2_getChar_3b067 : MethodName := ⟨RJ2, "getChar", "([BI)C"⟩
abbrev cJ2_length_9d52b : ByteArray := prog_18_method_6_code
def yJ2_length_9d52b : MethodName := ⟨RJ2, "length", "([B)I"⟩
abbrev cJ2_indexOf_4cfef : ByteArray := prog_18_method_40_code
def yJ2_indexOf_4cfef : MethodName := ⟨RJ2, "indexOf", "([BIII)I"⟩
abbrev cJ2_indexOfChar_4cfef : ByteArray := prog_18_method_47_code
def yJ2_indexOfChar_4cfef : MethodName := ⟨RJ2, "indexOfChar", "([BIII)I"⟩
abbrev cJ2_indexOfCharUnsafe_4cfef : ByteArray := prog_18_method_48_code
def yJ2_indexOfCharUnsafe_4cfef : MethodName := ⟨RJ2, "indexOfCharUnsafe", "([BIII)I"⟩
abbrev cJ2_indexOfSupplementary_4cfef : ByteArray := prog_18_method_49_code
def yJ2_indexOfSupplementary_4cfef : MethodName := ⟨RJ2, "indexOfSupplementary", "([BIII)I"⟩
abbrev cJ2_checkBoundsBeginEnd_d044e : ByteArray := prog_18_method_93_code
def yJ2_checkBoundsBeginEnd_d044e : MethodName := ⟨RJ2, "checkBoundsBeginEnd", "(II[B)V"⟩
def RJ7 : String := "java/util/Arrays"
def TJ7 : u_T := fun k => match k with
  | _ => ("", "", "", false)
def tyJ7 : Nat → FieldType := fun k => match k with
  | _ => .int
theorem nmJ7 : ∀ a, a < 0 → ∀ b, b < 0 → a ≠ b → (TJ7 a).2.1 ≠ (TJ7 b).2.1 := by decide +kernel
theorem tyJ7_ok : ∀ k, k < 0 → parseFieldDescriptor (TJ7 k).2.2.1 = some (tyJ7 k) := by decide +kernel
abbrev cJ7_fill_53178 : ByteArray := prog_19_method_103_code
def yJ7_fill_53178 : MethodName := ⟨RJ7, "fill", "([II)V"⟩
def RJ3 : String := "jdk/internal/util/Preconditions"
def TJ3 : u_T := fun k => match k with
  | _ => ("", "", "", false)
def tyJ3 : Nat → FieldType := fun k => match k with
  | _ => .int
theorem nmJ3 : ∀ a, a < 0 → ∀ b, b < 0 → a ≠ b → (TJ3 a).2.1 ≠ (TJ3 b).2.1 := by decide +kernel
theorem tyJ3_ok : ∀ k, k < 0 → parseFieldDescriptor (TJ3 k).2.2.1 = some (tyJ3 k) := by decide +kernel
abbrev cJ3_checkFromToIndex_8c36e : ByteArray := prog_20_method_12_code
def yJ3_checkFromToIndex_8c36e : MethodName := ⟨RJ3, "checkFromToIndex", "(IIILjava/util/function/BiFunction;)I"⟩
def RL : String := "SentRoadsLaw"
abbrev cL_law : ByteArray := code
def yL_law : MethodName := ⟨RL, "law", "([I)Z"⟩
abbrev vwCl : List vw_C := [(RX0, TX0, 6), (RX1, TX1, 10), (RX2, TX2, 6), (RX3, TX3, 7), (RX4, TX4, 10), (RX5, TX5, 8), (RX6, TX6, 3), (RX7, TX7, 8), (RX8, TX8, 9), (RX9, TX9, 6), (RX10, TX10, 29)]
end
section
/-! ===== words: the good ones of the law's table, by their places ===== -/
def zT : List Cond := lw_tbl.filter goodWord
theorem zmem {w : Cond} (i : Nat) (h : lw_tbl[i]? = some w) (hg : goodWord w = true) : w ∈ zT := List.mem_filter.mpr ⟨List.mem_of_getElem? h, hg⟩
theorem zT_good : GoodIn zT zT := fun w h => ⟨h, good_of_word (List.mem_filter.mp h).2⟩
theorem zT_law : GoodIn lw_tbl zT := fun w h => ⟨(List.mem_filter.mp h).1, good_of_word (List.mem_filter.mp h).2⟩
theorem zT_code {y : MethodName} {cc : ByteArray} {nL : Nat} {rt : Option FieldType} (h : Cond.code y cc nL rt ∈ zT) : GoodIn zT (.code y cc nL rt :: zT) := fun w hw => (List.mem_cons.mp hw).elim (fun e => e ▸ zT_good _ h) (fun q => zT_good w q)
/-! ===== values, memory, shapes ===== -/
abbrev zV : Type := Int32 ⊕ (Int64 ⊕ (Nat × Nat))
abbrev zM : Type := Nat → Nat → Nat → Int32
abbrev zFd : Type := Option (Nat × (Nat → Nat))
abbrev zSh : Type := (Nat × List zFd) ⊕ (Nat × Nat × Option (Nat × (Nat → Nat → Nat)))
abbrev zi (x : Int32) : zV := .inl x
abbrev zl (x : Int64) : zV := .inr (.inl x)
abbrev zr (k n : Nat) : zV := .inr (.inr (k, n))
def zup (f : zM) (k n j : Nat) (x : Int32) : zM := fun a b c => if a = k ∧ b = n ∧ c = j then x else f a b c
theorem zup_same (f : zM) (k n j : Nat) (x : Int32) : zup f k n j x k n j = x := by simp [zup]
theorem zup_ne (f : zM) {k n j a b c : Nat} (x : Int32) (h : ¬ (a = k ∧ b = n ∧ c = j)) : zup f k n j x a b c = f a b c := by simp [zup, h]
def zcv (ad : Nat → Nat → Nat) : zV → Value
  | .inl x => .int x
  | .inr (.inl x) => .long x
  | .inr (.inr q) => .ref (ad q.1 q.2)
def zsz : List zV → Nat
  | [] => 0
  | .inl _ :: r => 1 + zsz r
  | .inr (.inl _) :: r => 2 + zsz r
  | .inr (.inr _) :: r => 1 + zsz r
theorem zsz_ok (ad : Nat → Nat → Nat) (st : List zV) : ((st.map (zcv ad)).map fun v => v.category).sum = zsz st := by
  induction st with
  | nil => rfl
  | cons v r ih =>
    simp only [List.map_cons, List.sum_cons, ih]
    rcases v with x | x | x <;> rfl
/-! the locals, by place -/
def zlv (ad : Nat → Nat → Nat) : Nat → List (Option zV) → List (Nat × Value)
  | _, [] => []
  | i, none :: r => zlv ad (i + 1) r
  | i, some v :: r => (i, zcv ad v) :: zlv ad (i + 1) r
theorem zlv_mem (ad : Nat → Nat → Nat) : ∀ (L : List (Option zV)) (j i : Nat) (v : zV), L[i]? = some (some v) → (j + i, zcv ad v) ∈ zlv ad j L
  | [], j, i, v, h => by simp at h
  | o :: r, j, 0, v, h => by
    simp only [List.getElem?_cons_zero, Option.some.injEq] at h
    subst h
    simp [zlv]
  | o :: r, j, i + 1, v, h => by
    rw [List.getElem?_cons_succ] at h
    have := zlv_mem ad r (j + 1) i v h
    rw [show j + 1 + i = j + (i + 1) by omega] at this
    cases o with
    | none => exact this
    | some w => exact List.mem_cons_of_mem _ this
theorem zlv_of (ad : Nat → Nat → Nat) : ∀ (L : List (Option zV)) (j : Nat) (q : Nat × Value), q ∈ zlv ad j L → ∃ (i : Nat) (v : zV), L[i]? = some (some v) ∧ q = (j + i, zcv ad v)
  | [], j, q, h => by simp [zlv] at h
  | none :: r, j, q, h => by
    obtain ⟨i, v, h1, h2⟩ := zlv_of ad r (j + 1) q h
    exact ⟨i + 1, v, by rw [List.getElem?_cons_succ]; exact h1, by rw [h2, show j + 1 + i = j + (i + 1) by omega]⟩
  | some w :: r, j, q, h => by
    rcases List.mem_cons.mp h with h | h
    · exact ⟨0, w, by simp, h⟩
    · obtain ⟨i, v, h1, h2⟩ := zlv_of ad r (j + 1) q h
      exact ⟨i + 1, v, by rw [List.getElem?_cons_succ]; exact h1, by rw [h2, show j + 1 + i = j + (i + 1) by omega]⟩
theorem zat {ad : Nat → Nat → Nat} {ls : Array Slot} {nL : Nat} {L : List (Option zV)} (h : lv_has ls nL (zlv ad 0 L)) {i : Nat} {v : zV} (hi : L[i]? = some (some v)) : ls[i]? = some (.val (zcv ad v)) := by
  have := h.2.2 _ (zlv_mem ad L 0 i v hi)
  rwa [Nat.zero_add] at this
theorem lv_less {ls : Array Slot} {nL : Nat} {l l' : List (Nat × Value)} (h : lv_has ls nL l) (hs : ∀ q ∈ l', q ∈ l) : lv_has ls nL l' := ⟨h.1, h.2.1, fun q hq => h.2.2 q (hs q hq)⟩
/-- the place ahead holds no long -/
def zno (L : List (Option zV)) : Nat → Bool
  | 0 => true
  | i + 1 => match L[i]? with
    | some (some (.inr (.inl _))) => false
    | _ => true
theorem zset {ad : Nat → Nat → Nat} {L : List (Option zV)} {i : Nat} {v : zV} (hn : zno L i = true) :
    ∀ q ∈ zlv ad 0 (L.set i (some v)), q ∈ (i, zcv ad v) :: (zlv ad 0 L).filter (fun q => !(q.1 == i) && !(q.1 + 1 == i && q.2.category == 2)) := by
  intro q hq
  obtain ⟨j, w, h1, h2⟩ := zlv_of ad _ 0 q hq
  rw [Nat.zero_add] at h2
  by_cases hj : i = j
  · subst hj
    have hl : i < (L.set i (some v)).length := (List.getElem?_eq_some_iff.mp h1).1
    rw [List.length_set] at hl
    rw [List.getElem?_set_self hl] at h1
    cases h1
    rw [h2]
    exact List.mem_cons_self
  · rw [List.getElem?_set_ne hj] at h1
    refine List.mem_cons_of_mem _ (List.mem_filter.mpr ⟨?_, ?_⟩)
    · rw [h2]
      have := zlv_mem ad L 0 j w h1
      rwa [Nat.zero_add] at this
    · rw [h2]
      have e1 : (j == i) = false := by simp; omega
      by_cases hc : j + 1 = i
      · subst hc
        rcases w with x | x | x
        · simp [e1, zcv, Value.category]
        · simp [zno, h1] at hn
        · simp [e1, zcv, Value.category]
      · have e2 : (j + 1 == i) = false := by simp; omega
        simp [e1, e2]
/-! the locals with which a method begins -/
def zarg : List zV → List (Option zV)
  | [] => []
  | .inr (.inl x) :: r => some (.inr (.inl x)) :: none :: zarg r
  | v :: r => some v :: zarg r
theorem zlv_pad (ad : Nat → Nat → Nat) : ∀ (n j : Nat), zlv ad j (List.replicate n none) = []
  | 0, _ => rfl
  | n + 1, j => by rw [List.replicate_succ]; exact zlv_pad ad n (j + 1)
theorem zlv_arg (ad : Nat → Nat → Nat) (n : Nat) : ∀ (as : List zV) (j : Nat), zlv ad j (zarg as ++ List.replicate n none) = lv_args j (as.map (zcv ad))
  | [], j => by simp only [zarg, List.nil_append, List.map_nil, lv_args]; exact zlv_pad ad n j
  | .inl x :: r, j => by
    simp only [zarg, List.cons_append, zlv, List.map_cons, lv_args, zcv, Value.category]
    rw [zlv_arg ad n r (j + 1)]
    rfl
  | .inr (.inl x) :: r, j => by
    simp only [zarg, List.cons_append, zlv, List.map_cons, lv_args, zcv, Value.category]
    rw [zlv_arg ad n r (j + 1 + 1)]
    rfl
  | .inr (.inr x) :: r, j => by
    simp only [zarg, List.cons_append, zlv, List.map_cons, lv_args, zcv, Value.category]
    rw [zlv_arg ad n r (j + 1)]
    rfl
/-! ===== the shapes of this system: (kind, number) names a cell ===== -/
abbrev zc (k : Nat) : zFd := some (k, fun _ => 0)
def zshp : Nat → zSh
  | 0 => .inl (9, [some (1, fun _ => 0), some (1, fun _ => 1), zc 13, zc 18, zc 22, none])
  | 1 => .inl (8, [some (2, fun n => n), some (3, fun n => n), some (4, fun n => n), some (5, fun n => n), some (6, fun n => n), none, none, none, none])
  | 2 => .inr (2, 24, some (7, fun n i => 24 * n + i))
  | 3 => .inr (3, 8, some (8, fun n i => 8 * n + i))
  | 4 => .inr (4, 12, some (11, fun n i => 12 * n + i))
  | 5 => .inr (5, 8, some (12, fun n i => 8 * n + i))
  | 6 => .inl (3, [none, none, none, none, none, none, none])
  | 7 => .inl (0, [none, none, none, none, none, none])
  | 8 => .inl (1, [none, none, none, none, none, none, none, none, some (9, fun n => n), some (10, fun n => n)])
  | 9 => .inr (0, 6, none)
  | 10 => .inr (0, 6, none)
  | 11 => .inl (4, [none, none, none, none, none, none, none, none, none, none])
  | 12 => .inl (2, [none, none, none, none, none, none])
  | 13 => .inl (5, [zc 1, some (6, fun _ => 2), zc 14, zc 15, zc 16, zc 17, none, none])
  | 14 => .inr (0, 3072, none)
  | 15 => .inr (0, 3073, none)
  | 16 => .inr (0, 3073, none)
  | 17 => .inr (0, 12, none)
  | 18 => .inl (7, [zc 19, zc 20, zc 21, none, none, none, none, none])
  | 19 => .inr (1, 120, none)
  | 20 => .inr (2, 12, some (7, fun _ i => 48 + i))
  | 21 => .inr (4, 12, some (11, fun _ i => 24 + i))
  | 22 => .inr (6, 4, some (23, fun _ i => i))
  | 23 => .inl (6, [some (24, fun n => n), none, none])
  | 24 => .inr (0, 16, none)
  | 25 => .inl (10, [none, zc 26, none, zc 27, none, zc 28, none, zc 29, zc 30, zc 31, zc 32, zc 33, zc 34, none, zc 35, zc 36, none, none, none, zc 37, none, zc 38, none, zc 39, none, zc 40, zc 41, zc 42, zc 43])
  | 26 => .inr (0, 144, none)
  | 27 => .inr (0, 40, none)
  | 28 => .inr (0, 96, none)
  | 29 => .inr (0, 24, none)
  | 30 => .inr (0, 7, none)
  | 31 => .inr (0, 12, none)
  | 32 => .inr (0, 21504, none)
  | 33 => .inr (0, 21504, none)
  | 34 => .inr (0, 21504, none)
  | 35 => .inr (0, 12, none)
  | 36 => .inr (0, 120, none)
  | 37 => .inr (0, 72, none)
  | 38 => .inr (0, 96, none)
  | 39 => .inr (0, 320, none)
  | 40 => .inr (0, 4, none)
  | 41 => .inr (0, 4, none)
  | 42 => .inr (0, 4, none)
  | 43 => .inr (0, 64, none)
  | _ => .inr (0, 0, none)
def zcnt : Nat → Nat
  | 0 => 1
  | 1 => 2
  | 2 => 2
  | 3 => 2
  | 4 => 2
  | 5 => 2
  | 6 => 3
  | 7 => 60
  | 8 => 16
  | 9 => 16
  | 10 => 16
  | 11 => 36
  | 12 => 16
  | 13 => 1
  | 14 => 1
  | 15 => 1
  | 16 => 1
  | 17 => 1
  | 18 => 1
  | 19 => 1
  | 20 => 1
  | 21 => 1
  | 22 => 1
  | 23 => 4
  | 24 => 4
  | k => if k < 44 then 1 else 0
/-- where the cells lie, counted from the first -/
def zoff : Nat → Nat → Nat
  | 0, _ => 0
  | 1, n => 1 + 74 * n
  | 2, n => 2 + 74 * n
  | 3, n => 3 + 74 * n
  | 4, n => 4 + 74 * n
  | 5, n => 5 + 74 * n
  | 6, n => if n < 2 then 6 + 74 * n else 150
  | 7, n => if n < 24 then 7 + n else if n < 48 then 81 + (n - 24) else 159 + 2 * (n - 48)
  | 8, n => if n < 8 then 31 + 3 * n else 105 + 3 * (n - 8)
  | 9, n => if n < 8 then 32 + 3 * n else 106 + 3 * (n - 8)
  | 10, n => if n < 8 then 33 + 3 * n else 107 + 3 * (n - 8)
  | 11, n => if n < 12 then 55 + n else if n < 24 then 129 + (n - 12) else 160 + 2 * (n - 24)
  | 12, n => if n < 8 then 67 + n else 141 + (n - 8)
  | 13, _ => 149
  | 14, _ => 151
  | 15, _ => 152
  | 16, _ => 153
  | 17, _ => 154
  | 18, _ => 155
  | 19, _ => 156
  | 20, _ => 157
  | 21, _ => 158
  | 22, _ => 183
  | 23, n => 184 + 2 * n
  | 24, n => 185 + 2 * n
  | k, _ => 192 + (k - 25)
def zinv : List (Nat × Nat) := (List.range 44).flatMap (fun k => (List.range (zcnt k)).map (fun n => (k, n)))
theorem zcnt_big (k : Nat) (h : 44 ≤ k) : zcnt k = 0 := by
  unfold zcnt
  split <;> first | omega | (rw [if_neg (by omega)])
theorem zoff_nodup : ((List.range 44).all fun k => (List.range (zcnt k)).all fun n => (List.range 44).all fun k' => (List.range (zcnt k')).all fun n' => !(zoff k n == zoff k' n') || (k == k' && n == n')) = true := by decide +kernel
theorem zoff_lt : ((List.range 44).all fun k => (List.range (zcnt k)).all fun n => decide (zoff k n < 211)) = true := by decide +kernel
theorem zoff_inj {k n k' n' : Nat} (h : n < zcnt k) (h' : n' < zcnt k') (e : zoff k n = zoff k' n') : k = k' ∧ n = n' := by
  have hk : k < 44 := by
    rcases Nat.lt_or_ge k 44 with q | q
    · exact q
    · rw [zcnt_big k q] at h; omega
  have hk' : k' < 44 := by
    rcases Nat.lt_or_ge k' 44 with q | q
    · exact q
    · rw [zcnt_big k' q] at h'; omega
  have h1 := List.all_eq_true.mp zoff_nodup k (List.mem_range.mpr hk)
  have h2 := List.all_eq_true.mp h1 n (List.mem_range.mpr h)
  have h3 := List.all_eq_true.mp h2 k' (List.mem_range.mpr hk')
  have h4 := List.all_eq_true.mp h3 n' (List.mem_range.mpr h')
  simpa [e] using h4
end
section
/-! ===== the judgement: the machine at (pc, locals, stack, memory) comes to the target ===== -/
def zfl (ad : Nat → Nat → Nat) (f : zM) (k n : Nat) : Nat → List zFd → List Value
  | _, [] => []
  | j, none :: r => .int (f k n j) :: zfl ad f k n (j + 1) r
  | j, some q :: r => .ref (ad q.1 (q.2 n)) :: zfl ad f k n (j + 1) r
def zent (cA : Nat → ClassId) (ad : Nat → Nat → Nat) (f : zM) (k n : Nat) : va_E := match zshp k with
  | .inl q => .inr (q.1, zfl ad f k n 0 q.2)
  | .inr (t, len, none) => .inl (cA t, len, .inl (f k n))
  | .inr (t, len, some q) => .inl (cA t, len, .inr (.inr (.inr (.inr (fun i => some (ad q.1 (q.2 n i)))))))
theorem zfl_get (ad : Nat → Nat → Nat) (f : zM) (k n : Nat) : ∀ (fds : List zFd) (j i : Nat) (d : zFd), fds[i]? = some d → (zfl ad f k n j fds)[i]? = some (match d with | none => .int (f k n (j + i)) | some q => .ref (ad q.1 (q.2 n)))
  | [], j, i, d, h => by simp at h
  | none :: r, j, 0, d, h => by simp at h; subst h; simp [zfl]
  | some q :: r, j, 0, d, h => by simp at h; subst h; simp [zfl]
  | none :: r, j, i + 1, d, h => by
    rw [List.getElem?_cons_succ] at h
    have := zfl_get ad f k n r (j + 1) i d h
    rw [show j + 1 + i = j + (i + 1) by omega] at this
    simpa [zfl] using this
  | some q :: r, j, i + 1, d, h => by
    rw [List.getElem?_cons_succ] at h
    have := zfl_get ad f k n r (j + 1) i d h
    rw [show j + 1 + i = j + (i + 1) by omega] at this
    simpa [zfl] using this
theorem zfl_len (ad : Nat → Nat → Nat) (f : zM) (k n : Nat) : ∀ (fds : List zFd) (j : Nat), (zfl ad f k n j fds).length = fds.length
  | [], j => rfl
  | none :: r, j => by simp [zfl, zfl_len ad f k n r (j + 1)]
  | some q :: r, j => by simp [zfl, zfl_len ad f k n r (j + 1)]
theorem zfl_congr (ad : Nat → Nat → Nat) (f g : zM) (k n : Nat) : ∀ (fds : List zFd) (j : Nat), (∀ i, f k n i = g k n i) → zfl ad f k n j fds = zfl ad g k n j fds
  | [], j, h => rfl
  | none :: r, j, h => by simp only [zfl]; rw [h j, zfl_congr ad f g k n r (j + 1) h]
  | some q :: r, j, h => by simp only [zfl]; rw [zfl_congr ad f g k n r (j + 1) h]
theorem zfl_low (ad : Nat → Nat → Nat) (f : zM) (k n i : Nat) (x : Int32) : ∀ (fds : List zFd) (j : Nat), i < j → zfl ad (zup f k n i x) k n j fds = zfl ad f k n j fds
  | [], j, h => rfl
  | none :: r, j, h => by simp only [zfl]; rw [zup_ne f x (by omega), zfl_low ad f k n i x r (j + 1) (by omega)]
  | some q :: r, j, h => by simp only [zfl]; rw [zfl_low ad f k n i x r (j + 1) (by omega)]
theorem zfl_set (ad : Nat → Nat → Nat) (f : zM) (k n : Nat) (x : Int32) : ∀ (fds : List zFd) (j i : Nat), fds[i]? = some none → (zfl ad f k n j fds).set i (.int x) = zfl ad (zup f k n (j + i) x) k n j fds
  | [], j, i, h => by simp at h
  | none :: r, j, 0, h => by simp only [zfl, List.set_cons_zero, Nat.add_zero]; rw [zup_same, zfl_low ad f k n j x r (j + 1) (by omega)]
  | some q :: r, j, 0, h => by simp at h
  | none :: r, j, i + 1, h => by
    rw [List.getElem?_cons_succ] at h
    simp only [zfl, List.set_cons_succ]
    rw [zfl_set ad f k n x r (j + 1) i h, zup_ne f x (by omega), show j + 1 + i = j + (i + 1) by omega]
  | some q :: r, j, i + 1, h => by
    rw [List.getElem?_cons_succ] at h
    simp only [zfl, List.set_cons_succ]
    rw [zfl_set ad f k n x r (j + 1) i h, show j + 1 + i = j + (i + 1) by omega]
def ztys (cA : Nat → ClassId) : List (ClassId × FieldType) := [(cA 0, .int), (cA 1, .char), (cA 2, .object "SentRoads$Crime"), (cA 3, .object "SentRoads$Deed"), (cA 4, .object "SentRoads$Paper"), (cA 5, .object "SentRoads$Demand"), (cA 6, .object "SentRoads$Sheet")]
def zty : Nat → FieldType
  | 0 => .int
  | 1 => .char
  | 2 => .object "SentRoads$Crime"
  | 3 => .object "SentRoads$Deed"
  | 4 => .object "SentRoads$Paper"
  | 5 => .object "SentRoads$Demand"
  | _ => .object "SentRoads$Sheet"
def zOb : Nat → String
  | 2 => "SentRoads$Crime"
  | 3 => "SentRoads$Deed"
  | 4 => "SentRoads$Paper"
  | 5 => "SentRoads$Demand"
  | _ => "SentRoads$Sheet"
theorem ztys_at (cA : Nat → ClassId) {t : Nat} (h : t < 7) : (ztys cA)[t]? = some (cA t, zty t) := by
  match t, h with
  | 0, _ => rfl
  | 1, _ => rfl
  | 2, _ => rfl
  | 3, _ => rfl
  | 4, _ => rfl
  | 5, _ => rfl
  | 6, _ => rfl
abbrev zNest : Cond := .methodLinkNest "SentRoads$Tape" 109 ⟨"SentRoads", "isLand", "(I)Z"⟩ "SentRoads"
def zK (D : va_G) (cA : Nat → ClassId) (U : State) : Prop := va_K D vwCl (ztys cA) U ∧ va_Nw zNest U
def zAt (D : va_G) (cA : Nat → ClassId) (ad : Nat → Nat → Nat) (f : zM) (H : Heap) : Prop := ∀ k n, n < zcnt k → va_at D vwCl (ad k n, zent cA ad f k n) H
def zG (ad : Nat → Nat → Nat) (lo : Nat) : Prop := (∀ k n, n < zcnt k → lo ≤ ad k n) ∧ ∀ k n k' n', n < zcnt k → n' < zcnt k' → ad k n = ad k' n' → k = k' ∧ n = n'
abbrev zX : Type := Program × Launch × Env × Room × State × MethodId × Array Value × List Frame × Method × Code × Nat × va_G × (Nat → ClassId) × (Nat → Nat → Nat) × Nat × Nat × Nat × (State → Prop)
def Z : zX → Nat → List (Option zV) → List zV → zM → Prop
  | (p, l, e, R, s, m, args, below, meth, c, nL, D, cA, ad, lo, cells, slots, Tg), pc, L, st, f => ∀ (H : Heap) (locs : List Loc) (ls : Array Slot), zAt D cA ad f H → va_S (fun q => lo ≤ q) s.heap H locs → lv_has ls nL (zlv ad 0 L) →
    W p l e R s m args below meth c H locs cells slots Tg (F0 m pc ls (st.map (zcv ad)))
def zC : zX → ByteArray → String → Nat → Prop
  | (p, l, e, R, s, m, args, below, meth, c, nL, D, cA, ad, lo, cells, slots, Tg), cc, own, d => p.tables.exec = Jvm.exec ∧ c.code = cc ∧ c.maxLocals = nL ∧ s.vm.findClass own = some m.cls ∧ (∀ w ∈ zT, w.before args s = true) ∧ zK D cA s ∧ zG ad lo ∧ (d ≤ R.frames ∧ 40 * d ≤ R.locals) ∧ (cells ≤ R.cells ∧ slots ≤ R.slots)
def znL : zX → Nat
  | (p, l, e, R, s, m, args, below, meth, c, nL, D, cA, ad, lo, cells, slots, Tg) => nL
theorem zK.moved {D : va_G} {cA : Nat → ClassId} {s U : State} (hW : s.WarmedH U.vm) (h : zK D cA s) : zK D cA U := ⟨va_K.moved hW.alike h.1, va_Nw.warmM hW h.2⟩
theorem zent_obj {cA : Nat → ClassId} {ad : Nat → Nat → Nat} {f : zM} {k n ci : Nat} {fds : List zFd} (hs : zshp k = .inl (ci, fds)) : zent cA ad f k n = .inr (ci, zfl ad f k n 0 fds) := by
  unfold zent; rw [hs]
theorem zent_arr {cA : Nat → ClassId} {ad : Nat → Nat → Nat} {f : zM} {k n t len : Nat} (hs : zshp k = .inr (t, len, none)) : zent cA ad f k n = .inl (cA t, len, .inl (f k n)) := by
  unfold zent; rw [hs]
theorem zent_rar {cA : Nat → ClassId} {ad : Nat → Nat → Nat} {f : zM} {k n t len : Nat} {q : Nat × (Nat → Nat → Nat)} (hs : zshp k = .inr (t, len, some q)) : zent cA ad f k n = .inl (cA t, len, .inr (.inr (.inr (.inr (fun i => some (ad q.1 (q.2 n i))))))) := by
  unfold zent; rw [hs]
theorem zent_congr {cA : Nat → ClassId} {ad : Nat → Nat → Nat} {f g : zM} {k n : Nat} (h : ∀ i, f k n i = g k n i) : zent cA ad f k n = zent cA ad g k n := by
  have e : f k n = g k n := funext h
  unfold zent
  split
  · rw [zfl_congr ad f g k n _ 0 h]
  · rw [e]
  · rfl
/-- one cell written: the others are as they were -/
theorem zAt.put {D : va_G} {cA : Nat → ClassId} {ad : Nat → Nat → Nat} {lo : Nat} {f : zM} {H H1 : Heap} {k n j : Nat} {x : Int32} (hP : zAt D cA ad f H) (hG : zG ad lo) (hn : n < zcnt k) (oq : ∀ q : Nat, q ≠ ad k n → H1[q]? = H[q]?) (hw : va_at D vwCl (ad k n, zent cA ad (zup f k n j x) k n) H1) : zAt D cA ad (zup f k n j x) H1 := by
  intro k' n' hn'
  by_cases hk : k' = k ∧ n' = n
  · obtain ⟨rfl, rfl⟩ := hk
    exact hw
  · have hne : ad k' n' ≠ ad k n := fun q => hk (hG.2 k' n' k n hn' hn q)
    rw [show zent cA ad (zup f k n j x) k' n' = zent cA ad f k' n' from zent_congr (fun i => zup_ne f x (fun q => hk ⟨q.1, q.2.1⟩))]
    exact (hP k' n' hn').kept (oq _ hne)
theorem zP1 {D : va_G} {e : Nat × va_E} {H : Heap} (h : va_at D vwCl e H) : va_P D vwCl [e] H := fun k q hk => by
  have hz : k < 1 := (List.getElem?_eq_some_iff.mp hk).1
  rw [show k = 0 by omega] at hk
  cases hk
  exact h
/-- a field, by the pool number of the code that names it -/
def zFl (own : String) (idx ci j : Nat) : Prop := ∃ (C : String) (T : u_T) (N : Nat), vwCl[ci]? = some (C, T, N) ∧ j < N ∧ (∀ w ∈ u_ws C T N, w ∈ zT) ∧ Cond.fieldLink own idx (T j).1 (T j).2.1 (T j).2.2.1 ∈ zT
/-- what a write to it wants besides -/
def zFw (ci j : Nat) (ty : FieldType) : Prop := ∃ (C : String) (T : u_T) (N : Nat) (ty0 : Nat → FieldType), vwCl[ci]? = some (C, T, N) ∧ (∀ k, k < N → parseFieldDescriptor (T k).2.2.1 = some (ty0 k)) ∧ (∀ a, a < N → ∀ b, b < N → a ≠ b → (T a).2.1 ≠ (T b).2.1) ∧ (T j).2.2.2 = false ∧ parseFieldDescriptor (T j).2.2.1 = some ty
section ZR
variable {X : zX} {cc : ByteArray} {own : String} {d : Nat} {pc : Nat} {L : List (Option zV)} {st : List zV} {f : zM}

theorem z_iconst {n : Int} {v : Int32} (C : zC X cc own d) (hd : decode cc pc = .ok (.iconst n, 1)) (hv : Int32.ofInt n = v) (kk : Z X (pc + 1) L (zi v :: st) f) : Z X pc L st f := by
  obtain ⟨p, l, e, R, s, m, args, below, meth, c, nL, D, cA, ad, lo, cells, slots, Tg⟩ := X
  obtain ⟨hx, hb, hml, hown, hts, hK, hG, hR, hcs⟩ := C
  intro H locs ls hP hS hl
  exact lv_iconst hx hb hd hv (kk H locs ls hP hS hl)
theorem z_bipush {n : Int} {v : Int32} (C : zC X cc own d) (hd : decode cc pc = .ok (.bipush n, 2)) (hv : (Int8.ofInt n).toInt32 = v) (kk : Z X (pc + 2) L (zi v :: st) f) : Z X pc L st f := by
  obtain ⟨p, l, e, R, s, m, args, below, meth, c, nL, D, cA, ad, lo, cells, slots, Tg⟩ := X
  obtain ⟨hx, hb, hml, hown, hts, hK, hG, hR, hcs⟩ := C
  intro H locs ls hP hS hl
  exact lv_bipush hx hb hd hv (kk H locs ls hP hS hl)
theorem z_sipush {n : Int} {v : Int32} (C : zC X cc own d) (hd : decode cc pc = .ok (.sipush n, 3)) (hv : (Int16.ofInt n).toInt32 = v) (kk : Z X (pc + 3) L (zi v :: st) f) : Z X pc L st f := by
  obtain ⟨p, l, e, R, s, m, args, below, meth, c, nL, D, cA, ad, lo, cells, slots, Tg⟩ := X
  obtain ⟨hx, hb, hml, hown, hts, hK, hG, hR, hcs⟩ := C
  intro H locs ls hP hS hl
  exact lv_sipush hx hb hd hv (kk H locs ls hP hS hl)
theorem z_lconst {n : Fin 2} {v : Int64} (C : zC X cc own d) (hd : decode cc pc = .ok (.lconst n, 1)) (hv : Int64.ofNat (n : Nat) = v) (kk : Z X (pc + 1) L (zl v :: st) f) : Z X pc L st f := by
  obtain ⟨p, l, e, R, s, m, args, below, meth, c, nL, D, cA, ad, lo, cells, slots, Tg⟩ := X
  obtain ⟨hx, hb, hml, hown, hts, hK, hG, hR, hcs⟩ := C
  intro H locs ls hP hS hl
  exact lv_lconst hx hb hd hv (kk H locs ls hP hS hl)
theorem z_ldc {idx : Nat} {v : Int32} (C : zC X cc own d) (hw : Cond.constant own idx v ∈ zT) (hd : decode cc pc = .ok (.ldc idx, 2)) (kk : Z X (pc + 2) L (zi v :: st) f) : Z X pc L st f := by
  obtain ⟨p, l, e, R, s, m, args, below, meth, c, nL, D, cA, ad, lo, cells, slots, Tg⟩ := X
  obtain ⟨hx, hb, hml, hown, hts, hK, hG, hR, hcs⟩ := C
  intro H locs ls hP hS hl
  exact lv_ldc hx hb hown (hts _ hw) hd (kk H locs ls hP hS hl)
theorem z_ldc2 {idx : Nat} {v : Int64} (C : zC X cc own d) (hw : Cond.constantLong own idx v ∈ zT) (hd : decode cc pc = .ok (.ldc2_w idx, 3)) (kk : Z X (pc + 3) L (zl v :: st) f) : Z X pc L st f := by
  obtain ⟨p, l, e, R, s, m, args, below, meth, c, nL, D, cA, ad, lo, cells, slots, Tg⟩ := X
  obtain ⟨hx, hb, hml, hown, hts, hK, hG, hR, hcs⟩ := C
  intro H locs ls hP hS hl
  exact lv_ldc2 hx hb hown (hts _ hw) hd (kk H locs ls hP hS hl)
theorem z_iload_n {k : Fin 4} {x : Int32} (C : zC X cc own d) (hd : decode cc pc = .ok (.iload_n k, 1)) (hi : L[(k : Nat)]? = some (some (zi x))) (kk : Z X (pc + 1) L (zi x :: st) f) : Z X pc L st f := by
  obtain ⟨p, l, e, R, s, m, args, below, meth, c, nL, D, cA, ad, lo, cells, slots, Tg⟩ := X
  obtain ⟨hx, hb, hml, hown, hts, hK, hG, hR, hcs⟩ := C
  intro H locs ls hP hS hl
  exact lv_iload_n hx hb hd rfl (zat hl hi) (kk H locs ls hP hS hl)
theorem z_iload {k : Nat} {x : Int32} (C : zC X cc own d) (hd : decode cc pc = .ok (.iload k, 2)) (hi : L[k]? = some (some (zi x))) (kk : Z X (pc + 2) L (zi x :: st) f) : Z X pc L st f := by
  obtain ⟨p, l, e, R, s, m, args, below, meth, c, nL, D, cA, ad, lo, cells, slots, Tg⟩ := X
  obtain ⟨hx, hb, hml, hown, hts, hK, hG, hR, hcs⟩ := C
  intro H locs ls hP hS hl
  exact lv_iload hx hb hd (zat hl hi) (kk H locs ls hP hS hl)
theorem z_lload_n {k : Fin 4} {x : Int64} (C : zC X cc own d) (hd : decode cc pc = .ok (.lload_n k, 1)) (hi : L[(k : Nat)]? = some (some (zl x))) (kk : Z X (pc + 1) L (zl x :: st) f) : Z X pc L st f := by
  obtain ⟨p, l, e, R, s, m, args, below, meth, c, nL, D, cA, ad, lo, cells, slots, Tg⟩ := X
  obtain ⟨hx, hb, hml, hown, hts, hK, hG, hR, hcs⟩ := C
  intro H locs ls hP hS hl
  exact lv_lload_n hx hb hd rfl (zat hl hi) (kk H locs ls hP hS hl)
theorem z_lload {k : Nat} {x : Int64} (C : zC X cc own d) (hd : decode cc pc = .ok (.lload k, 2)) (hi : L[k]? = some (some (zl x))) (kk : Z X (pc + 2) L (zl x :: st) f) : Z X pc L st f := by
  obtain ⟨p, l, e, R, s, m, args, below, meth, c, nL, D, cA, ad, lo, cells, slots, Tg⟩ := X
  obtain ⟨hx, hb, hml, hown, hts, hK, hG, hR, hcs⟩ := C
  intro H locs ls hP hS hl
  exact lv_lload hx hb hd (zat hl hi) (kk H locs ls hP hS hl)
theorem z_aload_n {k : Fin 4} {kd nn : Nat} (C : zC X cc own d) (hd : decode cc pc = .ok (.aload_n k, 1)) (hi : L[(k : Nat)]? = some (some (zr kd nn))) (kk : Z X (pc + 1) L (zr kd nn :: st) f) : Z X pc L st f := by
  obtain ⟨p, l, e, R, s, m, args, below, meth, c, nL, D, cA, ad, lo, cells, slots, Tg⟩ := X
  obtain ⟨hx, hb, hml, hown, hts, hK, hG, hR, hcs⟩ := C
  intro H locs ls hP hS hl
  exact lv_aload_n hx hb hd rfl (zat hl hi) (kk H locs ls hP hS hl)
theorem z_aload {k : Nat} {kd nn : Nat} (C : zC X cc own d) (hd : decode cc pc = .ok (.aload k, 2)) (hi : L[k]? = some (some (zr kd nn))) (kk : Z X (pc + 2) L (zr kd nn :: st) f) : Z X pc L st f := by
  obtain ⟨p, l, e, R, s, m, args, below, meth, c, nL, D, cA, ad, lo, cells, slots, Tg⟩ := X
  obtain ⟨hx, hb, hml, hown, hts, hK, hG, hR, hcs⟩ := C
  intro H locs ls hP hS hl
  exact lv_aload hx hb hd (zat hl hi) (kk H locs ls hP hS hl)
theorem z_istore_n {k : Fin 4} {x : Int32} (C : zC X cc own d) (hd : decode cc pc = .ok (.istore_n k, 1)) (hn : (k : Nat) < znL X) (ho : zno L k = true) (kk : Z X (pc + 1) (L.set k (some (zi x))) st f) : Z X pc L (zi x :: st) f := by
  obtain ⟨p, l, e, R, s, m, args, below, meth, c, nL, D, cA, ad, lo, cells, slots, Tg⟩ := X
  obtain ⟨hx, hb, hml, hown, hts, hK, hG, hR, hcs⟩ := C
  intro H locs ls hP hS hl
  exact lv_istore_n hx hb hd rfl hl hn rfl (fun ls2 hl2 => kk H locs ls2 hP hS (lv_less hl2 (zset ho)))
theorem z_istore {k : Nat} {x : Int32} (C : zC X cc own d) (hd : decode cc pc = .ok (.istore k, 2)) (hn : k < znL X) (ho : zno L k = true) (kk : Z X (pc + 2) (L.set k (some (zi x))) st f) : Z X pc L (zi x :: st) f := by
  obtain ⟨p, l, e, R, s, m, args, below, meth, c, nL, D, cA, ad, lo, cells, slots, Tg⟩ := X
  obtain ⟨hx, hb, hml, hown, hts, hK, hG, hR, hcs⟩ := C
  intro H locs ls hP hS hl
  exact lv_istore hx hb hd hl hn rfl (fun ls2 hl2 => kk H locs ls2 hP hS (lv_less hl2 (zset ho)))
theorem z_astore_n {k : Fin 4} {kd nn : Nat} (C : zC X cc own d) (hd : decode cc pc = .ok (.astore_n k, 1)) (hn : (k : Nat) < znL X) (ho : zno L k = true) (kk : Z X (pc + 1) (L.set k (some (zr kd nn))) st f) : Z X pc L (zr kd nn :: st) f := by
  obtain ⟨p, l, e, R, s, m, args, below, meth, c, nL, D, cA, ad, lo, cells, slots, Tg⟩ := X
  obtain ⟨hx, hb, hml, hown, hts, hK, hG, hR, hcs⟩ := C
  intro H locs ls hP hS hl
  exact lv_astore_n hx hb hd rfl hl hn rfl (fun ls2 hl2 => kk H locs ls2 hP hS (lv_less hl2 (zset ho)))
theorem z_astore {k : Nat} {kd nn : Nat} (C : zC X cc own d) (hd : decode cc pc = .ok (.astore k, 2)) (hn : k < znL X) (ho : zno L k = true) (kk : Z X (pc + 2) (L.set k (some (zr kd nn))) st f) : Z X pc L (zr kd nn :: st) f := by
  obtain ⟨p, l, e, R, s, m, args, below, meth, c, nL, D, cA, ad, lo, cells, slots, Tg⟩ := X
  obtain ⟨hx, hb, hml, hown, hts, hK, hG, hR, hcs⟩ := C
  intro H locs ls hP hS hl
  exact lv_astore hx hb hd hl hn rfl (fun ls2 hl2 => kk H locs ls2 hP hS (lv_less hl2 (zset ho)))
theorem z_iinc {k : Nat} {n : Int} {x v : Int32} (C : zC X cc own d) (hd : decode cc pc = .ok (.iinc k n, 3)) (hi : L[k]? = some (some (zi x))) (hv : Int32.ofInt n = v) (hn : k < znL X) (ho : zno L k = true) (kk : Z X (pc + 3) (L.set k (some (zi (x + v)))) st f) : Z X pc L st f := by
  obtain ⟨p, l, e, R, s, m, args, below, meth, c, nL, D, cA, ad, lo, cells, slots, Tg⟩ := X
  obtain ⟨hx, hb, hml, hown, hts, hK, hG, hR, hcs⟩ := C
  intro H locs ls hP hS hl
  subst hv
  have hm := zlv_mem ad L 0 k (zi x) hi
  rw [Nat.zero_add] at hm
  obtain ⟨i, hi2⟩ := List.getElem?_of_mem hm
  exact lv_iinc hx hb hd hl hi2 rfl hn rfl (fun ls2 hl2 => kk H locs ls2 hP hS (lv_less hl2 (zset (v := zi (x + Int32.ofInt n)) ho)))
theorem z_iadd {x y : Int32} (C : zC X cc own d) (hd : decode cc pc = .ok (.iadd, 1)) (kk : Z X (pc + 1) L (zi (x + y) :: st) f) : Z X pc L (zi y :: zi x :: st) f := by
  obtain ⟨p, l, e, R, s, m, args, below, meth, c, nL, D, cA, ad, lo, cells, slots, Tg⟩ := X
  obtain ⟨hx, hb, hml, hown, hts, hK, hG, hR, hcs⟩ := C
  intro H locs ls hP hS hl
  exact lv_iadd hx hb hd (kk H locs ls hP hS hl)
theorem z_isub {x y : Int32} (C : zC X cc own d) (hd : decode cc pc = .ok (.isub, 1)) (kk : Z X (pc + 1) L (zi (x - y) :: st) f) : Z X pc L (zi y :: zi x :: st) f := by
  obtain ⟨p, l, e, R, s, m, args, below, meth, c, nL, D, cA, ad, lo, cells, slots, Tg⟩ := X
  obtain ⟨hx, hb, hml, hown, hts, hK, hG, hR, hcs⟩ := C
  intro H locs ls hP hS hl
  exact lv_isub hx hb hd (kk H locs ls hP hS hl)
theorem z_imul {x y : Int32} (C : zC X cc own d) (hd : decode cc pc = .ok (.imul, 1)) (kk : Z X (pc + 1) L (zi (x * y) :: st) f) : Z X pc L (zi y :: zi x :: st) f := by
  obtain ⟨p, l, e, R, s, m, args, below, meth, c, nL, D, cA, ad, lo, cells, slots, Tg⟩ := X
  obtain ⟨hx, hb, hml, hown, hts, hK, hG, hR, hcs⟩ := C
  intro H locs ls hP hS hl
  exact lv_imul hx hb hd (kk H locs ls hP hS hl)
theorem z_iand {x y : Int32} (C : zC X cc own d) (hd : decode cc pc = .ok (.iand, 1)) (kk : Z X (pc + 1) L (zi (x &&& y) :: st) f) : Z X pc L (zi y :: zi x :: st) f := by
  obtain ⟨p, l, e, R, s, m, args, below, meth, c, nL, D, cA, ad, lo, cells, slots, Tg⟩ := X
  obtain ⟨hx, hb, hml, hown, hts, hK, hG, hR, hcs⟩ := C
  intro H locs ls hP hS hl
  exact lv_iand hx hb hd (kk H locs ls hP hS hl)
theorem z_ior {x y : Int32} (C : zC X cc own d) (hd : decode cc pc = .ok (.ior, 1)) (kk : Z X (pc + 1) L (zi (x ||| y) :: st) f) : Z X pc L (zi y :: zi x :: st) f := by
  obtain ⟨p, l, e, R, s, m, args, below, meth, c, nL, D, cA, ad, lo, cells, slots, Tg⟩ := X
  obtain ⟨hx, hb, hml, hown, hts, hK, hG, hR, hcs⟩ := C
  intro H locs ls hP hS hl
  exact lv_ior hx hb hd (kk H locs ls hP hS hl)
theorem z_ixor {x y : Int32} (C : zC X cc own d) (hd : decode cc pc = .ok (.ixor, 1)) (kk : Z X (pc + 1) L (zi (x ^^^ y) :: st) f) : Z X pc L (zi y :: zi x :: st) f := by
  obtain ⟨p, l, e, R, s, m, args, below, meth, c, nL, D, cA, ad, lo, cells, slots, Tg⟩ := X
  obtain ⟨hx, hb, hml, hown, hts, hK, hG, hR, hcs⟩ := C
  intro H locs ls hP hS hl
  exact lv_ixor hx hb hd (kk H locs ls hP hS hl)
theorem z_ishl {x y : Int32} (C : zC X cc own d) (hd : decode cc pc = .ok (.ishl, 1)) (kk : Z X (pc + 1) L (zi (x <<< (y &&& 31)) :: st) f) : Z X pc L (zi y :: zi x :: st) f := by
  obtain ⟨p, l, e, R, s, m, args, below, meth, c, nL, D, cA, ad, lo, cells, slots, Tg⟩ := X
  obtain ⟨hx, hb, hml, hown, hts, hK, hG, hR, hcs⟩ := C
  intro H locs ls hP hS hl
  exact lv_ishl hx hb hd (kk H locs ls hP hS hl)
theorem z_ishr {x y : Int32} (C : zC X cc own d) (hd : decode cc pc = .ok (.ishr, 1)) (kk : Z X (pc + 1) L (zi (x >>> (y &&& 31)) :: st) f) : Z X pc L (zi y :: zi x :: st) f := by
  obtain ⟨p, l, e, R, s, m, args, below, meth, c, nL, D, cA, ad, lo, cells, slots, Tg⟩ := X
  obtain ⟨hx, hb, hml, hown, hts, hK, hG, hR, hcs⟩ := C
  intro H locs ls hP hS hl
  exact lv_ishr hx hb hd (kk H locs ls hP hS hl)
theorem z_iushr {x y : Int32} (C : zC X cc own d) (hd : decode cc pc = .ok (.iushr, 1)) (kk : Z X (pc + 1) L (zi ((x.toUInt32 >>> (y.toUInt32 &&& Int32.toUInt32 31)).toInt32) :: st) f) : Z X pc L (zi y :: zi x :: st) f := by
  obtain ⟨p, l, e, R, s, m, args, below, meth, c, nL, D, cA, ad, lo, cells, slots, Tg⟩ := X
  obtain ⟨hx, hb, hml, hown, hts, hK, hG, hR, hcs⟩ := C
  intro H locs ls hP hS hl
  exact lv_iushr hx hb hd rfl (kk H locs ls hP hS hl)
theorem z_idiv {x y : Int32} (C : zC X cc own d) (hd : decode cc pc = .ok (.idiv, 1)) (hne : ¬ y = 0) (kk : Z X (pc + 1) L (zi (x / y) :: st) f) : Z X pc L (zi y :: zi x :: st) f := by
  obtain ⟨p, l, e, R, s, m, args, below, meth, c, nL, D, cA, ad, lo, cells, slots, Tg⟩ := X
  obtain ⟨hx, hb, hml, hown, hts, hK, hG, hR, hcs⟩ := C
  intro H locs ls hP hS hl
  exact lv_idiv hx hb hd hne (kk H locs ls hP hS hl)
theorem z_irem {x y : Int32} (C : zC X cc own d) (hd : decode cc pc = .ok (.irem, 1)) (hne : ¬ y = 0) (kk : Z X (pc + 1) L (zi (x - x / y * y) :: st) f) : Z X pc L (zi y :: zi x :: st) f := by
  obtain ⟨p, l, e, R, s, m, args, below, meth, c, nL, D, cA, ad, lo, cells, slots, Tg⟩ := X
  obtain ⟨hx, hb, hml, hown, hts, hK, hG, hR, hcs⟩ := C
  intro H locs ls hP hS hl
  exact lv_irem hx hb hd hne (kk H locs ls hP hS hl)
theorem z_ineg {x : Int32} (C : zC X cc own d) (hd : decode cc pc = .ok (.ineg, 1)) (kk : Z X (pc + 1) L (zi (-x) :: st) f) : Z X pc L (zi x :: st) f := by
  obtain ⟨p, l, e, R, s, m, args, below, meth, c, nL, D, cA, ad, lo, cells, slots, Tg⟩ := X
  obtain ⟨hx, hb, hml, hown, hts, hK, hG, hR, hcs⟩ := C
  intro H locs ls hP hS hl
  exact lv_ineg hx hb hd (kk H locs ls hP hS hl)
theorem z_land {x y : Int64} (C : zC X cc own d) (hd : decode cc pc = .ok (.land, 1)) (kk : Z X (pc + 1) L (zl (x &&& y) :: st) f) : Z X pc L (zl y :: zl x :: st) f := by
  obtain ⟨p, l, e, R, s, m, args, below, meth, c, nL, D, cA, ad, lo, cells, slots, Tg⟩ := X
  obtain ⟨hx, hb, hml, hown, hts, hK, hG, hR, hcs⟩ := C
  intro H locs ls hP hS hl
  exact lv_land hx hb hd (kk H locs ls hP hS hl)
theorem z_lor {x y : Int64} (C : zC X cc own d) (hd : decode cc pc = .ok (.lor, 1)) (kk : Z X (pc + 1) L (zl (x ||| y) :: st) f) : Z X pc L (zl y :: zl x :: st) f := by
  obtain ⟨p, l, e, R, s, m, args, below, meth, c, nL, D, cA, ad, lo, cells, slots, Tg⟩ := X
  obtain ⟨hx, hb, hml, hown, hts, hK, hG, hR, hcs⟩ := C
  intro H locs ls hP hS hl
  exact lv_lor hx hb hd (kk H locs ls hP hS hl)
theorem z_ladd {x y : Int64} (C : zC X cc own d) (hd : decode cc pc = .ok (.ladd, 1)) (kk : Z X (pc + 1) L (zl (x + y) :: st) f) : Z X pc L (zl y :: zl x :: st) f := by
  obtain ⟨p, l, e, R, s, m, args, below, meth, c, nL, D, cA, ad, lo, cells, slots, Tg⟩ := X
  obtain ⟨hx, hb, hml, hown, hts, hK, hG, hR, hcs⟩ := C
  intro H locs ls hP hS hl
  exact lv_ladd hx hb hd (kk H locs ls hP hS hl)
theorem z_lsub {x y : Int64} (C : zC X cc own d) (hd : decode cc pc = .ok (.lsub, 1)) (kk : Z X (pc + 1) L (zl (x - y) :: st) f) : Z X pc L (zl y :: zl x :: st) f := by
  obtain ⟨p, l, e, R, s, m, args, below, meth, c, nL, D, cA, ad, lo, cells, slots, Tg⟩ := X
  obtain ⟨hx, hb, hml, hown, hts, hK, hG, hR, hcs⟩ := C
  intro H locs ls hP hS hl
  exact lv_lsub hx hb hd (kk H locs ls hP hS hl)
theorem z_lshl {x : Int64} {y : Int32} (C : zC X cc own d) (hd : decode cc pc = .ok (.lshl, 1)) (kk : Z X (pc + 1) L (zl (x <<< (y.toInt64 &&& 63)) :: st) f) : Z X pc L (zi y :: zl x :: st) f := by
  obtain ⟨p, l, e, R, s, m, args, below, meth, c, nL, D, cA, ad, lo, cells, slots, Tg⟩ := X
  obtain ⟨hx, hb, hml, hown, hts, hK, hG, hR, hcs⟩ := C
  intro H locs ls hP hS hl
  exact lv_lshl hx hb hd rfl (kk H locs ls hP hS hl)
theorem z_lshr {x : Int64} {y : Int32} (C : zC X cc own d) (hd : decode cc pc = .ok (.lshr, 1)) (kk : Z X (pc + 1) L (zl (x >>> (y.toInt64 &&& 63)) :: st) f) : Z X pc L (zi y :: zl x :: st) f := by
  obtain ⟨p, l, e, R, s, m, args, below, meth, c, nL, D, cA, ad, lo, cells, slots, Tg⟩ := X
  obtain ⟨hx, hb, hml, hown, hts, hK, hG, hR, hcs⟩ := C
  intro H locs ls hP hS hl
  exact lv_lshr hx hb hd rfl (kk H locs ls hP hS hl)
theorem z_lushr {x : Int64} {y : Int32} (C : zC X cc own d) (hd : decode cc pc = .ok (.lushr, 1)) (kk : Z X (pc + 1) L (zl ((x.toUInt64 >>> (y.toInt64.toUInt64 &&& Int64.toUInt64 63)).toInt64) :: st) f) : Z X pc L (zi y :: zl x :: st) f := by
  obtain ⟨p, l, e, R, s, m, args, below, meth, c, nL, D, cA, ad, lo, cells, slots, Tg⟩ := X
  obtain ⟨hx, hb, hml, hown, hts, hK, hG, hR, hcs⟩ := C
  intro H locs ls hP hS hl
  exact lv_lushr hx hb hd rfl (kk H locs ls hP hS hl)
theorem z_lcmp {x y : Int64} (C : zC X cc own d) (hd : decode cc pc = .ok (.lcmp, 1)) (kk : Z X (pc + 1) L (zi (lg_cmp x y) :: st) f) : Z X pc L (zl y :: zl x :: st) f := by
  obtain ⟨p, l, e, R, s, m, args, below, meth, c, nL, D, cA, ad, lo, cells, slots, Tg⟩ := X
  obtain ⟨hx, hb, hml, hown, hts, hK, hG, hR, hcs⟩ := C
  intro H locs ls hP hS hl
  exact W.lcmp hx hb hd (kk H locs ls hP hS hl)
theorem z_i2l {x : Int32} (C : zC X cc own d) (hd : decode cc pc = .ok (.i2l, 1)) (kk : Z X (pc + 1) L (zl x.toInt64 :: st) f) : Z X pc L (zi x :: st) f := by
  obtain ⟨p, l, e, R, s, m, args, below, meth, c, nL, D, cA, ad, lo, cells, slots, Tg⟩ := X
  obtain ⟨hx, hb, hml, hown, hts, hK, hG, hR, hcs⟩ := C
  intro H locs ls hP hS hl
  exact lv_i2l hx hb hd rfl (kk H locs ls hP hS hl)
theorem z_l2i {x : Int64} (C : zC X cc own d) (hd : decode cc pc = .ok (.l2i, 1)) (kk : Z X (pc + 1) L (zi x.toInt32 :: st) f) : Z X pc L (zl x :: st) f := by
  obtain ⟨p, l, e, R, s, m, args, below, meth, c, nL, D, cA, ad, lo, cells, slots, Tg⟩ := X
  obtain ⟨hx, hb, hml, hown, hts, hK, hG, hR, hcs⟩ := C
  intro H locs ls hP hS hl
  exact lv_l2i hx hb hd rfl (kk H locs ls hP hS hl)
theorem z_i2b {x : Int32} (C : zC X cc own d) (hd : decode cc pc = .ok (.i2b, 1)) (kk : Z X (pc + 1) L (zi (x.toInt8.toInt32) :: st) f) : Z X pc L (zi x :: st) f := by
  obtain ⟨p, l, e, R, s, m, args, below, meth, c, nL, D, cA, ad, lo, cells, slots, Tg⟩ := X
  obtain ⟨hx, hb, hml, hown, hts, hK, hG, hR, hcs⟩ := C
  intro H locs ls hP hS hl
  exact lv_i2b hx hb hd rfl (kk H locs ls hP hS hl)
theorem z_i2s {x : Int32} (C : zC X cc own d) (hd : decode cc pc = .ok (.i2s, 1)) (kk : Z X (pc + 1) L (zi (x.toInt16.toInt32) :: st) f) : Z X pc L (zi x :: st) f := by
  obtain ⟨p, l, e, R, s, m, args, below, meth, c, nL, D, cA, ad, lo, cells, slots, Tg⟩ := X
  obtain ⟨hx, hb, hml, hown, hts, hK, hG, hR, hcs⟩ := C
  intro H locs ls hP hS hl
  exact lv_i2s hx hb hd rfl (kk H locs ls hP hS hl)
theorem z_i2c {x : Int32} (C : zC X cc own d) (hd : decode cc pc = .ok (.i2c, 1)) (kk : Z X (pc + 1) L (zi ((x.toUInt32 % 65536).toInt32) :: st) f) : Z X pc L (zi x :: st) f := by
  obtain ⟨p, l, e, R, s, m, args, below, meth, c, nL, D, cA, ad, lo, cells, slots, Tg⟩ := X
  obtain ⟨hx, hb, hml, hown, hts, hK, hG, hR, hcs⟩ := C
  intro H locs ls hP hS hl
  exact lv_i2c hx hb hd rfl (kk H locs ls hP hS hl)
theorem z_dupi {x : Int32} (C : zC X cc own d) (hd : decode cc pc = .ok (.dup, 1)) (kk : Z X (pc + 1) L (zi x :: zi x :: st) f) : Z X pc L (zi x :: st) f := by
  obtain ⟨p, l, e, R, s, m, args, below, meth, c, nL, D, cA, ad, lo, cells, slots, Tg⟩ := X
  obtain ⟨hx, hb, hml, hown, hts, hK, hG, hR, hcs⟩ := C
  intro H locs ls hP hS hl
  exact lv_dup hx hb hd rfl (kk H locs ls hP hS hl)
theorem z_dupr {k n : Nat} (C : zC X cc own d) (hd : decode cc pc = .ok (.dup, 1)) (kk : Z X (pc + 1) L (zr k n :: zr k n :: st) f) : Z X pc L (zr k n :: st) f := by
  obtain ⟨p, l, e, R, s, m, args, below, meth, c, nL, D, cA, ad, lo, cells, slots, Tg⟩ := X
  obtain ⟨hx, hb, hml, hown, hts, hK, hG, hR, hcs⟩ := C
  intro H locs ls hP hS hl
  exact lv_dup hx hb hd rfl (kk H locs ls hP hS hl)
theorem z_dup2 {x : Int32} {k n : Nat} (C : zC X cc own d) (hd : decode cc pc = .ok (.dup2, 1)) (kk : Z X (pc + 1) L (zi x :: zr k n :: zi x :: zr k n :: st) f) : Z X pc L (zi x :: zr k n :: st) f := by
  obtain ⟨p, l, e, R, s, m, args, below, meth, c, nL, D, cA, ad, lo, cells, slots, Tg⟩ := X
  obtain ⟨hx, hb, hml, hown, hts, hK, hG, hR, hcs⟩ := C
  intro H locs ls hP hS hl
  exact lv_dup2_11 hx hb hd rfl rfl (kk H locs ls hP hS hl)
theorem z_dupx1 {x : Int32} {k n : Nat} (C : zC X cc own d) (hd : decode cc pc = .ok (.dup_x1, 1)) (kk : Z X (pc + 1) L (zi x :: zr k n :: zi x :: st) f) : Z X pc L (zi x :: zr k n :: st) f := by
  obtain ⟨p, l, e, R, s, m, args, below, meth, c, nL, D, cA, ad, lo, cells, slots, Tg⟩ := X
  obtain ⟨hx, hb, hml, hown, hts, hK, hG, hR, hcs⟩ := C
  intro H locs ls hP hS hl
  exact lv_dup_x1 hx hb hd rfl rfl (kk H locs ls hP hS hl)
theorem z_pop {x : Int32} (C : zC X cc own d) (hd : decode cc pc = .ok (.pop, 1)) (kk : Z X (pc + 1) L st f) : Z X pc L (zi x :: st) f := by
  obtain ⟨p, l, e, R, s, m, args, below, meth, c, nL, D, cA, ad, lo, cells, slots, Tg⟩ := X
  obtain ⟨hx, hb, hml, hown, hts, hK, hG, hR, hcs⟩ := C
  intro H locs ls hP hS hl
  exact lv_pop hx hb hd rfl (kk H locs ls hP hS hl)
theorem z_goto {off : Int} (tgt : Nat) (C : zC X cc own d) (hd : decode cc pc = .ok (.goto off, 3)) (ht : (pc : Int) + off = (tgt : Int)) (kk : Z X tgt L st f) : Z X pc L st f := by
  obtain ⟨p, l, e, R, s, m, args, below, meth, c, nL, D, cA, ad, lo, cells, slots, Tg⟩ := X
  obtain ⟨hx, hb, hml, hown, hts, hK, hG, hR, hcs⟩ := C
  intro H locs ls hP hS hl
  exact lv_goto hx hb hd ht (kk H locs ls hP hS hl)
theorem z_if_eq {x : Int32} {off : Int} (tgt : Nat) (C : zC X cc own d) (hd : decode cc pc = .ok (.ifCond .eq off, 3)) (ht : (pc : Int) + off = (tgt : Int)) (kt : x = 0 → Z X tgt L st f) (kf : ¬ (x = 0) → Z X (pc + 3) L st f) : Z X pc L (zi x :: st) f := by
  obtain ⟨p, l, e, R, s, m, args, below, meth, c, nL, D, cA, ad, lo, cells, slots, Tg⟩ := X
  obtain ⟨hx, hb, hml, hown, hts, hK, hG, hR, hcs⟩ := C
  intro H locs ls hP hS hl
  exact lv_if_eq hx hb hd ht (fun h => kt h H locs ls hP hS hl) (fun h => kf h H locs ls hP hS hl)
theorem z_icmp_eq {x y : Int32} {off : Int} (tgt : Nat) (C : zC X cc own d) (hd : decode cc pc = .ok (.if_icmp .eq off, 3)) (ht : (pc : Int) + off = (tgt : Int)) (kt : x = y → Z X tgt L st f) (kf : ¬ (x = y) → Z X (pc + 3) L st f) : Z X pc L (zi y :: zi x :: st) f := by
  obtain ⟨p, l, e, R, s, m, args, below, meth, c, nL, D, cA, ad, lo, cells, slots, Tg⟩ := X
  obtain ⟨hx, hb, hml, hown, hts, hK, hG, hR, hcs⟩ := C
  intro H locs ls hP hS hl
  exact lv_icmp_eq hx hb hd ht (fun h => kt h H locs ls hP hS hl) (fun h => kf h H locs ls hP hS hl)
theorem z_if_ne {x : Int32} {off : Int} (tgt : Nat) (C : zC X cc own d) (hd : decode cc pc = .ok (.ifCond .ne off, 3)) (ht : (pc : Int) + off = (tgt : Int)) (kt : ¬ x = 0 → Z X tgt L st f) (kf : x = 0 → Z X (pc + 3) L st f) : Z X pc L (zi x :: st) f := by
  obtain ⟨p, l, e, R, s, m, args, below, meth, c, nL, D, cA, ad, lo, cells, slots, Tg⟩ := X
  obtain ⟨hx, hb, hml, hown, hts, hK, hG, hR, hcs⟩ := C
  intro H locs ls hP hS hl
  exact lv_if_ne hx hb hd ht (fun h => kt h H locs ls hP hS hl) (fun h => kf h H locs ls hP hS hl)
theorem z_icmp_ne {x y : Int32} {off : Int} (tgt : Nat) (C : zC X cc own d) (hd : decode cc pc = .ok (.if_icmp .ne off, 3)) (ht : (pc : Int) + off = (tgt : Int)) (kt : ¬ x = y → Z X tgt L st f) (kf : x = y → Z X (pc + 3) L st f) : Z X pc L (zi y :: zi x :: st) f := by
  obtain ⟨p, l, e, R, s, m, args, below, meth, c, nL, D, cA, ad, lo, cells, slots, Tg⟩ := X
  obtain ⟨hx, hb, hml, hown, hts, hK, hG, hR, hcs⟩ := C
  intro H locs ls hP hS hl
  exact lv_icmp_ne hx hb hd ht (fun h => kt h H locs ls hP hS hl) (fun h => kf h H locs ls hP hS hl)
theorem z_if_lt {x : Int32} {off : Int} (tgt : Nat) (C : zC X cc own d) (hd : decode cc pc = .ok (.ifCond .lt off, 3)) (ht : (pc : Int) + off = (tgt : Int)) (kt : x < 0 → Z X tgt L st f) (kf : ¬ (x < 0) → Z X (pc + 3) L st f) : Z X pc L (zi x :: st) f := by
  obtain ⟨p, l, e, R, s, m, args, below, meth, c, nL, D, cA, ad, lo, cells, slots, Tg⟩ := X
  obtain ⟨hx, hb, hml, hown, hts, hK, hG, hR, hcs⟩ := C
  intro H locs ls hP hS hl
  exact lv_if_lt hx hb hd ht (fun h => kt h H locs ls hP hS hl) (fun h => kf h H locs ls hP hS hl)
theorem z_icmp_lt {x y : Int32} {off : Int} (tgt : Nat) (C : zC X cc own d) (hd : decode cc pc = .ok (.if_icmp .lt off, 3)) (ht : (pc : Int) + off = (tgt : Int)) (kt : x < y → Z X tgt L st f) (kf : ¬ (x < y) → Z X (pc + 3) L st f) : Z X pc L (zi y :: zi x :: st) f := by
  obtain ⟨p, l, e, R, s, m, args, below, meth, c, nL, D, cA, ad, lo, cells, slots, Tg⟩ := X
  obtain ⟨hx, hb, hml, hown, hts, hK, hG, hR, hcs⟩ := C
  intro H locs ls hP hS hl
  exact lv_icmp_lt hx hb hd ht (fun h => kt h H locs ls hP hS hl) (fun h => kf h H locs ls hP hS hl)
theorem z_if_ge {x : Int32} {off : Int} (tgt : Nat) (C : zC X cc own d) (hd : decode cc pc = .ok (.ifCond .ge off, 3)) (ht : (pc : Int) + off = (tgt : Int)) (kt : 0 ≤ x → Z X tgt L st f) (kf : ¬ (0 ≤ x) → Z X (pc + 3) L st f) : Z X pc L (zi x :: st) f := by
  obtain ⟨p, l, e, R, s, m, args, below, meth, c, nL, D, cA, ad, lo, cells, slots, Tg⟩ := X
  obtain ⟨hx, hb, hml, hown, hts, hK, hG, hR, hcs⟩ := C
  intro H locs ls hP hS hl
  exact lv_if_ge hx hb hd ht (fun h => kt h H locs ls hP hS hl) (fun h => kf h H locs ls hP hS hl)
theorem z_icmp_ge {x y : Int32} {off : Int} (tgt : Nat) (C : zC X cc own d) (hd : decode cc pc = .ok (.if_icmp .ge off, 3)) (ht : (pc : Int) + off = (tgt : Int)) (kt : y ≤ x → Z X tgt L st f) (kf : ¬ (y ≤ x) → Z X (pc + 3) L st f) : Z X pc L (zi y :: zi x :: st) f := by
  obtain ⟨p, l, e, R, s, m, args, below, meth, c, nL, D, cA, ad, lo, cells, slots, Tg⟩ := X
  obtain ⟨hx, hb, hml, hown, hts, hK, hG, hR, hcs⟩ := C
  intro H locs ls hP hS hl
  exact lv_icmp_ge hx hb hd ht (fun h => kt h H locs ls hP hS hl) (fun h => kf h H locs ls hP hS hl)
theorem z_if_gt {x : Int32} {off : Int} (tgt : Nat) (C : zC X cc own d) (hd : decode cc pc = .ok (.ifCond .gt off, 3)) (ht : (pc : Int) + off = (tgt : Int)) (kt : 0 < x → Z X tgt L st f) (kf : ¬ (0 < x) → Z X (pc + 3) L st f) : Z X pc L (zi x :: st) f := by
  obtain ⟨p, l, e, R, s, m, args, below, meth, c, nL, D, cA, ad, lo, cells, slots, Tg⟩ := X
  obtain ⟨hx, hb, hml, hown, hts, hK, hG, hR, hcs⟩ := C
  intro H locs ls hP hS hl
  exact lv_if_gt hx hb hd ht (fun h => kt h H locs ls hP hS hl) (fun h => kf h H locs ls hP hS hl)
theorem z_icmp_gt {x y : Int32} {off : Int} (tgt : Nat) (C : zC X cc own d) (hd : decode cc pc = .ok (.if_icmp .gt off, 3)) (ht : (pc : Int) + off = (tgt : Int)) (kt : y < x → Z X tgt L st f) (kf : ¬ (y < x) → Z X (pc + 3) L st f) : Z X pc L (zi y :: zi x :: st) f := by
  obtain ⟨p, l, e, R, s, m, args, below, meth, c, nL, D, cA, ad, lo, cells, slots, Tg⟩ := X
  obtain ⟨hx, hb, hml, hown, hts, hK, hG, hR, hcs⟩ := C
  intro H locs ls hP hS hl
  exact lv_icmp_gt hx hb hd ht (fun h => kt h H locs ls hP hS hl) (fun h => kf h H locs ls hP hS hl)
theorem z_if_le {x : Int32} {off : Int} (tgt : Nat) (C : zC X cc own d) (hd : decode cc pc = .ok (.ifCond .le off, 3)) (ht : (pc : Int) + off = (tgt : Int)) (kt : x ≤ 0 → Z X tgt L st f) (kf : ¬ (x ≤ 0) → Z X (pc + 3) L st f) : Z X pc L (zi x :: st) f := by
  obtain ⟨p, l, e, R, s, m, args, below, meth, c, nL, D, cA, ad, lo, cells, slots, Tg⟩ := X
  obtain ⟨hx, hb, hml, hown, hts, hK, hG, hR, hcs⟩ := C
  intro H locs ls hP hS hl
  exact lv_if_le hx hb hd ht (fun h => kt h H locs ls hP hS hl) (fun h => kf h H locs ls hP hS hl)
theorem z_icmp_le {x y : Int32} {off : Int} (tgt : Nat) (C : zC X cc own d) (hd : decode cc pc = .ok (.if_icmp .le off, 3)) (ht : (pc : Int) + off = (tgt : Int)) (kt : x ≤ y → Z X tgt L st f) (kf : ¬ (x ≤ y) → Z X (pc + 3) L st f) : Z X pc L (zi y :: zi x :: st) f := by
  obtain ⟨p, l, e, R, s, m, args, below, meth, c, nL, D, cA, ad, lo, cells, slots, Tg⟩ := X
  obtain ⟨hx, hb, hml, hown, hts, hK, hG, hR, hcs⟩ := C
  intro H locs ls hP hS hl
  exact lv_icmp_le hx hb hd ht (fun h => kt h H locs ls hP hS hl) (fun h => kf h H locs ls hP hS hl)
theorem z_tabOut {dflt lo0 hi : Int} {offs : Array Int} {len : Nat} {x : Int32} (tgt : Nat) (C : zC X cc own d) (hd : decode cc pc = .ok (.tableswitch dflt lo0 hi offs, len)) (h : x.toInt < lo0 ∨ hi < x.toInt) (ht : (pc : Int) + dflt = (tgt : Int)) (kk : Z X tgt L st f) : Z X pc L (zi x :: st) f := by
  obtain ⟨p, l, e, R, s, m, args, below, meth, c, nL, D, cA, ad, lo, cells, slots, Tg⟩ := X
  obtain ⟨hx, hb, hml, hown, hts, hK, hG, hR, hcs⟩ := C
  intro H locs ls hP hS hl
  exact lv_tableOut hx hb hd h ht (kk H locs ls hP hS hl)
theorem z_tabIn {dflt lo0 hi : Int} {offs : Array Int} {len : Nat} {x : Int32} {off : Int} (tgt : Nat) (C : zC X cc own d) (hd : decode cc pc = .ok (.tableswitch dflt lo0 hi offs, len)) (h1 : ¬ x.toInt < lo0) (h2 : ¬ hi < x.toInt) (ho : offs[(x.toInt - lo0).toNat]? = some off) (ht : (pc : Int) + off = (tgt : Int)) (kk : Z X tgt L st f) : Z X pc L (zi x :: st) f := by
  obtain ⟨p, l, e, R, s, m, args, below, meth, c, nL, D, cA, ad, lo, cells, slots, Tg⟩ := X
  obtain ⟨hx, hb, hml, hown, hts, hK, hG, hR, hcs⟩ := C
  intro H locs ls hP hS hl
  exact lv_tableIn hx hb hd h1 h2 ho ht (kk H locs ls hP hS hl)
theorem z_lookup {dflt : Int} {ps : Array (Int × Int)} {len : Nat} {x : Int32} {off : Int} (tgt : Nat) (C : zC X cc own d) (hd : decode cc pc = .ok (.lookupswitch dflt ps, len)) (hp : (ps.toList.zip (ps.toList.drop 1)).all (fun (a, next) => a.1 < next.1) = true) (ho : Op.lookupswitch.offset ps.toList dflt x.toInt = off) (ht : (pc : Int) + off = (tgt : Int)) (kk : Z X tgt L st f) : Z X pc L (zi x :: st) f := by
  obtain ⟨p, l, e, R, s, m, args, below, meth, c, nL, D, cA, ad, lo, cells, slots, Tg⟩ := X
  obtain ⟨hx, hb, hml, hown, hts, hK, hG, hR, hcs⟩ := C
  intro H locs ls hP hS hl
  exact lv_lookup hx hb hd hp ho ht (kk H locs ls hP hS hl)
theorem z_getI {k n idx ci j : Nat} {fds : List zFd} (C : zC X cc own d) (hF : zFl own idx ci j) (hs : zshp k = .inl (ci, fds)) (hj : fds[j]? = some none) (hn : n < zcnt k) (hd : decode cc pc = .ok (.getfield idx, 3)) (kk : Z X (pc + 3) L (zi (f k n j) :: st) f) : Z X pc L (zr k n :: st) f := by
  obtain ⟨p, l, e, R, s, m, args, below, meth, c, nL, D, cA, ad, lo, cells, slots, Tg⟩ := X
  obtain ⟨hx, hb, hml, hown, hts, hK, hG, hR, hcs⟩ := C
  intro H locs ls hP hS hl
  obtain ⟨Cn, Tn, N, h1, h2, h3, h4⟩ := hF
  have hv := hP k n hn
  rw [zent_obj hs] at hv
  have hg := zfl_get ad f k n fds 0 j none hj
  rw [Nat.zero_add] at hg
  exact va_get hx hb hts h3 hown hK.1 (zP1 hv) 0 rfl h1 j h2 (hts _ h4) (fun _ h => h) hg hd (kk H locs ls hP hS hl)
theorem z_getR {k n idx ci j k2 : Nat} {ph : Nat → Nat} {fds : List zFd} (C : zC X cc own d) (hF : zFl own idx ci j) (hs : zshp k = .inl (ci, fds)) (hj : fds[j]? = some (some (k2, ph))) (hn : n < zcnt k) (hd : decode cc pc = .ok (.getfield idx, 3)) (kk : Z X (pc + 3) L (zr k2 (ph n) :: st) f) : Z X pc L (zr k n :: st) f := by
  obtain ⟨p, l, e, R, s, m, args, below, meth, c, nL, D, cA, ad, lo, cells, slots, Tg⟩ := X
  obtain ⟨hx, hb, hml, hown, hts, hK, hG, hR, hcs⟩ := C
  intro H locs ls hP hS hl
  obtain ⟨Cn, Tn, N, h1, h2, h3, h4⟩ := hF
  have hv := hP k n hn
  rw [zent_obj hs] at hv
  have hg := zfl_get ad f k n fds 0 j _ hj
  exact va_get hx hb hts h3 hown hK.1 (zP1 hv) 0 rfl h1 j h2 (hts _ h4) (fun _ h => h) hg hd (kk H locs ls hP hS hl)
theorem z_putV {k n idx ci j : Nat} {x : Int32} {ty : FieldType} {fds : List zFd} (C : zC X cc own d) (hF : zFl own idx ci j) (hFw : zFw ci j ty) (hnr : narrow ty (.int x) = .int x) (hft : fits ty (.int x) = true) (hs : zshp k = .inl (ci, fds)) (hj : fds[j]? = some none) (hn : n < zcnt k) (hd : decode cc pc = .ok (.putfield idx, 3)) (kk : Z X (pc + 3) L st (zup f k n j x)) : Z X pc L (zi x :: zr k n :: st) f := by
  obtain ⟨p, l, e, R, s, m, args, below, meth, c, nL, D, cA, ad, lo, cells, slots, Tg⟩ := X
  obtain ⟨hx, hb, hml, hown, hts, hK, hG, hR, hcs⟩ := C
  intro H locs ls hP hS hl
  obtain ⟨Cn, Tn, N, h1, hk, hin, hlk⟩ := hF
  obtain ⟨Cm, Tm, M, ty0, g1, hty, hnm, hfin, hde⟩ := hFw
  cases h1.symm.trans g1
  have hv := hP k n hn
  rw [zent_obj hs] at hv
  have hap := va_apart (own := own) hts hin ty0 hty hnm hK.1 h1
  obtain ⟨r, h1', cell, q1, q2, q3, q4⟩ := hv
  have hr : r = (Cn, Tn, N) := Option.some.inj (h1'.symm.trans h1)
  subst hr
  obtain ⟨hS9, hfc, kC, hkC, hkind⟩ := hK.1.1 ci _ h1
  obtain ⟨cf, kf, fi, fd, hi, hsl⟩ := hS9 j hk
  have hlay := hts _ (hin _ (u_in_lay hk))
  unfold u_lay at hlay
  rw [if_neg (by rw [hfin]; decide)] at hlay
  have hst := (u_facts hfc hkC (u_lays hts hin hk) hi).1
  have h6 := u_store hfc hkC hkind hlay hi hde hnr hft
  have hlen : j < (zfl ad f k n 0 fds).length := by rw [zfl_len]; exact (List.getElem?_eq_some_iff.mp hj).1
  have hfs := zfl_set ad f k n x fds 0 j hj
  rw [Nat.zero_add] at hfs
  refine W.putK hx hb (f := fd) ⟨hown, hts _ hlk, ⟨_, _, _, hi⟩, hst⟩ (by rw [q2]; exact h6) q1 q3 (by rw [hsl]; exact k2_hasslot (q4 j hk)) rfl rfl hd fun H' e1 e2 e3 => ?_
  rw [hsl] at e1 ⊢
  refine kk H' _ ls (hP.put hG hn e3 ?_) (hS.put e2 e3 (hG.1 k n hn)) hl
  rw [zent_obj hs, ← hfs]
  exact ⟨_, h1, t_OB.to (V := updV (vp_V (zfl ad f k n 0 fds)) j (.int x)) ⟨_, e1, q2, q3, t_set q4 hap hk (.int x)⟩ (fun i _ => vp_updV_set hlen (.int x) i)⟩
theorem z_putI {k n idx ci j : Nat} {x : Int32} {fds : List zFd} (C : zC X cc own d) (hF : zFl own idx ci j) (hFw : zFw ci j .int) (hs : zshp k = .inl (ci, fds)) (hj : fds[j]? = some none) (hn : n < zcnt k) (hd : decode cc pc = .ok (.putfield idx, 3)) (kk : Z X (pc + 3) L st (zup f k n j x)) : Z X pc L (zi x :: zr k n :: st) f := z_putV C hF hFw rfl rfl hs hj hn hd kk
theorem z_bool {x : Int32} (h : x = 0 ∨ x = 1) : narrow .boolean (.int x) = .int x ∧ fits .boolean (.int x) = true := by
  rcases h with rfl | rfl <;> exact ⟨by decide +kernel, by decide +kernel⟩
theorem z_putZ {k n idx ci j : Nat} {x : Int32} {fds : List zFd} (C : zC X cc own d) (hF : zFl own idx ci j) (hFw : zFw ci j .boolean) (hx01 : x = 0 ∨ x = 1) (hs : zshp k = .inl (ci, fds)) (hj : fds[j]? = some none) (hn : n < zcnt k) (hd : decode cc pc = .ok (.putfield idx, 3)) (kk : Z X (pc + 3) L st (zup f k n j x)) : Z X pc L (zi x :: zr k n :: st) f := z_putV C hF hFw (z_bool hx01).1 (z_bool hx01).2 hs hj hn hd kk
theorem z_iald {k n len : Nat} {i : Int32} (C : zC X cc own d) (hs : zshp k = .inr (0, len, none)) (hn : n < zcnt k) (hi : vp_in i len) (hd : decode cc pc = .ok (.iaload, 1)) (kk : Z X (pc + 1) L (zi (f k n i.toNatClampNeg) :: st) f) : Z X pc L (zi i :: zr k n :: st) f := by
  obtain ⟨p, l, e, R, s, m, args, below, meth, c, nL, D, cA, ad, lo, cells, slots, Tg⟩ := X
  obtain ⟨hx, hb, hml, hown, hts, hK, hG, hR, hcs⟩ := C
  intro H locs ls hP hS hl
  have hv := hP k n hn
  rw [zent_arr hs] at hv
  exact va_iald hx hb hK.1 (zP1 hv) 0 0 rfl (ztys_at cA (by decide)) hi hd (kk H locs ls hP hS hl)
theorem z_cald {k n len : Nat} {i : Int32} (C : zC X cc own d) (hs : zshp k = .inr (1, len, none)) (hn : n < zcnt k) (hi : vp_in i len) (hd : decode cc pc = .ok (.caload, 1)) (kk : Z X (pc + 1) L (zi (f k n i.toNatClampNeg) :: st) f) : Z X pc L (zi i :: zr k n :: st) f := by
  obtain ⟨p, l, e, R, s, m, args, below, meth, c, nL, D, cA, ad, lo, cells, slots, Tg⟩ := X
  obtain ⟨hx, hb, hml, hown, hts, hK, hG, hR, hcs⟩ := C
  intro H locs ls hP hS hl
  have hv := hP k n hn
  rw [zent_arr hs] at hv
  exact va_cald hx hb hK.1 (zP1 hv) 0 1 rfl (ztys_at cA (by decide)) hi hd (kk H locs ls hP hS hl)
theorem z_aald {k n t len k2 : Nat} {ps : Nat → Nat → Nat} {i : Int32} (C : zC X cc own d) (hs : zshp k = .inr (t, len, some (k2, ps))) (ht : zty t = .object (zOb t) ∧ t < 7) (hn : n < zcnt k) (hi : vp_in i len) (hd : decode cc pc = .ok (.aaload, 1)) (kk : Z X (pc + 1) L (zr k2 (ps n i.toNatClampNeg) :: st) f) : Z X pc L (zi i :: zr k n :: st) f := by
  obtain ⟨p, l, e, R, s, m, args, below, meth, c, nL, D, cA, ad, lo, cells, slots, Tg⟩ := X
  obtain ⟨hx, hb, hml, hown, hts, hK, hG, hR, hcs⟩ := C
  intro H locs ls hP hS hl
  have hv := hP k n hn
  rw [zent_rar hs] at hv
  have hat := ztys_at cA ht.2
  rw [ht.1] at hat
  exact va_aldq hx hb hK.1 (zP1 hv) 0 t rfl hat hi hd (kk H locs ls hP hS hl)
theorem z_alenI {k n len : Nat} {v : Int32} (C : zC X cc own d) (hs : zshp k = .inr (0, len, none)) (hn : n < zcnt k) (hv : Int32.ofNat len = v) (hd : decode cc pc = .ok (.arraylength, 1)) (kk : Z X (pc + 1) L (zi v :: st) f) : Z X pc L (zr k n :: st) f := by
  obtain ⟨p, l, e, R, s, m, args, below, meth, c, nL, D, cA, ad, lo, cells, slots, Tg⟩ := X
  obtain ⟨hx, hb, hml, hown, hts, hK, hG, hR, hcs⟩ := C
  intro H locs ls hP hS hl
  have hv2 := hP k n hn
  rw [zent_arr hs] at hv2
  exact va_alen hx hb hK.1 (zP1 hv2) 0 0 rfl (ztys_at cA (by decide)) hv hd (kk H locs ls hP hS hl)
theorem z_iast {k n len : Nat} {i x : Int32} (C : zC X cc own d) (hs : zshp k = .inr (0, len, none)) (hn : n < zcnt k) (hi : vp_in i len) (hd : decode cc pc = .ok (.iastore, 1)) (kk : Z X (pc + 1) L st (zup f k n i.toNatClampNeg x)) : Z X pc L (zi x :: zi i :: zr k n :: st) f := by
  obtain ⟨p, l, e, R, s, m, args, below, meth, c, nL, D, cA, ad, lo, cells, slots, Tg⟩ := X
  obtain ⟨hx, hb, hml, hown, hts, hK, hG, hR, hcs⟩ := C
  intro H locs ls hP hS hl
  have hv := hP k n hn
  rw [zent_arr hs] at hv
  refine W.iast hx hb hv ((hK.1.2 0 _ (ztys_at cA (by decide))).1 len (fun j => .int (f k n j))) (fun q => by cases q) (by show ¬ (i < 0 ∨ (arrV _ _ _).slots.size ≤ _); rw [arrV_size]; exact hi) rfl rfl hd fun H1 e z oq => ?_
  refine kk H1 _ ls (hP.put hG hn oq ?_) (hS.put z oq (hG.1 k n hn)) hl
  rw [zent_arr hs]
  show H1[ad k n]? = some (vp_cell _ _)
  rw [e, vp_cell_i, vp_cell_i, arrV_store]
  congr 2
  funext q
  by_cases hq : q = i.toNatClampNeg
  · subst hq
    simp [updV, zup]
  · simp [updV, zup, hq]
theorem z_cast {k n len : Nat} {i x : Int32} (C : zC X cc own d) (hs : zshp k = .inr (1, len, none)) (hn : n < zcnt k) (hi : vp_in i len) (hd : decode cc pc = .ok (.castore, 1)) (kk : Z X (pc + 1) L st (zup f k n i.toNatClampNeg (vp_nar .char x))) : Z X pc L (zi x :: zi i :: zr k n :: st) f := by
  obtain ⟨p, l, e, R, s, m, args, below, meth, c, nL, D, cA, ad, lo, cells, slots, Tg⟩ := X
  obtain ⟨hx, hb, hml, hown, hts, hK, hG, hR, hcs⟩ := C
  intro H locs ls hP hS hl
  have hv := hP k n hn
  rw [zent_arr hs] at hv
  refine W.cast hx hb hv ((hK.1.2 1 _ (ztys_at cA (by decide))).1 len (fun j => .int (f k n j))) (fun q => by cases q) (by show ¬ (i < 0 ∨ (arrV _ _ _).slots.size ≤ _); rw [arrV_size]; exact hi) rfl rfl hd fun H1 e z oq => ?_
  refine kk H1 _ ls (hP.put hG hn oq ?_) (hS.put z oq (hG.1 k n hn)) hl
  rw [zent_arr hs]
  show H1[ad k n]? = some (vp_cell _ _)
  rw [e, vp_cell_i, vp_cell_i, arrV_store]
  congr 2
  funext q
  by_cases hq : q = i.toNatClampNeg
  · subst hq
    simp [updV, zup, vp_nar]
    try rfl
  · simp [updV, zup, hq]
end ZR
/-! ===== contracts ===== -/
def zroom (d : Nat) : Room := { frames := d, cells := 0, slots := 0, locals := 40 * d }
def zPre (D : va_G) (cA : Nat → ClassId) (ad : Nat → Nat → Nat) (f : zM) (as : List zV) : Array Value → State → Prop := va_Pc (as.map (zcv ad)) (fun U => zK D cA U ∧ zAt D cA ad f U.heap)
def zPost (D : va_G) (cA : Nat → ClassId) (ad : Nat → Nat → Nat) (lo : Nat) (Q : Option zV → zM → Prop) : Array Value → State → Outcome → State → Prop := fun _ st o t => ∃ (r : Option zV) (f' : zM), o = .returned (r.map (zcv ad)) ∧ Q r f' ∧ zAt D cA ad f' t.heap ∧ va_F (fun q => lo ≤ q) st t
/-- the contract of method y: called with these arguments on this memory, it returns, and Q holds of its answer and of the memory behind it -/
def ZM (d : Nat) (y : MethodName) (cc : ByteArray) (nL : Nat) (rt : Option FieldType) (as : List zV) (f : zM) (Q : Option zV → zM → Prop) : Prop := ∀ (l : Launch) (D : va_G) (cA : Nat → ClassId) (ad : Nat → Nat → Nat) (lo : Nat), zG ad lo →
  Met l y (.code y cc nL rt :: zT) (zroom d) (zPre D cA ad f as) (zPost D cA ad lo Q) 0 0 (fun q => lo ≤ q)
def zRet : zX → Option FieldType → (Option zV → zM → Prop) → Prop
  | (p, l, e, R, s, m, args, below, meth, c, nL, D, cA, ad, lo, cells, slots, Tg), rt, Q => meth.sig.returnType = rt ∧ meth.locks = false ∧ Tg = MQ below (zPost D cA ad lo Q) args s cells slots (fun q => lo ≤ q)
def zL0 (as : List zV) (nL : Nat) : List (Option zV) := zarg as ++ List.replicate (nL - (zarg as).length) none
theorem zarg_len (ad : Nat → Nat → Nat) : ∀ as : List zV, (lg_sl (as.map (zcv ad))).length = (zarg as).length
  | [] => rfl
  | .inl x :: r => by simpa [lg_sl, zcv, zarg, Value.category] using zarg_len ad r
  | .inr (.inl x) :: r => by simpa [lg_sl, zcv, zarg, Value.category] using zarg_len ad r
  | .inr (.inr x) :: r => by simpa [lg_sl, zcv, zarg, Value.category] using zarg_len ad r
theorem ZM.intro {d : Nat} {y : MethodName} {cc : ByteArray} {nL : Nat} {rt : Option FieldType} {as : List zV} {f : zM} {Q : Option zV → zM → Prop} (hy : plainName y.cls = true) (hlen : (zarg as).length ≤ nL)
    (h : ∀ X : zX, zC X cc y.cls d → zRet X rt Q → znL X = nL → Z X 0 (zL0 as nL) [] f) : ZM d y cc nL rt as f Q := by
  intro l D cA ad lo hG
  refine Met.ofW (cc := cc) (maxL := nL) (ret := rt) hy rfl ?_
  intro p e s m args below meth c s₁ B hml hv
  obtain ⟨rfl, hK, hP⟩ := hv
  have hts0 := atoms_spec (ws := .code y cc nL rt :: zT) B.pre
  have hts : ∀ w ∈ zT, w.before (as.map (zcv ad)).toArray s = true := fun w hw => hts0 w (List.mem_cons_of_mem _ hw)
  have hZ := h (p, l, e, (headSpec (.code y cc nL rt :: zT) (zroom d)).room, s, m, (as.map (zcv ad)).toArray, below, meth, c, nL, D, cA, ad, lo, 0, 0, MQ below (zPost D cA ad lo Q) (as.map (zcv ad)).toArray s 0 0 (fun q => lo ≤ q))
    ⟨B.exec, B.bytes, hml, findClass_of_methodNamed B.named, hts, hK, hG, ⟨Nat.le_refl _, Nat.le_refl _⟩, Nat.zero_le _, Nat.zero_le _⟩ ⟨B.returns, B.notSynchronized, rfl⟩ rfl
  have hl := lv_entry (as.map (zcv ad)) (n := nL) (by rw [zarg_len ad as]; exact hlen)
  rw [lg_entry_eq]
  generalize (lg_sl (as.map (zcv ad)) ++ List.replicate (nL - (lg_sl (as.map (zcv ad))).length) Slot.unset).toArray = ls at hl ⊢
  refine hZ s.heap [] ls hP va_S.rf ?_
  rw [zL0, zlv_arg]
  exact hl
section ZR2
variable {X : zX} {cc : ByteArray} {own : String} {d : Nat} {pc : Nat} {L : List (Option zV)} {st : List zV} {f : zM} {Q : Option zV → zM → Prop}

theorem z_iret {v : Int32} (C : zC X cc own d) (hr : zRet X (some .int) Q) (hd : decode cc pc = .ok (.ireturn, 1)) (hq : Q (some (zi v)) f) : Z X pc L [zi v] f := by
  obtain ⟨p, l, e, R, s, m, args, below, meth, c, nL, D, cA, ad, lo, cells, slots, Tg⟩ := X
  obtain ⟨hx, hb, hml, hown, hts, hK, hG, hR, hcs⟩ := C
  intro H locs ls hP hS hl
  obtain ⟨r1, r2, rfl⟩ := hr
  exact W.iret (v := v) hx hb r1 (fun t ht hW => ⟨(some (zi v)), f, rfl, hq, by rw [ht]; exact hP, hS.F ht⟩) hS.2.2 hd r2
theorem z_vret (C : zC X cc own d) (hr : zRet X (none) Q) (hd : decode cc pc = .ok (.return_, 1)) (hq : Q none f) : Z X pc L [] f := by
  obtain ⟨p, l, e, R, s, m, args, below, meth, c, nL, D, cA, ad, lo, cells, slots, Tg⟩ := X
  obtain ⟨hx, hb, hml, hown, hts, hK, hG, hR, hcs⟩ := C
  intro H locs ls hP hS hl
  obtain ⟨r1, r2, rfl⟩ := hr
  exact W.vret hx hb r1 (fun t ht hW => ⟨none, f, rfl, hq, by rw [ht]; exact hP, hS.F ht⟩) hS.2.2 hd r2
theorem z_zret {v : Int32} (C : zC X cc own d) (hr : zRet X (some .boolean) Q) (hv : v = 0 ∨ v = 1) (hd : decode cc pc = .ok (.ireturn, 1)) (hq : Q (some (zi v)) f) : Z X pc L [zi v] f := by
  obtain ⟨p, l, e, R, s, m, args, below, meth, c, nL, D, cA, ad, lo, cells, slots, Tg⟩ := X
  obtain ⟨hx, hb, hml, hown, hts, hK, hG, hR, hcs⟩ := C
  intro H locs ls hP hS hl
  obtain ⟨r1, r2, rfl⟩ := hr
  exact W.zret (v := v) hx hb r1 (z_bool hv).1 (fun t ht hW => ⟨(some (zi v)), f, rfl, hq, by rw [ht]; exact hP, hS.F ht⟩) hS.2.2 hd r2
end ZR2
theorem zBlind {D : va_G} {cA : Nat → ClassId} {ad : Nat → Nat → Nat} {f : zM} {as : List zV} : FrameBlind (zPre D cA ad f as) := by
  intro a U g mk h
  obtain ⟨h1, h2, h3⟩ := h
  exact ⟨h1, ⟨va_K.moved (u := U) (U := U.calling g mk a) (Vm.Alike.refl U.vm) h2.1, va_Nw.same rfl (rfl : U.vm = (U.calling g mk a).vm) h2.2⟩, h3⟩
/-- a call of an instance method: what the tables say -/
def zCv (own : String) (idx : Nat) (y : MethodName) (cy : ByteArray) (nLy : Nat) (rty : Option FieldType) (n : Nat) : Prop := Cond.methodLink own idx y ∈ zT ∧ Cond.instanceMethod y ∈ zT ∧ Cond.selects y.cls y y ∈ zT ∧ Cond.initialized y.cls ∈ zT ∧ Cond.code y cy nLy rty ∈ zT ∧ (y.cls ≠ "java/lang/invoke/MethodHandle" ∧ y.cls ≠ "java/lang/invoke/VarHandle" ∧ (parseMethodDescriptor y.desc).map (fun q => q.parameters.length) = some n) ∧ nLy ≤ 21
def zCs (own : String) (idx : Nat) (y : MethodName) (cy : ByteArray) (nLy : Nat) (rty : Option FieldType) (n : Nat) : Prop := Cond.methodLink own idx y ∈ zT ∧ Cond.static y ∈ zT ∧ Cond.initialized y.cls ∈ zT ∧ Cond.code y cy nLy rty ∈ zT ∧ (y.cls ≠ "java/lang/invoke/MethodHandle" ∧ y.cls ≠ "java/lang/invoke/VarHandle" ∧ (parseMethodDescriptor y.desc).map (fun q => q.parameters.length) = some n) ∧ nLy ≤ 21
section ZR3
variable {p : Program} {l : Launch} {e : Env} {R : Room} {s : State} {m : MethodId} {args : Array Value} {below : List Frame} {meth : Method} {c : Code} {H : Heap} {locs : List Loc} {cells slots : Nat} {Qs : State → Prop}
variable {D : va_G} {cA : Nat → ClassId} {ad : Nat → Nat → Nat} {lo pc : Nat} {ls : Array Slot} {rest st0 : List Value} {a : Array Value} {H0 : Heap} {Q : Option zV → zM → Prop}
theorem zrun (hr : va_Run p l e R s m args below meth c H locs cells slots 0 0 (F0 m pc ls st0) rest (zPost D cA ad lo Q a) (fun q => lo ≤ q)) (hS : va_S (fun q => lo ≤ q) H0 H locs)
    (kk : ∀ (r : Option zV) (f' : zM) (H1 : Heap) (locs1 : List Loc), Q r f' → zAt D cA ad f' H1 → va_S (fun q => lo ≤ q) H0 H1 locs1 → W p l e R s m args below meth c H1 locs1 cells slots Qs (F0 m (pc + 3) ls ((r.map (zcv ad)).toList ++ rest))) : W p l e R s m args below meth c H locs cells slots Qs (F0 m pc ls st0) := by
  intro T hT X
  obtain ⟨v, st₀, t, T', L, h0, X', hL, e1, e2, ⟨r, f', hv, hq, hat, hz, hk⟩, st⟩ := hr T hT X
  cases hv
  rw [h0] at hz hk
  obtain ⟨t2, a1, b1⟩ := kk r f' T'.heap (locs ++ L) hq (by rw [e1]; exact hat)
    ⟨Nat.le_trans hS.1 (by rw [e1]; exact hz), fun q h1 h2 => by rw [e1, hk q (Nat.lt_of_lt_of_le h1 hS.1) h2]; exact hS.2.1 q h1 h2, fun q hq => by
      rcases List.mem_append.mp hq with h | h
      · exact hS.2.2 q h
      · exact hL q h⟩ T' rfl X'
  exact ⟨t2, st t2 a1, b1⟩
end ZR3
section ZR4
variable {X : zX} {cc : ByteArray} {own : String} {d : Nat} {pc : Nat} {L : List (Option zV)} {st stk : List zV} {f : zM} {Q : Option zV → zM → Prop} {y : MethodName} {cy : ByteArray} {nLy idx n : Nat} {rty : Option FieldType} {as : List zV}
theorem zroomR {R : Room} {nLy : Nat} (hR : d + 1 ≤ R.frames ∧ 40 * (d + 1) ≤ R.locals) (h : nLy ≤ 21) : (zroom d).frames + 1 ≤ R.frames ∧ 8 + (nLy + 11) + (zroom d).locals ≤ R.locals := ⟨hR.1, by show 8 + (nLy + 11) + 40 * d ≤ R.locals; omega⟩
theorem zopt (ad : Nat → Nat → Nat) (r : Option zV) (st : List zV) : (r.toList ++ st).map (zcv ad) = (r.map (zcv ad)).toList ++ st.map (zcv ad) := by cases r <;> simp
/-- a virtual call -/
theorem z_callV {k nn ci : Nat} {fds : List zFd} (C : zC X cc own (d + 1)) (hw : zCv own idx y cy nLy rty n) (hM : ZM d y cy nLy rty (zr k nn :: as) f Q) (hs : zshp k = .inl (ci, fds)) (hci : (vwCl[ci]?).map (fun q => q.1) = some y.cls) (hnn : nn < zcnt k) (hn : as.length = n) (hst : stk = as.reverse ++ zr k nn :: st) (hW : zsz st ≤ 8) (hd : decode cc pc = .ok (.invokevirtual idx, 3))
    (kk : ∀ (r : Option zV) (f' : zM), Q r f' → Z X (pc + 3) L (r.toList ++ st) f') : Z X pc L stk f := by
  obtain ⟨p, l, e, R, s, m, args, below, meth, c, nL, D, cA, ad, lo, cells, slots, Tg⟩ := X
  obtain ⟨hx, hb, hml, hown, hts, hK, hG, hR, hcs⟩ := C
  intro H locs ls hP hS hl
  obtain ⟨w1, w2, w3, w4, w5, w6, w7⟩ := hw
  have hv := hP k nn hnn
  rw [zent_obj hs] at hv
  obtain ⟨q, hq1, hq2⟩ := Option.map_eq_some_iff.mp hci
  have hrec := va_recv hK.1 (zP1 hv) hq1 (q0 := 0) rfl
  rw [hq2] at hrec
  have hB : CallB R s args own idx y cy nLy rty (.code y cy nLy rty :: zT) (zroom d) 0 0 n := callB_of n hts (zT_code w5) rfl rfl rfl (hts _ w4) (hts _ w1) w6 (zroomR hR w7)
  refine zrun (Q := Q) (va_runV (As := as.map (zcv ad)) (rest := st.map (zcv ad)) ⟨hx, hb, hml, hown, hts⟩ (hM l D cA ad lo hG) ⟨hB, hts _ w2, hts _ w3⟩ ⟨zBlind, hrec, fun U hU hWU => ⟨rfl, zK.moved hWU hK, by rw [hU]; exact hP⟩⟩ rfl (by rw [List.length_map]; exact hn) hl.1 (by rw [hst, List.map_append, List.map_reverse]; rfl) (lv_room (by rw [zsz_ok]; exact hW)) hd ⟨hcs.1, hcs.2⟩) hS (fun r f' H1 locs1 hq hat hS1 => ?_)
  have := kk r f' hq H1 locs1 ls hat hS1 hl
  rwa [zopt] at this
/-- a static call -/
theorem z_callS (C : zC X cc own (d + 1)) (hw : zCs own idx y cy nLy rty n) (hM : ZM d y cy nLy rty as f Q) (hn : as.length = n) (hst : stk = as.reverse ++ st) (hW : zsz st ≤ 8) (hd : decode cc pc = .ok (.invokestatic idx, 3))
    (kk : ∀ (r : Option zV) (f' : zM), Q r f' → Z X (pc + 3) L (r.toList ++ st) f') : Z X pc L stk f := by
  obtain ⟨p, l, e, R, s, m, args, below, meth, c, nL, D, cA, ad, lo, cells, slots, Tg⟩ := X
  obtain ⟨hx, hb, hml, hown, hts, hK, hG, hR, hcs⟩ := C
  intro H locs ls hP hS hl
  obtain ⟨w1, w2, w4, w5, w6, w7⟩ := hw
  have hB : CallB R s args own idx y cy nLy rty (.code y cy nLy rty :: zT) (zroom d) 0 0 n := callB_of n hts (zT_code w5) rfl rfl rfl (hts _ w4) (hts _ w1) w6 (zroomR hR w7)
  refine zrun (Q := Q) (va_runS (As := as.map (zcv ad)) (rest := st.map (zcv ad)) ⟨hx, hb, hml, hown, hts⟩ (hM l D cA ad lo hG) ⟨hB, hts _ w2⟩ ⟨zBlind, fun U hU hWU => ⟨rfl, zK.moved hWU hK, by rw [hU]; exact hP⟩⟩ rfl (by rw [List.length_map]; exact hn) hl.1 (by rw [hst, List.map_append, List.map_reverse]) (lv_room (by rw [zsz_ok]; exact hW)) hd ⟨hcs.1, hcs.2⟩) hS (fun r f' H1 locs1 hq hat hS1 => ?_)
  have := kk r f' hq H1 locs1 ls hat hS1 hl
  rwa [zopt] at this
/-- exact contracts -/
theorem z_callVx {k nn ci : Nat} {fds : List zFd} {r : Option zV} {f' : zM} (C : zC X cc own (d + 1)) (hw : zCv own idx y cy nLy rty n) (hM : ZM d y cy nLy rty (zr k nn :: as) f (fun r' g => r' = r ∧ g = f')) (hs : zshp k = .inl (ci, fds)) (hci : (vwCl[ci]?).map (fun q => q.1) = some y.cls) (hnn : nn < zcnt k) (hn : as.length = n) (hst : stk = as.reverse ++ zr k nn :: st) (hW : zsz st ≤ 8) (hd : decode cc pc = .ok (.invokevirtual idx, 3))
    (kk : Z X (pc + 3) L (r.toList ++ st) f') : Z X pc L stk f := z_callV C hw hM hs hci hnn hn hst hW hd (fun r2 f2 h => by obtain ⟨rfl, rfl⟩ := h; exact kk)
theorem z_callSx {r : Option zV} {f' : zM} (C : zC X cc own (d + 1)) (hw : zCs own idx y cy nLy rty n) (hM : ZM d y cy nLy rty as f (fun r' g => r' = r ∧ g = f')) (hn : as.length = n) (hst : stk = as.reverse ++ st) (hW : zsz st ≤ 8) (hd : decode cc pc = .ok (.invokestatic idx, 3))
    (kk : Z X (pc + 3) L (r.toList ++ st) f') : Z X pc L stk f := z_callS C hw hM hn hst hW hd (fun r2 f2 h => by obtain ⟨rfl, rfl⟩ := h; exact kk)
end ZR4
end
section
theorem zw_39 : Cond.initialized "SentRoadsLaw" ∈ zT := zmem 39 (by decide +kernel) rfl
theorem zw_40 : Cond.initialized "SentRoads" ∈ zT := zmem 40 (by decide +kernel) rfl
theorem zw_41 : Cond.initialized "SentRoads$World" ∈ zT := zmem 41 (by decide +kernel) rfl
theorem zw_42 : Cond.initialized "SentRoads$Man" ∈ zT := zmem 42 (by decide +kernel) rfl
theorem zw_43 : Cond.initialized "SentRoads$Crime" ∈ zT := zmem 43 (by decide +kernel) rfl
theorem zw_44 : Cond.initialized "SentRoads$Deed" ∈ zT := zmem 44 (by decide +kernel) rfl
theorem zw_45 : Cond.initialized "SentRoads$Paper" ∈ zT := zmem 45 (by decide +kernel) rfl
theorem zw_46 : Cond.initialized "SentRoads$Demand" ∈ zT := zmem 46 (by decide +kernel) rfl
theorem zw_47 : Cond.initialized "SentRoads$Roads" ∈ zT := zmem 47 (by decide +kernel) rfl
theorem zw_48 : Cond.initialized "SentRoads$Tape" ∈ zT := zmem 48 (by decide +kernel) rfl
theorem zw_49 : Cond.initialized "SentRoads$Sheet" ∈ zT := zmem 49 (by decide +kernel) rfl
theorem zw_50 : Cond.initialized "SentRoadsModel" ∈ zT := zmem 50 (by decide +kernel) rfl
theorem zw_51 : Cond.initialized "java/lang/Math" ∈ zT := zmem 51 (by decide +kernel) rfl
theorem zw_52 : Cond.initialized "java/util/Arrays" ∈ zT := zmem 52 (by decide +kernel) rfl
theorem zw_53 : Cond.initialized "java/lang/String" ∈ zT := zmem 53 (by decide +kernel) rfl
theorem zw_54 : Cond.initialized "java/lang/StringLatin1" ∈ zT := zmem 54 (by decide +kernel) rfl
theorem zw_55 : Cond.initialized "java/lang/StringUTF16" ∈ zT := zmem 55 (by decide +kernel) rfl
theorem zw_56 : Cond.initialized "jdk/internal/util/Preconditions" ∈ zT := zmem 56 (by decide +kernel) rfl
theorem zw_57 : Cond.initialized "java/lang/Character" ∈ zT := zmem 57 (by decide +kernel) rfl
theorem zw_58 : Cond.initialized "java/lang/Integer" ∈ zT := zmem 58 (by decide +kernel) rfl
theorem zw_61 : Cond.methodLink "SentRoadsLaw" 9 yX9_init ∈ zT := zmem 61 (by decide +kernel) rfl
theorem zw_62 : Cond.instanceMethod yX9_init ∈ zT := zmem 62 (by decide +kernel) rfl
theorem zw_63 : Cond.code yX9_init cX9_init 3 none ∈ zT := zmem 63 (by decide +kernel) rfl
theorem zw_69 : Cond.methodLink "SentRoads" 9 yX8_init ∈ zT := zmem 69 (by decide +kernel) rfl
theorem zw_70 : Cond.instanceMethod yX8_init ∈ zT := zmem 70 (by decide +kernel) rfl
theorem zw_71 : Cond.code yX8_init cX8_init 2 none ∈ zT := zmem 71 (by decide +kernel) rfl
theorem zw_84 : Cond.instanceMethod yX3_init ∈ zT := zmem 84 (by decide +kernel) rfl
theorem zw_85 : Cond.code yX3_init cX3_init 1 none ∈ zT := zmem 85 (by decide +kernel) rfl
theorem zw_87 : Cond.fieldLink "SentRoads$Man" 29 "SentRoads$Man" "of" "I" ∈ zT := zmem 87 (by decide +kernel) rfl
theorem zw_88 : Cond.fieldLink "SentRoads$World" 104 "SentRoads$Man" "of" "I" ∈ zT := zmem 88 (by decide +kernel) rfl
theorem zw_89 : Cond.fieldLink "SentRoads" 229 "SentRoads$Man" "of" "I" ∈ zT := zmem 89 (by decide +kernel) rfl
theorem zw_90 : Cond.fieldLink "SentRoads$Man" 18 "SentRoads$Man" "at" "I" ∈ zT := zmem 90 (by decide +kernel) rfl
theorem zw_91 : Cond.fieldLink "SentRoads$Roads" 46 "SentRoads$Man" "at" "I" ∈ zT := zmem 91 (by decide +kernel) rfl
theorem zw_92 : Cond.fieldLink "SentRoads$World" 150 "SentRoads$Man" "at" "I" ∈ zT := zmem 92 (by decide +kernel) rfl
theorem zw_93 : Cond.fieldLink "SentRoads" 232 "SentRoads$Man" "at" "I" ∈ zT := zmem 93 (by decide +kernel) rfl
theorem zw_94 : Cond.fieldLink "SentRoads$Man" 32 "SentRoads$Man" "year" "I" ∈ zT := zmem 94 (by decide +kernel) rfl
theorem zw_95 : Cond.fieldLink "SentRoads$World" 133 "SentRoads$Man" "year" "I" ∈ zT := zmem 95 (by decide +kernel) rfl
theorem zw_96 : Cond.fieldLink "SentRoads" 238 "SentRoads$Man" "year" "I" ∈ zT := zmem 96 (by decide +kernel) rfl
theorem zw_97 : Cond.fieldLink "SentRoads$Man" 35 "SentRoads$Man" "sent" "I" ∈ zT := zmem 97 (by decide +kernel) rfl
theorem zw_98 : Cond.fieldLink "SentRoads" 224 "SentRoads$Man" "sent" "I" ∈ zT := zmem 98 (by decide +kernel) rfl
theorem zw_99 : Cond.fieldLink "SentRoads$Man" 21 "SentRoads$Man" "noDeath" "Z" ∈ zT := zmem 99 (by decide +kernel) rfl
theorem zw_100 : Cond.fieldLink "SentRoads" 244 "SentRoads$Man" "noDeath" "Z" ∈ zT := zmem 100 (by decide +kernel) rfl
theorem zw_101 : Cond.fieldLink "SentRoads$Man" 9 "SentRoads$Man" "onlyTo" "I" ∈ zT := zmem 101 (by decide +kernel) rfl
theorem zw_102 : Cond.fieldLink "SentRoads" 247 "SentRoads$Man" "onlyTo" "I" ∈ zT := zmem 102 (by decide +kernel) rfl
theorem zw_103 : Cond.fieldLink "SentRoads$Man" 15 "SentRoads$Man" "deeds" "I" ∈ zT := zmem 103 (by decide +kernel) rfl
theorem zw_104 : Cond.fieldLink "SentRoads$World" 156 "SentRoads$Man" "deeds" "I" ∈ zT := zmem 104 (by decide +kernel) rfl
theorem zw_105 : Cond.fieldLink "SentRoads" 250 "SentRoads$Man" "deeds" "I" ∈ zT := zmem 105 (by decide +kernel) rfl
theorem zw_123 : Cond.instanceMethod yX0_init ∈ zT := zmem 123 (by decide +kernel) rfl
theorem zw_124 : Cond.code yX0_init cX0_init 1 none ∈ zT := zmem 124 (by decide +kernel) rfl
theorem zw_126 : Cond.fieldLink "SentRoads$Crime" 7 "SentRoads$Crime" "land" "I" ∈ zT := zmem 126 (by decide +kernel) rfl
theorem zw_127 : Cond.fieldLink "SentRoads$Deed" 54 "SentRoads$Crime" "land" "I" ∈ zT := zmem 127 (by decide +kernel) rfl
theorem zw_128 : Cond.fieldLink "SentRoads$World" 95 "SentRoads$Crime" "land" "I" ∈ zT := zmem 128 (by decide +kernel) rfl
theorem zw_129 : Cond.fieldLink "SentRoads" 135 "SentRoads$Crime" "land" "I" ∈ zT := zmem 129 (by decide +kernel) rfl
theorem zw_130 : Cond.fieldLink "SentRoads$Crime" 13 "SentRoads$Crime" "must" "I" ∈ zT := zmem 130 (by decide +kernel) rfl
theorem zw_131 : Cond.fieldLink "SentRoads" 138 "SentRoads$Crime" "must" "I" ∈ zT := zmem 131 (by decide +kernel) rfl
theorem zw_132 : Cond.fieldLink "SentRoads$Crime" 16 "SentRoads$Crime" "but" "I" ∈ zT := zmem 132 (by decide +kernel) rfl
theorem zw_133 : Cond.fieldLink "SentRoads" 141 "SentRoads$Crime" "but" "I" ∈ zT := zmem 133 (by decide +kernel) rfl
theorem zw_134 : Cond.fieldLink "SentRoads$Crime" 19 "SentRoads$Crime" "least" "I" ∈ zT := zmem 134 (by decide +kernel) rfl
theorem zw_135 : Cond.fieldLink "SentRoads" 144 "SentRoads$Crime" "least" "I" ∈ zT := zmem 135 (by decide +kernel) rfl
theorem zw_136 : Cond.fieldLink "SentRoads$Crime" 22 "SentRoads$Crime" "most" "I" ∈ zT := zmem 136 (by decide +kernel) rfl
theorem zw_137 : Cond.fieldLink "SentRoads$Deed" 61 "SentRoads$Crime" "most" "I" ∈ zT := zmem 137 (by decide +kernel) rfl
theorem zw_138 : Cond.fieldLink "SentRoads" 147 "SentRoads$Crime" "most" "I" ∈ zT := zmem 138 (by decide +kernel) rfl
theorem zw_139 : Cond.fieldLink "SentRoads$Crime" 25 "SentRoads$Crime" "death" "Z" ∈ zT := zmem 139 (by decide +kernel) rfl
theorem zw_140 : Cond.fieldLink "SentRoads$Deed" 70 "SentRoads$Crime" "death" "Z" ∈ zT := zmem 140 (by decide +kernel) rfl
theorem zw_141 : Cond.fieldLink "SentRoads" 150 "SentRoads$Crime" "death" "Z" ∈ zT := zmem 141 (by decide +kernel) rfl
theorem zw_157 : Cond.instanceMethod yX1_init ∈ zT := zmem 157 (by decide +kernel) rfl
theorem zw_158 : Cond.code yX1_init cX1_init 1 none ∈ zT := zmem 158 (by decide +kernel) rfl
theorem zw_160 : Cond.fieldLink "SentRoads$Deed" 18 "SentRoads$Deed" "charged" "I" ∈ zT := zmem 160 (by decide +kernel) rfl
theorem zw_161 : Cond.fieldLink "SentRoads$Paper" 59 "SentRoads$Deed" "charged" "I" ∈ zT := zmem 161 (by decide +kernel) rfl
theorem zw_162 : Cond.fieldLink "SentRoads$World" 114 "SentRoads$Deed" "charged" "I" ∈ zT := zmem 162 (by decide +kernel) rfl
theorem zw_163 : Cond.fieldLink "SentRoads$Deed" 22 "SentRoads$Deed" "shown" "I" ∈ zT := zmem 163 (by decide +kernel) rfl
theorem zw_164 : Cond.fieldLink "SentRoads$Paper" 62 "SentRoads$Deed" "shown" "I" ∈ zT := zmem 164 (by decide +kernel) rfl
theorem zw_165 : Cond.fieldLink "SentRoads" 207 "SentRoads$Deed" "shown" "I" ∈ zT := zmem 165 (by decide +kernel) rfl
theorem zw_166 : Cond.fieldLink "SentRoads$Deed" 25 "SentRoads$Deed" "land" "I" ∈ zT := zmem 166 (by decide +kernel) rfl
theorem zw_167 : Cond.fieldLink "SentRoads$World" 126 "SentRoads$Deed" "land" "I" ∈ zT := zmem 167 (by decide +kernel) rfl
theorem zw_168 : Cond.fieldLink "SentRoads$Deed" 28 "SentRoads$Deed" "year" "I" ∈ zT := zmem 168 (by decide +kernel) rfl
theorem zw_169 : Cond.fieldLink "SentRoads$World" 136 "SentRoads$Deed" "year" "I" ∈ zT := zmem 169 (by decide +kernel) rfl
theorem zw_170 : Cond.fieldLink "SentRoads$Deed" 31 "SentRoads$Deed" "judged" "Z" ∈ zT := zmem 170 (by decide +kernel) rfl
theorem zw_171 : Cond.fieldLink "SentRoads$Roads" 120 "SentRoads$Deed" "judged" "Z" ∈ zT := zmem 171 (by decide +kernel) rfl
theorem zw_172 : Cond.fieldLink "SentRoads$World" 110 "SentRoads$Deed" "judged" "Z" ∈ zT := zmem 172 (by decide +kernel) rfl
theorem zw_173 : Cond.fieldLink "SentRoads" 241 "SentRoads$Deed" "judged" "Z" ∈ zT := zmem 173 (by decide +kernel) rfl
theorem zw_174 : Cond.fieldLink "SentRoads$Deed" 39 "SentRoads$Deed" "chargedCrimes" "I" ∈ zT := zmem 174 (by decide +kernel) rfl
theorem zw_175 : Cond.fieldLink "SentRoads$Paper" 56 "SentRoads$Deed" "chargedCrimes" "I" ∈ zT := zmem 175 (by decide +kernel) rfl
theorem zw_176 : Cond.fieldLink "SentRoads" 182 "SentRoads$Deed" "chargedCrimes" "I" ∈ zT := zmem 176 (by decide +kernel) rfl
theorem zw_177 : Cond.fieldLink "SentRoads$Deed" 42 "SentRoads$Deed" "shownCrimes" "I" ∈ zT := zmem 177 (by decide +kernel) rfl
theorem zw_178 : Cond.fieldLink "SentRoads" 185 "SentRoads$Deed" "shownCrimes" "I" ∈ zT := zmem 178 (by decide +kernel) rfl
theorem zw_179 : Cond.fieldLink "SentRoads$Deed" 45 "SentRoads$Deed" "deadlyLands" "I" ∈ zT := zmem 179 (by decide +kernel) rfl
theorem zw_180 : Cond.fieldLink "SentRoads$Deed" 9 "SentRoads$Deed" "chargedYears" "[I" ∈ zT := zmem 180 (by decide +kernel) rfl
theorem zw_181 : Cond.fieldLink "SentRoads$Paper" 53 "SentRoads$Deed" "chargedYears" "[I" ∈ zT := zmem 181 (by decide +kernel) rfl
theorem zw_182 : Cond.fieldLink "SentRoads" 188 "SentRoads$Deed" "chargedYears" "[I" ∈ zT := zmem 182 (by decide +kernel) rfl
theorem zw_183 : Cond.fieldLink "SentRoads$World" 170 "SentRoads$Deed" "chargedYears" "[I" ∈ zT := zmem 183 (by decide +kernel) rfl
theorem zw_184 : Cond.fieldLink "SentRoads$Deed" 15 "SentRoads$Deed" "shownYears" "[I" ∈ zT := zmem 184 (by decide +kernel) rfl
theorem zw_185 : Cond.fieldLink "SentRoads$Paper" 47 "SentRoads$Deed" "shownYears" "[I" ∈ zT := zmem 185 (by decide +kernel) rfl
theorem zw_186 : Cond.fieldLink "SentRoads" 192 "SentRoads$Deed" "shownYears" "[I" ∈ zT := zmem 186 (by decide +kernel) rfl
theorem zw_211 : Cond.instanceMethod yX4_init ∈ zT := zmem 211 (by decide +kernel) rfl
theorem zw_212 : Cond.code yX4_init cX4_init 1 none ∈ zT := zmem 212 (by decide +kernel) rfl
theorem zw_214 : Cond.fieldLink "SentRoads$Paper" 18 "SentRoads$Paper" "kind" "I" ∈ zT := zmem 214 (by decide +kernel) rfl
theorem zw_215 : Cond.fieldLink "SentRoads" 156 "SentRoads$Paper" "kind" "I" ∈ zT := zmem 215 (by decide +kernel) rfl
theorem zw_216 : Cond.fieldLink "SentRoads$Paper" 9 "SentRoads$Paper" "from" "I" ∈ zT := zmem 216 (by decide +kernel) rfl
theorem zw_217 : Cond.fieldLink "SentRoads$Man" 38 "SentRoads$Paper" "from" "I" ∈ zT := zmem 217 (by decide +kernel) rfl
theorem zw_218 : Cond.fieldLink "SentRoads" 159 "SentRoads$Paper" "from" "I" ∈ zT := zmem 218 (by decide +kernel) rfl
theorem zw_219 : Cond.fieldLink "SentRoads$World" 107 "SentRoads$Paper" "from" "I" ∈ zT := zmem 219 (by decide +kernel) rfl
theorem zw_220 : Cond.fieldLink "SentRoads$Paper" 15 "SentRoads$Paper" "to" "I" ∈ zT := zmem 220 (by decide +kernel) rfl
theorem zw_221 : Cond.fieldLink "SentRoads$Man" 43 "SentRoads$Paper" "to" "I" ∈ zT := zmem 221 (by decide +kernel) rfl
theorem zw_222 : Cond.fieldLink "SentRoads" 162 "SentRoads$Paper" "to" "I" ∈ zT := zmem 222 (by decide +kernel) rfl
theorem zw_223 : Cond.fieldLink "SentRoads$Roads" 102 "SentRoads$Paper" "to" "I" ∈ zT := zmem 223 (by decide +kernel) rfl
theorem zw_224 : Cond.fieldLink "SentRoads$World" 117 "SentRoads$Paper" "to" "I" ∈ zT := zmem 224 (by decide +kernel) rfl
theorem zw_225 : Cond.fieldLink "SentRoads$Paper" 21 "SentRoads$Paper" "n" "I" ∈ zT := zmem 225 (by decide +kernel) rfl
theorem zw_226 : Cond.fieldLink "SentRoads" 165 "SentRoads$Paper" "n" "I" ∈ zT := zmem 226 (by decide +kernel) rfl
theorem zw_227 : Cond.fieldLink "SentRoads$Paper" 24 "SentRoads$Paper" "crimes" "I" ∈ zT := zmem 227 (by decide +kernel) rfl
theorem zw_228 : Cond.fieldLink "SentRoads" 168 "SentRoads$Paper" "crimes" "I" ∈ zT := zmem 228 (by decide +kernel) rfl
theorem zw_229 : Cond.fieldLink "SentRoads$Paper" 27 "SentRoads$Paper" "bars" "I" ∈ zT := zmem 229 (by decide +kernel) rfl
theorem zw_230 : Cond.fieldLink "SentRoads" 170 "SentRoads$Paper" "bars" "I" ∈ zT := zmem 230 (by decide +kernel) rfl
theorem zw_231 : Cond.fieldLink "SentRoads$World" 127 "SentRoads$Paper" "bars" "I" ∈ zT := zmem 231 (by decide +kernel) rfl
theorem zw_232 : Cond.fieldLink "SentRoads$Paper" 30 "SentRoads$Paper" "age" "I" ∈ zT := zmem 232 (by decide +kernel) rfl
theorem zw_233 : Cond.fieldLink "SentRoads" 173 "SentRoads$Paper" "age" "I" ∈ zT := zmem 233 (by decide +kernel) rfl
theorem zw_234 : Cond.fieldLink "SentRoads$World" 130 "SentRoads$Paper" "age" "I" ∈ zT := zmem 234 (by decide +kernel) rfl
theorem zw_235 : Cond.fieldLink "SentRoads$Paper" 33 "SentRoads$Paper" "promised" "I" ∈ zT := zmem 235 (by decide +kernel) rfl
theorem zw_236 : Cond.fieldLink "SentRoads" 176 "SentRoads$Paper" "promised" "I" ∈ zT := zmem 236 (by decide +kernel) rfl
theorem zw_237 : Cond.fieldLink "SentRoads$Man" 46 "SentRoads$Paper" "open" "I" ∈ zT := zmem 237 (by decide +kernel) rfl
theorem zw_238 : Cond.fieldLink "SentRoads$World" 137 "SentRoads$Paper" "open" "I" ∈ zT := zmem 238 (by decide +kernel) rfl
theorem zw_239 : Cond.fieldLink "SentRoads$Man" 53 "SentRoads$Paper" "deadly" "I" ∈ zT := zmem 239 (by decide +kernel) rfl
theorem zw_240 : Cond.fieldLink "SentRoads$World" 140 "SentRoads$Paper" "deadly" "I" ∈ zT := zmem 240 (by decide +kernel) rfl
theorem zw_264 : Cond.instanceMethod yX2_init ∈ zT := zmem 264 (by decide +kernel) rfl
theorem zw_265 : Cond.code yX2_init cX2_init 1 none ∈ zT := zmem 265 (by decide +kernel) rfl
theorem zw_267 : Cond.fieldLink "SentRoads$Demand" 7 "SentRoads$Demand" "land" "I" ∈ zT := zmem 267 (by decide +kernel) rfl
theorem zw_268 : Cond.fieldLink "SentRoads$World" 73 "SentRoads$Demand" "land" "I" ∈ zT := zmem 268 (by decide +kernel) rfl
theorem zw_269 : Cond.fieldLink "SentRoads$Demand" 13 "SentRoads$Demand" "deeds" "I" ∈ zT := zmem 269 (by decide +kernel) rfl
theorem zw_270 : Cond.fieldLink "SentRoads$World" 76 "SentRoads$Demand" "deeds" "I" ∈ zT := zmem 270 (by decide +kernel) rfl
theorem zw_271 : Cond.fieldLink "SentRoads$Demand" 16 "SentRoads$Demand" "day" "I" ∈ zT := zmem 271 (by decide +kernel) rfl
theorem zw_272 : Cond.fieldLink "SentRoads$World" 78 "SentRoads$Demand" "day" "I" ∈ zT := zmem 272 (by decide +kernel) rfl
theorem zw_273 : Cond.fieldLink "SentRoads$World" 161 "SentRoads$Demand" "standing" "I" ∈ zT := zmem 273 (by decide +kernel) rfl
theorem zw_274 : Cond.fieldLink "SentRoads" 311 "SentRoads$Demand" "standing" "I" ∈ zT := zmem 274 (by decide +kernel) rfl
theorem zw_275 : Cond.fieldLink "SentRoads$Demand" 19 "SentRoads$Demand" "years" "I" ∈ zT := zmem 275 (by decide +kernel) rfl
theorem zw_276 : Cond.fieldLink "SentRoads$World" 164 "SentRoads$Demand" "years" "I" ∈ zT := zmem 276 (by decide +kernel) rfl
theorem zw_277 : Cond.fieldLink "SentRoads$Demand" 22 "SentRoads$Demand" "home" "Z" ∈ zT := zmem 277 (by decide +kernel) rfl
theorem zw_278 : Cond.fieldLink "SentRoads$World" 167 "SentRoads$Demand" "home" "Z" ∈ zT := zmem 278 (by decide +kernel) rfl
theorem zw_292 : Cond.fieldLink "SentRoads$World" 11 "SentRoads$World" "crimes" "[LSentRoads$Crime;" ∈ zT := zmem 292 (by decide +kernel) rfl
theorem zw_293 : Cond.fieldLink "SentRoads" 54 "SentRoads$World" "crimes" "[LSentRoads$Crime;" ∈ zT := zmem 293 (by decide +kernel) rfl
theorem zw_294 : Cond.fieldLink "SentRoads$World" 19 "SentRoads$World" "deeds" "[LSentRoads$Deed;" ∈ zT := zmem 294 (by decide +kernel) rfl
theorem zw_295 : Cond.fieldLink "SentRoads" 74 "SentRoads$World" "deeds" "[LSentRoads$Deed;" ∈ zT := zmem 295 (by decide +kernel) rfl
theorem zw_296 : Cond.fieldLink "SentRoads$Roads" 111 "SentRoads$World" "deeds" "[LSentRoads$Deed;" ∈ zT := zmem 296 (by decide +kernel) rfl
theorem zw_297 : Cond.fieldLink "SentRoads$World" 25 "SentRoads$World" "papers" "[LSentRoads$Paper;" ∈ zT := zmem 297 (by decide +kernel) rfl
theorem zw_298 : Cond.fieldLink "SentRoads" 90 "SentRoads$World" "papers" "[LSentRoads$Paper;" ∈ zT := zmem 298 (by decide +kernel) rfl
theorem zw_299 : Cond.fieldLink "SentRoads$Roads" 68 "SentRoads$World" "papers" "[LSentRoads$Paper;" ∈ zT := zmem 299 (by decide +kernel) rfl
theorem zw_300 : Cond.fieldLink "SentRoads$World" 31 "SentRoads$World" "demands" "[LSentRoads$Demand;" ∈ zT := zmem 300 (by decide +kernel) rfl
theorem zw_301 : Cond.fieldLink "SentRoads" 300 "SentRoads$World" "demands" "[LSentRoads$Demand;" ∈ zT := zmem 301 (by decide +kernel) rfl
theorem zw_302 : Cond.fieldLink "SentRoads$World" 38 "SentRoads$World" "man" "LSentRoads$Man;" ∈ zT := zmem 302 (by decide +kernel) rfl
theorem zw_303 : Cond.fieldLink "SentRoads$Roads" 61 "SentRoads$World" "man" "LSentRoads$Man;" ∈ zT := zmem 303 (by decide +kernel) rfl
theorem zw_304 : Cond.fieldLink "SentRoads" 220 "SentRoads$World" "man" "LSentRoads$Man;" ∈ zT := zmem 304 (by decide +kernel) rfl
theorem zw_305 : Cond.fieldLink "SentRoads$World" 46 "SentRoads$World" "crimeCount" "I" ∈ zT := zmem 305 (by decide +kernel) rfl
theorem zw_306 : Cond.fieldLink "SentRoads" 50 "SentRoads$World" "crimeCount" "I" ∈ zT := zmem 306 (by decide +kernel) rfl
theorem zw_307 : Cond.fieldLink "SentRoads$World" 54 "SentRoads$World" "deedCount" "I" ∈ zT := zmem 307 (by decide +kernel) rfl
theorem zw_308 : Cond.fieldLink "SentRoads" 71 "SentRoads$World" "deedCount" "I" ∈ zT := zmem 308 (by decide +kernel) rfl
theorem zw_309 : Cond.fieldLink "SentRoads$World" 64 "SentRoads$World" "paperCount" "I" ∈ zT := zmem 309 (by decide +kernel) rfl
theorem zw_310 : Cond.fieldLink "SentRoads$Roads" 76 "SentRoads$World" "paperCount" "I" ∈ zT := zmem 310 (by decide +kernel) rfl
theorem zw_311 : Cond.fieldLink "SentRoads" 119 "SentRoads$World" "paperCount" "I" ∈ zT := zmem 311 (by decide +kernel) rfl
theorem zw_312 : Cond.fieldLink "SentRoads$World" 70 "SentRoads$World" "demandCount" "I" ∈ zT := zmem 312 (by decide +kernel) rfl
theorem zw_313 : Cond.fieldLink "SentRoads" 217 "SentRoads$World" "demandCount" "I" ∈ zT := zmem 313 (by decide +kernel) rfl
theorem zw_335 : Cond.methodLink "SentRoads" 21 yX5_init ∈ zT := zmem 335 (by decide +kernel) rfl
theorem zw_336 : Cond.instanceMethod yX5_init ∈ zT := zmem 336 (by decide +kernel) rfl
theorem zw_337 : Cond.code yX5_init cX5_init 2 none ∈ zT := zmem 337 (by decide +kernel) rfl
theorem zw_341 : Cond.fieldLink "SentRoads$Roads" 31 "SentRoads$Roads" "world" "LSentRoads$World;" ∈ zT := zmem 341 (by decide +kernel) rfl
theorem zw_342 : Cond.fieldLink "SentRoads$Roads" 12 "SentRoads$Roads" "walker" "LSentRoads$Man;" ∈ zT := zmem 342 (by decide +kernel) rfl
theorem zw_343 : Cond.fieldLink "SentRoads$Roads" 18 "SentRoads$Roads" "seenIn" "[I" ∈ zT := zmem 343 (by decide +kernel) rfl
theorem zw_344 : Cond.fieldLink "SentRoads$Roads" 22 "SentRoads$Roads" "steps" "[I" ∈ zT := zmem 344 (by decide +kernel) rfl
theorem zw_345 : Cond.fieldLink "SentRoads$Roads" 25 "SentRoads$Roads" "comesFrom" "[I" ∈ zT := zmem 345 (by decide +kernel) rfl
theorem zw_346 : Cond.fieldLink "SentRoads$Roads" 28 "SentRoads$Roads" "fewest" "[I" ∈ zT := zmem 346 (by decide +kernel) rfl
theorem zw_347 : Cond.fieldLink "SentRoads$Roads" 38 "SentRoads$Roads" "stepCount" "I" ∈ zT := zmem 347 (by decide +kernel) rfl
theorem zw_348 : Cond.fieldLink "SentRoads$Roads" 58 "SentRoads$Roads" "search" "I" ∈ zT := zmem 348 (by decide +kernel) rfl
theorem zw_368 : Cond.methodLink "SentRoads" 30 yX7_init ∈ zT := zmem 368 (by decide +kernel) rfl
theorem zw_369 : Cond.instanceMethod yX7_init ∈ zT := zmem 369 (by decide +kernel) rfl
theorem zw_370 : Cond.code yX7_init cX7_init 2 none ∈ zT := zmem 370 (by decide +kernel) rfl
theorem zw_376 : Cond.fieldLink "SentRoads$Tape" 9 "SentRoads$Tape" "bytes" "[C" ∈ zT := zmem 376 (by decide +kernel) rfl
theorem zw_377 : Cond.fieldLink "SentRoads$Tape" 17 "SentRoads$Tape" "crimes" "[LSentRoads$Crime;" ∈ zT := zmem 377 (by decide +kernel) rfl
theorem zw_378 : Cond.fieldLink "SentRoads" 123 "SentRoads$Tape" "crimes" "[LSentRoads$Crime;" ∈ zT := zmem 378 (by decide +kernel) rfl
theorem zw_379 : Cond.fieldLink "SentRoads$Tape" 23 "SentRoads$Tape" "papers" "[LSentRoads$Paper;" ∈ zT := zmem 379 (by decide +kernel) rfl
theorem zw_380 : Cond.fieldLink "SentRoads" 128 "SentRoads$Tape" "papers" "[LSentRoads$Paper;" ∈ zT := zmem 380 (by decide +kernel) rfl
theorem zw_381 : Cond.fieldLink "SentRoads$Tape" 29 "SentRoads$Tape" "length" "I" ∈ zT := zmem 381 (by decide +kernel) rfl
theorem zw_382 : Cond.fieldLink "SentRoads" 108 "SentRoads$Tape" "length" "I" ∈ zT := zmem 382 (by decide +kernel) rfl
theorem zw_383 : Cond.fieldLink "SentRoads$Tape" 39 "SentRoads$Tape" "crimeCount" "I" ∈ zT := zmem 383 (by decide +kernel) rfl
theorem zw_384 : Cond.fieldLink "SentRoads" 118 "SentRoads$Tape" "crimeCount" "I" ∈ zT := zmem 384 (by decide +kernel) rfl
theorem zw_385 : Cond.fieldLink "SentRoads$Tape" 42 "SentRoads$Tape" "paperCount" "I" ∈ zT := zmem 385 (by decide +kernel) rfl
theorem zw_386 : Cond.fieldLink "SentRoads" 122 "SentRoads$Tape" "paperCount" "I" ∈ zT := zmem 386 (by decide +kernel) rfl
theorem zw_387 : Cond.fieldLink "SentRoads$Tape" 33 "SentRoads$Tape" "place" "I" ∈ zT := zmem 387 (by decide +kernel) rfl
theorem zw_388 : Cond.fieldLink "SentRoads$Tape" 36 "SentRoads$Tape" "fault" "I" ∈ zT := zmem 388 (by decide +kernel) rfl
theorem zw_411 : Cond.instanceMethod yX6_init ∈ zT := zmem 411 (by decide +kernel) rfl
theorem zw_412 : Cond.code yX6_init cX6_init 1 none ∈ zT := zmem 412 (by decide +kernel) rfl
theorem zw_414 : Cond.fieldLink "SentRoads$Sheet" 9 "SentRoads$Sheet" "items" "[I" ∈ zT := zmem 414 (by decide +kernel) rfl
theorem zw_415 : Cond.fieldLink "SentRoads$Sheet" 15 "SentRoads$Sheet" "lane" "I" ∈ zT := zmem 415 (by decide +kernel) rfl
theorem zw_416 : Cond.fieldLink "SentRoads" 336 "SentRoads$Sheet" "lane" "I" ∈ zT := zmem 416 (by decide +kernel) rfl
theorem zw_417 : Cond.fieldLink "SentRoads$Sheet" 19 "SentRoads$Sheet" "size" "I" ∈ zT := zmem 417 (by decide +kernel) rfl
theorem zw_418 : Cond.fieldLink "SentRoads" 204 "SentRoads$Sheet" "size" "I" ∈ zT := zmem 418 (by decide +kernel) rfl
theorem zw_426 : Cond.fieldLink "SentRoads" 10 "SentRoads" "now" "LSentRoads$World;" ∈ zT := zmem 426 (by decide +kernel) rfl
theorem zw_427 : Cond.fieldLink "SentRoads" 16 "SentRoads" "kept" "LSentRoads$World;" ∈ zT := zmem 427 (by decide +kernel) rfl
theorem zw_428 : Cond.fieldLink "SentRoads" 24 "SentRoads" "roads" "LSentRoads$Roads;" ∈ zT := zmem 428 (by decide +kernel) rfl
theorem zw_429 : Cond.fieldLink "SentRoads" 31 "SentRoads" "tape" "LSentRoads$Tape;" ∈ zT := zmem 429 (by decide +kernel) rfl
theorem zw_430 : Cond.fieldLink "SentRoads" 37 "SentRoads" "sheets" "[LSentRoads$Sheet;" ∈ zT := zmem 430 (by decide +kernel) rfl
theorem zw_431 : Cond.fieldLink "SentRoads" 42 "SentRoads" "hasImage" "Z" ∈ zT := zmem 431 (by decide +kernel) rfl
theorem zw_445 : Cond.methodLink "SentRoadsLaw" 13 yX9_crime ∈ zT := zmem 445 (by decide +kernel) rfl
theorem zw_446 : Cond.instanceMethod yX9_crime ∈ zT := zmem 446 (by decide +kernel) rfl
theorem zw_447 : Cond.selects "SentRoads" yX9_crime yX9_crime ∈ zT := zmem 447 (by decide +kernel) rfl
theorem zw_448 : Cond.code yX9_crime cX9_crime 7 (some .int) ∈ zT := zmem 448 (by decide +kernel) rfl
theorem zw_449 : Cond.methodLink "SentRoads" 46 yX9_isLand ∈ zT := zmem 449 (by decide +kernel) rfl
theorem zw_450 : Cond.static yX9_isLand ∈ zT := zmem 450 (by decide +kernel) rfl
theorem zw_451 : Cond.code yX9_isLand cX9_isLand 1 (some .boolean) ∈ zT := zmem 451 (by decide +kernel) rfl
theorem zw_452 : Cond.methodLink "SentRoads" 58 yX0_tell ∈ zT := zmem 452 (by decide +kernel) rfl
theorem zw_453 : Cond.instanceMethod yX0_tell ∈ zT := zmem 453 (by decide +kernel) rfl
theorem zw_454 : Cond.selects "SentRoads$Crime" yX0_tell yX0_tell ∈ zT := zmem 454 (by decide +kernel) rfl
theorem zw_455 : Cond.code yX0_tell cX0_tell 7 none ∈ zT := zmem 455 (by decide +kernel) rfl
theorem zw_456 : Cond.methodLink "SentRoads" 64 yX8_takeCrime ∈ zT := zmem 456 (by decide +kernel) rfl
theorem zw_457 : Cond.instanceMethod yX8_takeCrime ∈ zT := zmem 457 (by decide +kernel) rfl
theorem zw_458 : Cond.selects "SentRoads$World" yX8_takeCrime yX8_takeCrime ∈ zT := zmem 458 (by decide +kernel) rfl
theorem zw_459 : Cond.code yX8_takeCrime cX8_takeCrime 2 (some .int) ∈ zT := zmem 459 (by decide +kernel) rfl
theorem zw_460 : Cond.methodLink "SentRoads$World" 88 yX1_learn ∈ zT := zmem 460 (by decide +kernel) rfl
theorem zw_461 : Cond.instanceMethod yX1_learn ∈ zT := zmem 461 (by decide +kernel) rfl
theorem zw_462 : Cond.selects "SentRoads$Deed" yX1_learn yX1_learn ∈ zT := zmem 462 (by decide +kernel) rfl
theorem zw_463 : Cond.code yX1_learn cX1_learn 4 none ∈ zT := zmem 463 (by decide +kernel) rfl
theorem zw_464 : Cond.methodLink "SentRoads$Deed" 57 yX0_isMarks ∈ zT := zmem 464 (by decide +kernel) rfl
theorem zw_465 : Cond.instanceMethod yX0_isMarks ∈ zT := zmem 465 (by decide +kernel) rfl
theorem zw_466 : Cond.selects "SentRoads$Crime" yX0_isMarks yX0_isMarks ∈ zT := zmem 466 (by decide +kernel) rfl
theorem zw_467 : Cond.code yX0_isMarks cX0_isMarks 2 (some .boolean) ∈ zT := zmem 467 (by decide +kernel) rfl
theorem zw_468 : Cond.methodLink "SentRoads$Deed" 64 yJ9_max_7cf53 ∈ zT := zmem 468 (by decide +kernel) rfl
theorem zw_469 : Cond.static yJ9_max_7cf53 ∈ zT := zmem 469 (by decide +kernel) rfl
theorem zw_470 : Cond.code yJ9_max_7cf53 cJ9_max_7cf53 2 (some .int) ∈ zT := zmem 470 (by decide +kernel) rfl
theorem zw_471 : Cond.methodLink "SentRoadsLaw" 18 yX9_deed ∈ zT := zmem 471 (by decide +kernel) rfl
theorem zw_472 : Cond.instanceMethod yX9_deed ∈ zT := zmem 472 (by decide +kernel) rfl
theorem zw_473 : Cond.selects "SentRoads" yX9_deed yX9_deed ∈ zT := zmem 473 (by decide +kernel) rfl
theorem zw_474 : Cond.code yX9_deed cX9_deed 5 (some .int) ∈ zT := zmem 474 (by decide +kernel) rfl
theorem zw_475 : Cond.methodLink "SentRoads" 68 yX9_isYear ∈ zT := zmem 475 (by decide +kernel) rfl
theorem zw_476 : Cond.static yX9_isYear ∈ zT := zmem 476 (by decide +kernel) rfl
theorem zw_477 : Cond.code yX9_isYear cX9_isYear 1 (some .boolean) ∈ zT := zmem 477 (by decide +kernel) rfl
theorem zw_478 : Cond.methodLink "SentRoads" 78 yX1_tell ∈ zT := zmem 478 (by decide +kernel) rfl
theorem zw_479 : Cond.instanceMethod yX1_tell ∈ zT := zmem 479 (by decide +kernel) rfl
theorem zw_480 : Cond.selects "SentRoads$Deed" yX1_tell yX1_tell ∈ zT := zmem 480 (by decide +kernel) rfl
theorem zw_481 : Cond.code yX1_tell cX1_tell 5 none ∈ zT := zmem 481 (by decide +kernel) rfl
theorem zw_482 : Cond.methodLink "SentRoads" 83 yX8_takeDeed ∈ zT := zmem 482 (by decide +kernel) rfl
theorem zw_483 : Cond.instanceMethod yX8_takeDeed ∈ zT := zmem 483 (by decide +kernel) rfl
theorem zw_484 : Cond.selects "SentRoads$World" yX8_takeDeed yX8_takeDeed ∈ zT := zmem 484 (by decide +kernel) rfl
theorem zw_485 : Cond.code yX8_takeDeed cX8_takeDeed 1 (some .int) ∈ zT := zmem 485 (by decide +kernel) rfl
theorem zw_486 : Cond.methodLink "SentRoads$World" 60 yX8_learnAgain ∈ zT := zmem 486 (by decide +kernel) rfl
theorem zw_487 : Cond.instanceMethod yX8_learnAgain ∈ zT := zmem 487 (by decide +kernel) rfl
theorem zw_488 : Cond.selects "SentRoads$World" yX8_learnAgain yX8_learnAgain ∈ zT := zmem 488 (by decide +kernel) rfl
theorem zw_489 : Cond.code yX8_learnAgain cX8_learnAgain 3 none ∈ zT := zmem 489 (by decide +kernel) rfl
theorem zw_490 : Cond.methodLink "SentRoads$World" 92 yX1_forget ∈ zT := zmem 490 (by decide +kernel) rfl
theorem zw_491 : Cond.instanceMethod yX1_forget ∈ zT := zmem 491 (by decide +kernel) rfl
theorem zw_492 : Cond.selects "SentRoads$Deed" yX1_forget yX1_forget ∈ zT := zmem 492 (by decide +kernel) rfl
theorem zw_493 : Cond.code yX1_forget cX1_forget 1 none ∈ zT := zmem 493 (by decide +kernel) rfl
theorem zw_494 : Cond.methodLink "SentRoads$Deed" 48 yJ7_fill_53178 ∈ zT := zmem 494 (by decide +kernel) rfl
theorem zw_495 : Cond.static yJ7_fill_53178 ∈ zT := zmem 495 (by decide +kernel) rfl
theorem zw_496 : Cond.code yJ7_fill_53178 cJ7_fill_53178 4 none ∈ zT := zmem 496 (by decide +kernel) rfl
theorem zw_497 : Cond.methodLink "SentRoadsLaw" 23 yX9_years ∈ zT := zmem 497 (by decide +kernel) rfl
theorem zw_498 : Cond.instanceMethod yX9_years ∈ zT := zmem 498 (by decide +kernel) rfl
theorem zw_499 : Cond.selects "SentRoads" yX9_years yX9_years ∈ zT := zmem 499 (by decide +kernel) rfl
theorem zw_500 : Cond.code yX9_years cX9_years 8 (some .int) ∈ zT := zmem 500 (by decide +kernel) rfl
theorem zw_501 : Cond.methodLink "SentRoads" 86 yX9_addPaper ∈ zT := zmem 501 (by decide +kernel) rfl
theorem zw_503 : Cond.instanceMethod yX9_addPaper ∈ zT := zmem 503 (by decide +kernel) rfl
theorem zw_504 : Cond.code yX9_addPaper cX9_addPaper 7 (some .int) ∈ zT := zmem 504 (by decide +kernel) rfl
theorem zw_505 : Cond.methodLink "SentRoads" 342 yX4_lead ∈ zT := zmem 505 (by decide +kernel) rfl
theorem zw_506 : Cond.instanceMethod yX4_lead ∈ zT := zmem 506 (by decide +kernel) rfl
theorem zw_507 : Cond.selects "SentRoads$Paper" yX4_lead yX4_lead ∈ zT := zmem 507 (by decide +kernel) rfl
theorem zw_508 : Cond.code yX4_lead cX4_lead 3 none ∈ zT := zmem 508 (by decide +kernel) rfl
theorem zw_509 : Cond.methodLink "SentRoads" 345 yX4_rule ∈ zT := zmem 509 (by decide +kernel) rfl
theorem zw_510 : Cond.instanceMethod yX4_rule ∈ zT := zmem 510 (by decide +kernel) rfl
theorem zw_511 : Cond.selects "SentRoads$Paper" yX4_rule yX4_rule ∈ zT := zmem 511 (by decide +kernel) rfl
theorem zw_512 : Cond.code yX4_rule cX4_rule 4 none ∈ zT := zmem 512 (by decide +kernel) rfl
theorem zw_513 : Cond.methodLink "SentRoads" 132 yX8_takePaper ∈ zT := zmem 513 (by decide +kernel) rfl
theorem zw_514 : Cond.instanceMethod yX8_takePaper ∈ zT := zmem 514 (by decide +kernel) rfl
theorem zw_515 : Cond.selects "SentRoads$World" yX8_takePaper yX8_takePaper ∈ zT := zmem 515 (by decide +kernel) rfl
theorem zw_516 : Cond.code yX8_takePaper cX8_takePaper 1 (some .int) ∈ zT := zmem 516 (by decide +kernel) rfl
theorem zw_517 : Cond.methodLink "SentRoads" 94 yX4_become ∈ zT := zmem 517 (by decide +kernel) rfl
theorem zw_518 : Cond.instanceMethod yX4_become ∈ zT := zmem 518 (by decide +kernel) rfl
theorem zw_519 : Cond.selects "SentRoads$Paper" yX4_become yX4_become ∈ zT := zmem 519 (by decide +kernel) rfl
theorem zw_520 : Cond.code yX4_become cX4_become 4 none ∈ zT := zmem 520 (by decide +kernel) rfl
theorem zw_521 : Cond.methodLink "SentRoadsLaw" 28 yX9_named ∈ zT := zmem 521 (by decide +kernel) rfl
theorem zw_522 : Cond.instanceMethod yX9_named ∈ zT := zmem 522 (by decide +kernel) rfl
theorem zw_523 : Cond.selects "SentRoads" yX9_named yX9_named ∈ zT := zmem 523 (by decide +kernel) rfl
theorem zw_524 : Cond.code yX9_named cX9_named 8 (some .int) ∈ zT := zmem 524 (by decide +kernel) rfl
theorem zw_525 : Cond.methodLink "SentRoads" 100 yX8_crimesOf ∈ zT := zmem 525 (by decide +kernel) rfl
theorem zw_526 : Cond.instanceMethod yX8_crimesOf ∈ zT := zmem 526 (by decide +kernel) rfl
theorem zw_527 : Cond.selects "SentRoads$World" yX8_crimesOf yX8_crimesOf ∈ zT := zmem 527 (by decide +kernel) rfl
theorem zw_528 : Cond.code yX8_crimesOf cX8_crimesOf 4 (some .int) ∈ zT := zmem 528 (by decide +kernel) rfl
theorem zw_529 : Cond.methodLink "SentRoadsLaw" 32 yX9_custom ∈ zT := zmem 529 (by decide +kernel) rfl
theorem zw_530 : Cond.instanceMethod yX9_custom ∈ zT := zmem 530 (by decide +kernel) rfl
theorem zw_531 : Cond.selects "SentRoads" yX9_custom yX9_custom ∈ zT := zmem 531 (by decide +kernel) rfl
theorem zw_532 : Cond.code yX9_custom cX9_custom 7 (some .int) ∈ zT := zmem 532 (by decide +kernel) rfl
theorem zw_533 : Cond.methodLink "SentRoadsLaw" 39 yX9_type ∈ zT := zmem 533 (by decide +kernel) rfl
theorem zw_534 : Cond.instanceMethod yX9_type ∈ zT := zmem 534 (by decide +kernel) rfl
theorem zw_535 : Cond.selects "SentRoads" yX9_type yX9_type ∈ zT := zmem 535 (by decide +kernel) rfl
theorem zw_536 : Cond.code yX9_type cX9_type 6 (some .int) ∈ zT := zmem 536 (by decide +kernel) rfl
theorem zw_537 : Cond.methodLink "SentRoads" 104 yX9_byteOf ∈ zT := zmem 537 (by decide +kernel) rfl
theorem zw_538 : Cond.static yX9_byteOf ∈ zT := zmem 538 (by decide +kernel) rfl
theorem zw_539 : Cond.code yX9_byteOf cX9_byteOf 3 (some .int) ∈ zT := zmem 539 (by decide +kernel) rfl
theorem zw_540 : Cond.methodLink "SentRoads" 111 yX7_write ∈ zT := zmem 540 (by decide +kernel) rfl
theorem zw_541 : Cond.instanceMethod yX7_write ∈ zT := zmem 541 (by decide +kernel) rfl
theorem zw_542 : Cond.selects "SentRoads$Tape" yX7_write yX7_write ∈ zT := zmem 542 (by decide +kernel) rfl
theorem zw_543 : Cond.code yX7_write cX7_write 2 none ∈ zT := zmem 543 (by decide +kernel) rfl
theorem zw_544 : Cond.methodLink "SentRoadsLaw" 44 yX9_world ∈ zT := zmem 544 (by decide +kernel) rfl
theorem zw_545 : Cond.instanceMethod yX9_world ∈ zT := zmem 545 (by decide +kernel) rfl
theorem zw_546 : Cond.selects "SentRoads" yX9_world yX9_world ∈ zT := zmem 546 (by decide +kernel) rfl
theorem zw_547 : Cond.code yX9_world cX9_world 3 (some .int) ∈ zT := zmem 547 (by decide +kernel) rfl
theorem zw_548 : Cond.methodLink "SentRoads" 115 yX7_parse ∈ zT := zmem 548 (by decide +kernel) rfl
theorem zw_549 : Cond.instanceMethod yX7_parse ∈ zT := zmem 549 (by decide +kernel) rfl
theorem zw_550 : Cond.selects "SentRoads$Tape" yX7_parse yX7_parse ∈ zT := zmem 550 (by decide +kernel) rfl
theorem zw_551 : Cond.code yX7_parse cX7_parse 2 (some .int) ∈ zT := zmem 551 (by decide +kernel) rfl
theorem zw_552 : Cond.methodLink "SentRoads$Tape" 45 yX7_readClause ∈ zT := zmem 552 (by decide +kernel) rfl
theorem zw_553 : Cond.instanceMethod yX7_readClause ∈ zT := zmem 553 (by decide +kernel) rfl
theorem zw_554 : Cond.selects "SentRoads$Tape" yX7_readClause yX7_readClause ∈ zT := zmem 554 (by decide +kernel) rfl
theorem zw_555 : Cond.code yX7_readClause cX7_readClause 2 none ∈ zT := zmem 555 (by decide +kernel) rfl
theorem zw_556 : Cond.methodLink "SentRoads$Tape" 60 yX7_readLand ∈ zT := zmem 556 (by decide +kernel) rfl
theorem zw_557 : Cond.instanceMethod yX7_readLand ∈ zT := zmem 557 (by decide +kernel) rfl
theorem zw_558 : Cond.selects "SentRoads$Tape" yX7_readLand yX7_readLand ∈ zT := zmem 558 (by decide +kernel) rfl
theorem zw_559 : Cond.code yX7_readLand cX7_readLand 3 (some .int) ∈ zT := zmem 559 (by decide +kernel) rfl
theorem zw_560 : Cond.methodLink "SentRoads$Tape" 52 yX7_next ∈ zT := zmem 560 (by decide +kernel) rfl
theorem zw_561 : Cond.instanceMethod yX7_next ∈ zT := zmem 561 (by decide +kernel) rfl
theorem zw_562 : Cond.selects "SentRoads$Tape" yX7_next yX7_next ∈ zT := zmem 562 (by decide +kernel) rfl
theorem zw_563 : Cond.code yX7_next cX7_next 1 (some .int) ∈ zT := zmem 563 (by decide +kernel) rfl
theorem zw_565 : Cond.methodLink "SentRoads$Tape" 56 yX7_fail ∈ zT := zmem 565 (by decide +kernel) rfl
theorem zw_566 : Cond.instanceMethod yX7_fail ∈ zT := zmem 566 (by decide +kernel) rfl
theorem zw_567 : Cond.selects "SentRoads$Tape" yX7_fail yX7_fail ∈ zT := zmem 567 (by decide +kernel) rfl
theorem zw_568 : Cond.code yX7_fail cX7_fail 2 none ∈ zT := zmem 568 (by decide +kernel) rfl
theorem zw_569 : Cond.methodLink "SentRoads$Tape" 48 yX7_takes ∈ zT := zmem 569 (by decide +kernel) rfl
theorem zw_570 : Cond.instanceMethod yX7_takes ∈ zT := zmem 570 (by decide +kernel) rfl
theorem zw_571 : Cond.selects "SentRoads$Tape" yX7_takes yX7_takes ∈ zT := zmem 571 (by decide +kernel) rfl
theorem zw_572 : Cond.code yX7_takes cX7_takes 3 (some .boolean) ∈ zT := zmem 572 (by decide +kernel) rfl
theorem zw_573 : Cond.methodLink "SentRoads$Tape" 64 yX7_readCrime ∈ zT := zmem 573 (by decide +kernel) rfl
theorem zw_574 : Cond.instanceMethod yX7_readCrime ∈ zT := zmem 574 (by decide +kernel) rfl
theorem zw_575 : Cond.selects "SentRoads$Tape" yX7_readCrime yX7_readCrime ∈ zT := zmem 575 (by decide +kernel) rfl
theorem zw_576 : Cond.code yX7_readCrime cX7_readCrime 7 none ∈ zT := zmem 576 (by decide +kernel) rfl
theorem zw_577 : Cond.methodLink "SentRoads$Tape" 70 yX7_readMarks ∈ zT := zmem 577 (by decide +kernel) rfl
theorem zw_578 : Cond.instanceMethod yX7_readMarks ∈ zT := zmem 578 (by decide +kernel) rfl
theorem zw_579 : Cond.selects "SentRoads$Tape" yX7_readMarks yX7_readMarks ∈ zT := zmem 579 (by decide +kernel) rfl
theorem zw_580 : Cond.code yX7_readMarks cX7_readMarks 6 (some .int) ∈ zT := zmem 580 (by decide +kernel) rfl
theorem zw_581 : Cond.methodLink "SentRoads$Tape" 73 yX7_readNumber ∈ zT := zmem 581 (by decide +kernel) rfl
theorem zw_582 : Cond.instanceMethod yX7_readNumber ∈ zT := zmem 582 (by decide +kernel) rfl
theorem zw_583 : Cond.selects "SentRoads$Tape" yX7_readNumber yX7_readNumber ∈ zT := zmem 583 (by decide +kernel) rfl
theorem zw_584 : Cond.code yX7_readNumber cX7_readNumber 5 (some .int) ∈ zT := zmem 584 (by decide +kernel) rfl
theorem zw_585 : Cond.methodLink "SentRoads$Tape" 112 yJ9_min_7cf53 ∈ zT := zmem 585 (by decide +kernel) rfl
theorem zw_586 : Cond.static yJ9_min_7cf53 ∈ zT := zmem 586 (by decide +kernel) rfl
theorem zw_587 : Cond.code yJ9_min_7cf53 cJ9_min_7cf53 2 (some .int) ∈ zT := zmem 587 (by decide +kernel) rfl
theorem zw_588 : Cond.methodLink "SentRoads$Tape" 77 yX7_need ∈ zT := zmem 588 (by decide +kernel) rfl
theorem zw_589 : Cond.instanceMethod yX7_need ∈ zT := zmem 589 (by decide +kernel) rfl
theorem zw_590 : Cond.selects "SentRoads$Tape" yX7_need yX7_need ∈ zT := zmem 590 (by decide +kernel) rfl
theorem zw_591 : Cond.code yX7_need cX7_need 2 none ∈ zT := zmem 591 (by decide +kernel) rfl
theorem zw_592 : Cond.methodLink "SentRoads$Tape" 80 yJ9_max_7cf53 ∈ zT := zmem 592 (by decide +kernel) rfl
theorem zw_593 : Cond.methodLink "SentRoads$Tape" 85 yX0_tell ∈ zT := zmem 593 (by decide +kernel) rfl
theorem zw_594 : Cond.methodLink "SentRoads$Tape" 67 yX7_readPaper ∈ zT := zmem 594 (by decide +kernel) rfl
theorem zw_595 : Cond.instanceMethod yX7_readPaper ∈ zT := zmem 595 (by decide +kernel) rfl
theorem zw_596 : Cond.selects "SentRoads$Tape" yX7_readPaper yX7_readPaper ∈ zT := zmem 596 (by decide +kernel) rfl
theorem zw_597 : Cond.code yX7_readPaper cX7_readPaper 9 none ∈ zT := zmem 597 (by decide +kernel) rfl
theorem zw_599 : Cond.methodLink "SentRoads$Tape" 91 yX7_readLetters ∈ zT := zmem 599 (by decide +kernel) rfl
theorem zw_600 : Cond.instanceMethod yX7_readLetters ∈ zT := zmem 600 (by decide +kernel) rfl
theorem zw_601 : Cond.selects "SentRoads$Tape" yX7_readLetters yX7_readLetters ∈ zT := zmem 601 (by decide +kernel) rfl
theorem zw_602 : Cond.code yX7_readLetters cX7_readLetters 8 (some .int) ∈ zT := zmem 602 (by decide +kernel) rfl
theorem zw_603 : Cond.methodLink "SentRoads$Tape" 117 yJ0_length_8abf5 ∈ zT := zmem 603 (by decide +kernel) rfl
theorem zw_604 : Cond.instanceMethod yJ0_length_8abf5 ∈ zT := zmem 604 (by decide +kernel) rfl
theorem zw_605 : Cond.selects "java/lang/String" yJ0_length_8abf5 yJ0_length_8abf5 ∈ zT := zmem 605 (by decide +kernel) rfl
theorem zw_606 : Cond.code yJ0_length_8abf5 cJ0_length_8abf5 1 (some .int) ∈ zT := zmem 606 (by decide +kernel) rfl
theorem zw_607 : Cond.methodLink "java/lang/String" 335 yJ0_coder_7d493 ∈ zT := zmem 607 (by decide +kernel) rfl
theorem zw_608 : Cond.instanceMethod yJ0_coder_7d493 ∈ zT := zmem 608 (by decide +kernel) rfl
theorem zw_609 : Cond.selects "java/lang/String" yJ0_coder_7d493 yJ0_coder_7d493 ∈ zT := zmem 609 (by decide +kernel) rfl
theorem zw_610 : Cond.code yJ0_coder_7d493 cJ0_coder_7d493 1 (some .byte) ∈ zT := zmem 610 (by decide +kernel) rfl
theorem zw_611 : Cond.fieldLink "java/lang/String" 38 "java/lang/String" "COMPACT_STRINGS" "Z" ∈ zT := zmem 611 (by decide +kernel) rfl
theorem zw_613 : Cond.methodLink "SentRoads$Tape" 121 yJ0_indexOf_0f7a4 ∈ zT := zmem 613 (by decide +kernel) rfl
theorem zw_614 : Cond.instanceMethod yJ0_indexOf_0f7a4 ∈ zT := zmem 614 (by decide +kernel) rfl
theorem zw_615 : Cond.selects "java/lang/String" yJ0_indexOf_0f7a4 yJ0_indexOf_0f7a4 ∈ zT := zmem 615 (by decide +kernel) rfl
theorem zw_616 : Cond.code yJ0_indexOf_0f7a4 cJ0_indexOf_0f7a4 2 (some .int) ∈ zT := zmem 616 (by decide +kernel) rfl
theorem zw_617 : Cond.methodLink "java/lang/String" 633 yJ0_indexOf_7cf53 ∈ zT := zmem 617 (by decide +kernel) rfl
theorem zw_618 : Cond.instanceMethod yJ0_indexOf_7cf53 ∈ zT := zmem 618 (by decide +kernel) rfl
theorem zw_619 : Cond.selects "java/lang/String" yJ0_indexOf_7cf53 yJ0_indexOf_7cf53 ∈ zT := zmem 619 (by decide +kernel) rfl
theorem zw_620 : Cond.code yJ0_indexOf_7cf53 cJ0_indexOf_7cf53 3 (some .int) ∈ zT := zmem 620 (by decide +kernel) rfl
theorem zw_621 : Cond.methodLink "java/lang/String" 492 yJ0_isLatin1_aae02 ∈ zT := zmem 621 (by decide +kernel) rfl
theorem zw_622 : Cond.instanceMethod yJ0_isLatin1_aae02 ∈ zT := zmem 622 (by decide +kernel) rfl
theorem zw_623 : Cond.selects "java/lang/String" yJ0_isLatin1_aae02 yJ0_isLatin1_aae02 ∈ zT := zmem 623 (by decide +kernel) rfl
theorem zw_624 : Cond.code yJ0_isLatin1_aae02 cJ0_isLatin1_aae02 1 (some .boolean) ∈ zT := zmem 624 (by decide +kernel) rfl
theorem zw_625 : Cond.methodLink "java/lang/String" 505 yJ0_length_8abf5 ∈ zT := zmem 625 (by decide +kernel) rfl
theorem zw_626 : Cond.methodLink "java/lang/String" 637 yJ1_indexOf_4cfef ∈ zT := zmem 626 (by decide +kernel) rfl
theorem zw_627 : Cond.static yJ1_indexOf_4cfef ∈ zT := zmem 627 (by decide +kernel) rfl
theorem zw_628 : Cond.code yJ1_indexOf_4cfef cJ1_indexOf_4cfef 4 (some .int) ∈ zT := zmem 628 (by decide +kernel) rfl
theorem zw_629 : Cond.methodLink "java/lang/StringLatin1" 88 yJ1_canEncode_9a6ad ∈ zT := zmem 629 (by decide +kernel) rfl
theorem zw_630 : Cond.static yJ1_canEncode_9a6ad ∈ zT := zmem 630 (by decide +kernel) rfl
theorem zw_631 : Cond.code yJ1_canEncode_9a6ad cJ1_canEncode_9a6ad 1 (some .boolean) ∈ zT := zmem 631 (by decide +kernel) rfl
theorem zw_632 : Cond.methodLink "java/lang/StringLatin1" 92 yJ9_max_7cf53 ∈ zT := zmem 632 (by decide +kernel) rfl
theorem zw_633 : Cond.methodLink "java/lang/StringLatin1" 38 yJ9_min_7cf53 ∈ zT := zmem 633 (by decide +kernel) rfl
theorem zw_634 : Cond.methodLink "java/lang/StringLatin1" 95 yJ1_indexOfChar_4cfef ∈ zT := zmem 634 (by decide +kernel) rfl
theorem zw_635 : Cond.static yJ1_indexOfChar_4cfef ∈ zT := zmem 635 (by decide +kernel) rfl
theorem zw_636 : Cond.code yJ1_indexOfChar_4cfef cJ1_indexOfChar_4cfef 6 (some .int) ∈ zT := zmem 636 (by decide +kernel) rfl
theorem zw_637 : Cond.methodLink "java/lang/String" 640 yJ2_indexOf_4cfef ∈ zT := zmem 637 (by decide +kernel) rfl
theorem zw_638 : Cond.static yJ2_indexOf_4cfef ∈ zT := zmem 638 (by decide +kernel) rfl
theorem zw_639 : Cond.code yJ2_indexOf_4cfef cJ2_indexOf_4cfef 4 (some .int) ∈ zT := zmem 639 (by decide +kernel) rfl
theorem zw_640 : Cond.methodLink "java/lang/StringUTF16" 224 yJ9_max_7cf53 ∈ zT := zmem 640 (by decide +kernel) rfl
theorem zw_641 : Cond.methodLink "java/lang/StringUTF16" 183 yJ9_min_7cf53 ∈ zT := zmem 641 (by decide +kernel) rfl
theorem zw_642 : Cond.constant "java/lang/StringUTF16" 227 (65536 : Int32) ∈ zT := zmem 642 (by decide +kernel) rfl
theorem zw_643 : Cond.methodLink "java/lang/StringUTF16" 228 yJ2_indexOfChar_4cfef ∈ zT := zmem 643 (by decide +kernel) rfl
theorem zw_644 : Cond.static yJ2_indexOfChar_4cfef ∈ zT := zmem 644 (by decide +kernel) rfl
theorem zw_645 : Cond.code yJ2_indexOfChar_4cfef cJ2_indexOfChar_4cfef 4 (some .int) ∈ zT := zmem 645 (by decide +kernel) rfl
theorem zw_646 : Cond.methodLink "java/lang/StringUTF16" 96 yJ2_checkBoundsBeginEnd_d044e ∈ zT := zmem 646 (by decide +kernel) rfl
theorem zw_647 : Cond.static yJ2_checkBoundsBeginEnd_d044e ∈ zT := zmem 647 (by decide +kernel) rfl
theorem zw_648 : Cond.code yJ2_checkBoundsBeginEnd_d044e cJ2_checkBoundsBeginEnd_d044e 3 none ∈ zT := zmem 648 (by decide +kernel) rfl
theorem zw_649 : Cond.methodLink "java/lang/StringUTF16" 48 yJ2_length_9d52b ∈ zT := zmem 649 (by decide +kernel) rfl
theorem zw_650 : Cond.static yJ2_length_9d52b ∈ zT := zmem 650 (by decide +kernel) rfl
theorem zw_651 : Cond.code yJ2_length_9d52b cJ2_length_9d52b 1 (some .int) ∈ zT := zmem 651 (by decide +kernel) rfl
theorem zw_652 : Cond.methodLink "java/lang/StringUTF16" 241 yJ0_checkBoundsBeginEnd_23922 ∈ zT := zmem 652 (by decide +kernel) rfl
theorem zw_653 : Cond.static yJ0_checkBoundsBeginEnd_23922 ∈ zT := zmem 653 (by decide +kernel) rfl
theorem zw_654 : Cond.code yJ0_checkBoundsBeginEnd_23922 cJ0_checkBoundsBeginEnd_23922 3 none ∈ zT := zmem 654 (by decide +kernel) rfl
theorem zw_655 : Cond.fieldLink "java/lang/String" 1053 "jdk/internal/util/Preconditions" "SIOOBE_FORMATTER" "Ljava/util/function/BiFunction;" ∈ zT := zmem 655 (by decide +kernel) rfl
theorem zw_657 : Cond.methodLink "java/lang/String" 1062 yJ3_checkFromToIndex_8c36e ∈ zT := zmem 657 (by decide +kernel) rfl
theorem zw_658 : Cond.static yJ3_checkFromToIndex_8c36e ∈ zT := zmem 658 (by decide +kernel) rfl
theorem zw_659 : Cond.code yJ3_checkFromToIndex_8c36e cJ3_checkFromToIndex_8c36e 4 (some .int) ∈ zT := zmem 659 (by decide +kernel) rfl
theorem zw_660 : Cond.methodLink "java/lang/StringUTF16" 244 yJ2_indexOfCharUnsafe_4cfef ∈ zT := zmem 660 (by decide +kernel) rfl
theorem zw_661 : Cond.static yJ2_indexOfCharUnsafe_4cfef ∈ zT := zmem 661 (by decide +kernel) rfl
theorem zw_662 : Cond.code yJ2_indexOfCharUnsafe_4cfef cJ2_indexOfCharUnsafe_4cfef 5 (some .int) ∈ zT := zmem 662 (by decide +kernel) rfl
theorem zw_663 : Cond.methodLink "java/lang/StringUTF16" 71 yJ2_getChar_3b067 ∈ zT := zmem 663 (by decide +kernel) rfl
theorem zw_664 : Cond.static yJ2_getChar_3b067 ∈ zT := zmem 664 (by decide +kernel) rfl
theorem zw_665 : Cond.code yJ2_getChar_3b067 cJ2_getChar_3b067 2 (some .char) ∈ zT := zmem 665 (by decide +kernel) rfl
theorem zw_666 : Cond.fieldLink "java/lang/StringUTF16" 44 "java/lang/StringUTF16" "$assertionsDisabled" "Z" ∈ zT := zmem 666 (by decide +kernel) rfl
theorem zw_668 : Cond.fieldLink "java/lang/StringUTF16" 59 "java/lang/StringUTF16" "HI_BYTE_SHIFT" "I" ∈ zT := zmem 668 (by decide +kernel) rfl
theorem zw_670 : Cond.fieldLink "java/lang/StringUTF16" 63 "java/lang/StringUTF16" "LO_BYTE_SHIFT" "I" ∈ zT := zmem 670 (by decide +kernel) rfl
theorem zw_672 : Cond.methodLink "java/lang/StringUTF16" 232 yJ2_indexOfSupplementary_4cfef ∈ zT := zmem 672 (by decide +kernel) rfl
theorem zw_673 : Cond.static yJ2_indexOfSupplementary_4cfef ∈ zT := zmem 673 (by decide +kernel) rfl
theorem zw_674 : Cond.code yJ2_indexOfSupplementary_4cfef cJ2_indexOfSupplementary_4cfef 7 (some .int) ∈ zT := zmem 674 (by decide +kernel) rfl
theorem zw_675 : Cond.methodLink "java/lang/StringUTF16" 164 yJ11_isValidCodePoint_9a6ad ∈ zT := zmem 675 (by decide +kernel) rfl
theorem zw_676 : Cond.static yJ11_isValidCodePoint_9a6ad ∈ zT := zmem 676 (by decide +kernel) rfl
theorem zw_677 : Cond.code yJ11_isValidCodePoint_9a6ad cJ11_isValidCodePoint_9a6ad 2 (some .boolean) ∈ zT := zmem 677 (by decide +kernel) rfl
theorem zw_678 : Cond.methodLink "java/lang/StringUTF16" 157 yJ11_highSurrogate_5068e ∈ zT := zmem 678 (by decide +kernel) rfl
theorem zw_679 : Cond.static yJ11_highSurrogate_5068e ∈ zT := zmem 679 (by decide +kernel) rfl
theorem zw_680 : Cond.code yJ11_highSurrogate_5068e cJ11_highSurrogate_5068e 1 (some .char) ∈ zT := zmem 680 (by decide +kernel) rfl
theorem zw_681 : Cond.constant "java/lang/Character" 110 (55232 : Int32) ∈ zT := zmem 681 (by decide +kernel) rfl
theorem zw_682 : Cond.methodLink "java/lang/StringUTF16" 161 yJ11_lowSurrogate_5068e ∈ zT := zmem 682 (by decide +kernel) rfl
theorem zw_683 : Cond.static yJ11_lowSurrogate_5068e ∈ zT := zmem 683 (by decide +kernel) rfl
theorem zw_684 : Cond.code yJ11_lowSurrogate_5068e cJ11_lowSurrogate_5068e 1 (some .char) ∈ zT := zmem 684 (by decide +kernel) rfl
theorem zw_685 : Cond.constant "java/lang/Character" 76 (56320 : Int32) ∈ zT := zmem 685 (by decide +kernel) rfl
theorem zw_686 : Cond.methodLink "SentRoads$Tape" 95 yX7_readPromises ∈ zT := zmem 686 (by decide +kernel) rfl
theorem zw_687 : Cond.instanceMethod yX7_readPromises ∈ zT := zmem 687 (by decide +kernel) rfl
theorem zw_688 : Cond.selects "SentRoads$Tape" yX7_readPromises yX7_readPromises ∈ zT := zmem 688 (by decide +kernel) rfl
theorem zw_689 : Cond.code yX7_readPromises cX7_readPromises 2 (some .int) ∈ zT := zmem 689 (by decide +kernel) rfl
theorem zw_691 : Cond.methodLink "SentRoads$Tape" 98 yX4_lead ∈ zT := zmem 691 (by decide +kernel) rfl
theorem zw_692 : Cond.methodLink "SentRoads$Tape" 102 yX4_become ∈ zT := zmem 692 (by decide +kernel) rfl
theorem zw_693 : Cond.methodLink "SentRoads$Tape" 106 yX4_rule ∈ zT := zmem 693 (by decide +kernel) rfl
theorem zw_694 : Cond.methodLink "SentRoads" 124 yX0_copy ∈ zT := zmem 694 (by decide +kernel) rfl
theorem zw_695 : Cond.instanceMethod yX0_copy ∈ zT := zmem 695 (by decide +kernel) rfl
theorem zw_696 : Cond.selects "SentRoads$Crime" yX0_copy yX0_copy ∈ zT := zmem 696 (by decide +kernel) rfl
theorem zw_697 : Cond.code yX0_copy cX0_copy 2 none ∈ zT := zmem 697 (by decide +kernel) rfl
theorem zw_698 : Cond.methodLink "SentRoads$Crime" 29 yX0_tell ∈ zT := zmem 698 (by decide +kernel) rfl
theorem zw_699 : Cond.methodLink "SentRoads" 129 yX4_copy ∈ zT := zmem 699 (by decide +kernel) rfl
theorem zw_700 : Cond.instanceMethod yX4_copy ∈ zT := zmem 700 (by decide +kernel) rfl
theorem zw_701 : Cond.selects "SentRoads$Paper" yX4_copy yX4_copy ∈ zT := zmem 701 (by decide +kernel) rfl
theorem zw_702 : Cond.code yX4_copy cX4_copy 2 none ∈ zT := zmem 702 (by decide +kernel) rfl
theorem zw_703 : Cond.methodLink "SentRoads$Paper" 36 yX4_lead ∈ zT := zmem 703 (by decide +kernel) rfl
theorem zw_704 : Cond.methodLink "SentRoads$Paper" 40 yX4_become ∈ zT := zmem 704 (by decide +kernel) rfl
theorem zw_705 : Cond.methodLink "SentRoads$Paper" 44 yX4_rule ∈ zT := zmem 705 (by decide +kernel) rfl
theorem zw_707 : Cond.methodLink "SentRoadsLaw" 49 yX9_crimeOf ∈ zT := zmem 707 (by decide +kernel) rfl
theorem zw_708 : Cond.instanceMethod yX9_crimeOf ∈ zT := zmem 708 (by decide +kernel) rfl
theorem zw_709 : Cond.selects "SentRoads" yX9_crimeOf yX9_crimeOf ∈ zT := zmem 709 (by decide +kernel) rfl
theorem zw_710 : Cond.code yX9_crimeOf cX9_crimeOf 4 (some .int) ∈ zT := zmem 710 (by decide +kernel) rfl
theorem zw_711 : Cond.methodLink "SentRoadsLaw" 54 yX9_paper ∈ zT := zmem 711 (by decide +kernel) rfl
theorem zw_712 : Cond.instanceMethod yX9_paper ∈ zT := zmem 712 (by decide +kernel) rfl
theorem zw_713 : Cond.selects "SentRoads" yX9_paper yX9_paper ∈ zT := zmem 713 (by decide +kernel) rfl
theorem zw_714 : Cond.code yX9_paper cX9_paper 4 (some .int) ∈ zT := zmem 714 (by decide +kernel) rfl
theorem zw_715 : Cond.methodLink "SentRoads" 153 yX9_isPaper ∈ zT := zmem 715 (by decide +kernel) rfl
theorem zw_717 : Cond.instanceMethod yX9_isPaper ∈ zT := zmem 717 (by decide +kernel) rfl
theorem zw_718 : Cond.code yX9_isPaper cX9_isPaper 2 (some .boolean) ∈ zT := zmem 718 (by decide +kernel) rfl
theorem zw_719 : Cond.methodLink "SentRoadsLaw" 58 yX9_bars ∈ zT := zmem 719 (by decide +kernel) rfl
theorem zw_720 : Cond.instanceMethod yX9_bars ∈ zT := zmem 720 (by decide +kernel) rfl
theorem zw_721 : Cond.selects "SentRoads" yX9_bars yX9_bars ∈ zT := zmem 721 (by decide +kernel) rfl
theorem zw_722 : Cond.code yX9_bars cX9_bars 4 (some .int) ∈ zT := zmem 722 (by decide +kernel) rfl
theorem zw_723 : Cond.methodLink "SentRoadsLaw" 62 yX9_matches ∈ zT := zmem 723 (by decide +kernel) rfl
theorem zw_724 : Cond.instanceMethod yX9_matches ∈ zT := zmem 724 (by decide +kernel) rfl
theorem zw_725 : Cond.selects "SentRoads" yX9_matches yX9_matches ∈ zT := zmem 725 (by decide +kernel) rfl
theorem zw_726 : Cond.code yX9_matches cX9_matches 5 (some .int) ∈ zT := zmem 726 (by decide +kernel) rfl
theorem zw_727 : Cond.methodLink "SentRoads" 179 yX9_isDeed ∈ zT := zmem 727 (by decide +kernel) rfl
theorem zw_729 : Cond.instanceMethod yX9_isDeed ∈ zT := zmem 729 (by decide +kernel) rfl
theorem zw_730 : Cond.code yX9_isDeed cX9_isDeed 2 (some .boolean) ∈ zT := zmem 730 (by decide +kernel) rfl
theorem zw_731 : Cond.methodLink "SentRoadsLaw" 67 yX9_yearsOf ∈ zT := zmem 731 (by decide +kernel) rfl
theorem zw_732 : Cond.instanceMethod yX9_yearsOf ∈ zT := zmem 732 (by decide +kernel) rfl
theorem zw_733 : Cond.selects "SentRoads" yX9_yearsOf yX9_yearsOf ∈ zT := zmem 733 (by decide +kernel) rfl
theorem zw_734 : Cond.code yX9_yearsOf cX9_yearsOf 5 (some .int) ∈ zT := zmem 734 (by decide +kernel) rfl
theorem zw_735 : Cond.methodLink "SentRoadsLaw" 71 yX9_shows ∈ zT := zmem 735 (by decide +kernel) rfl
theorem zw_736 : Cond.instanceMethod yX9_shows ∈ zT := zmem 736 (by decide +kernel) rfl
theorem zw_737 : Cond.selects "SentRoads" yX9_shows yX9_shows ∈ zT := zmem 737 (by decide +kernel) rfl
theorem zw_738 : Cond.code yX9_shows cX9_shows 8 (some .int) ∈ zT := zmem 738 (by decide +kernel) rfl
theorem zw_739 : Cond.methodLink "SentRoads" 195 yX9_isSheet ∈ zT := zmem 739 (by decide +kernel) rfl
theorem zw_740 : Cond.static yX9_isSheet ∈ zT := zmem 740 (by decide +kernel) rfl
theorem zw_741 : Cond.code yX9_isSheet cX9_isSheet 1 (some .boolean) ∈ zT := zmem 741 (by decide +kernel) rfl
theorem zw_742 : Cond.methodLink "SentRoads" 198 yX9_isLane ∈ zT := zmem 742 (by decide +kernel) rfl
theorem zw_743 : Cond.static yX9_isLane ∈ zT := zmem 743 (by decide +kernel) rfl
theorem zw_744 : Cond.code yX9_isLane cX9_isLane 1 (some .boolean) ∈ zT := zmem 744 (by decide +kernel) rfl
theorem zw_745 : Cond.methodLink "SentRoads" 201 yX6_refuse ∈ zT := zmem 745 (by decide +kernel) rfl
theorem zw_746 : Cond.instanceMethod yX6_refuse ∈ zT := zmem 746 (by decide +kernel) rfl
theorem zw_747 : Cond.selects "SentRoads$Sheet" yX6_refuse yX6_refuse ∈ zT := zmem 747 (by decide +kernel) rfl
theorem zw_748 : Cond.code yX6_refuse cX6_refuse 2 (some .int) ∈ zT := zmem 748 (by decide +kernel) rfl
theorem zw_749 : Cond.methodLink "SentRoads" 210 yX6_marksFrom ∈ zT := zmem 749 (by decide +kernel) rfl
theorem zw_750 : Cond.instanceMethod yX6_marksFrom ∈ zT := zmem 750 (by decide +kernel) rfl
theorem zw_751 : Cond.selects "SentRoads$Sheet" yX6_marksFrom yX6_marksFrom ∈ zT := zmem 751 (by decide +kernel) rfl
theorem zw_752 : Cond.code yX6_marksFrom cX6_marksFrom 4 (some .int) ∈ zT := zmem 752 (by decide +kernel) rfl
theorem zw_753 : Cond.methodLink "SentRoads" 213 yX8_learnAgain ∈ zT := zmem 753 (by decide +kernel) rfl
theorem zw_754 : Cond.methodLink "SentRoadsLaw" 75 yX9_count ∈ zT := zmem 754 (by decide +kernel) rfl
theorem zw_755 : Cond.instanceMethod yX9_count ∈ zT := zmem 755 (by decide +kernel) rfl
theorem zw_756 : Cond.selects "SentRoads" yX9_count yX9_count ∈ zT := zmem 756 (by decide +kernel) rfl
theorem zw_757 : Cond.code yX9_count cX9_count 2 (some .int) ∈ zT := zmem 757 (by decide +kernel) rfl
theorem zw_758 : Cond.methodLink "SentRoadsLaw" 80 yX9_man ∈ zT := zmem 758 (by decide +kernel) rfl
theorem zw_759 : Cond.instanceMethod yX9_man ∈ zT := zmem 759 (by decide +kernel) rfl
theorem zw_760 : Cond.selects "SentRoads" yX9_man yX9_man ∈ zT := zmem 760 (by decide +kernel) rfl
theorem zw_761 : Cond.code yX9_man cX9_man 4 (some .int) ∈ zT := zmem 761 (by decide +kernel) rfl
theorem zw_762 : Cond.methodLink "SentRoads" 235 yX3_sit ∈ zT := zmem 762 (by decide +kernel) rfl
theorem zw_763 : Cond.instanceMethod yX3_sit ∈ zT := zmem 763 (by decide +kernel) rfl
theorem zw_764 : Cond.selects "SentRoads$Man" yX3_sit yX3_sit ∈ zT := zmem 764 (by decide +kernel) rfl
theorem zw_765 : Cond.code yX3_sit cX3_sit 2 none ∈ zT := zmem 765 (by decide +kernel) rfl
theorem zw_766 : Cond.methodLink "SentRoadsLaw" 84 yX9_judged ∈ zT := zmem 766 (by decide +kernel) rfl
theorem zw_767 : Cond.instanceMethod yX9_judged ∈ zT := zmem 767 (by decide +kernel) rfl
theorem zw_768 : Cond.selects "SentRoads" yX9_judged yX9_judged ∈ zT := zmem 768 (by decide +kernel) rfl
theorem zw_769 : Cond.code yX9_judged cX9_judged 4 (some .int) ∈ zT := zmem 769 (by decide +kernel) rfl
theorem zw_770 : Cond.methodLink "SentRoadsLaw" 89 yX9_bound ∈ zT := zmem 770 (by decide +kernel) rfl
theorem zw_771 : Cond.instanceMethod yX9_bound ∈ zT := zmem 771 (by decide +kernel) rfl
theorem zw_772 : Cond.selects "SentRoads" yX9_bound yX9_bound ∈ zT := zmem 772 (by decide +kernel) rfl
theorem zw_773 : Cond.code yX9_bound cX9_bound 2 (some .int) ∈ zT := zmem 773 (by decide +kernel) rfl
theorem zw_774 : Cond.methodLink "SentRoads" 252 yX8_allDeeds ∈ zT := zmem 774 (by decide +kernel) rfl
theorem zw_775 : Cond.instanceMethod yX8_allDeeds ∈ zT := zmem 775 (by decide +kernel) rfl
theorem zw_776 : Cond.selects "SentRoads$World" yX8_allDeeds yX8_allDeeds ∈ zT := zmem 776 (by decide +kernel) rfl
theorem zw_777 : Cond.code yX8_allDeeds cX8_allDeeds 1 (some .int) ∈ zT := zmem 777 (by decide +kernel) rfl
theorem zw_778 : Cond.methodLink "SentRoadsLaw" 93 yX9_covers ∈ zT := zmem 778 (by decide +kernel) rfl
theorem zw_779 : Cond.instanceMethod yX9_covers ∈ zT := zmem 779 (by decide +kernel) rfl
theorem zw_780 : Cond.selects "SentRoads" yX9_covers yX9_covers ∈ zT := zmem 780 (by decide +kernel) rfl
theorem zw_781 : Cond.code yX9_covers cX9_covers 2 (some .int) ∈ zT := zmem 781 (by decide +kernel) rfl
theorem zw_782 : Cond.methodLink "SentRoads" 255 yX8_coveredBy ∈ zT := zmem 782 (by decide +kernel) rfl
theorem zw_783 : Cond.instanceMethod yX8_coveredBy ∈ zT := zmem 783 (by decide +kernel) rfl
theorem zw_784 : Cond.selects "SentRoads$World" yX8_coveredBy yX8_coveredBy ∈ zT := zmem 784 (by decide +kernel) rfl
theorem zw_785 : Cond.code yX8_coveredBy cX8_coveredBy 4 (some .int) ∈ zT := zmem 785 (by decide +kernel) rfl
theorem zw_786 : Cond.methodLink "SentRoads$World" 100 yX4_isFor ∈ zT := zmem 786 (by decide +kernel) rfl
theorem zw_787 : Cond.instanceMethod yX4_isFor ∈ zT := zmem 787 (by decide +kernel) rfl
theorem zw_788 : Cond.selects "SentRoads$Paper" yX4_isFor yX4_isFor ∈ zT := zmem 788 (by decide +kernel) rfl
theorem zw_789 : Cond.code yX4_isFor cX4_isFor 2 (some .boolean) ∈ zT := zmem 789 (by decide +kernel) rfl
theorem zw_790 : Cond.methodLink "SentRoadsLaw" 97 yX9_lets ∈ zT := zmem 790 (by decide +kernel) rfl
theorem zw_791 : Cond.instanceMethod yX9_lets ∈ zT := zmem 791 (by decide +kernel) rfl
theorem zw_792 : Cond.selects "SentRoads" yX9_lets yX9_lets ∈ zT := zmem 792 (by decide +kernel) rfl
theorem zw_793 : Cond.code yX9_lets cX9_lets 3 (some .int) ∈ zT := zmem 793 (by decide +kernel) rfl
theorem zw_794 : Cond.methodLink "SentRoads" 259 yX8_weigh ∈ zT := zmem 794 (by decide +kernel) rfl
theorem zw_795 : Cond.instanceMethod yX8_weigh ∈ zT := zmem 795 (by decide +kernel) rfl
theorem zw_796 : Cond.selects "SentRoads$World" yX8_weigh yX8_weigh ∈ zT := zmem 796 (by decide +kernel) rfl
theorem zw_797 : Cond.code yX8_weigh cX8_weigh 4 none ∈ zT := zmem 797 (by decide +kernel) rfl
theorem zw_798 : Cond.methodLink "SentRoads$World" 143 yX8_barsAgainst ∈ zT := zmem 798 (by decide +kernel) rfl
theorem zw_799 : Cond.instanceMethod yX8_barsAgainst ∈ zT := zmem 799 (by decide +kernel) rfl
theorem zw_800 : Cond.selects "SentRoads$World" yX8_barsAgainst yX8_barsAgainst ∈ zT := zmem 800 (by decide +kernel) rfl
theorem zw_801 : Cond.code yX8_barsAgainst cX8_barsAgainst 4 (some .int) ∈ zT := zmem 801 (by decide +kernel) rfl
theorem zw_802 : Cond.methodLink "SentRoads$World" 120 yX1_isDeadly ∈ zT := zmem 802 (by decide +kernel) rfl
theorem zw_803 : Cond.instanceMethod yX1_isDeadly ∈ zT := zmem 803 (by decide +kernel) rfl
theorem zw_804 : Cond.selects "SentRoads$Deed" yX1_isDeadly yX1_isDeadly ∈ zT := zmem 804 (by decide +kernel) rfl
theorem zw_805 : Cond.code yX1_isDeadly cX1_isDeadly 2 (some .boolean) ∈ zT := zmem 805 (by decide +kernel) rfl
theorem zw_806 : Cond.methodLink "SentRoads$World" 123 yX4_pledges ∈ zT := zmem 806 (by decide +kernel) rfl
theorem zw_807 : Cond.instanceMethod yX4_pledges ∈ zT := zmem 807 (by decide +kernel) rfl
theorem zw_808 : Cond.selects "SentRoads$Paper" yX4_pledges yX4_pledges ∈ zT := zmem 808 (by decide +kernel) rfl
theorem zw_809 : Cond.code yX4_pledges cX4_pledges 2 (some .boolean) ∈ zT := zmem 809 (by decide +kernel) rfl
theorem zw_810 : Cond.methodLink "SentRoads" 262 yX3_goesBy ∈ zT := zmem 810 (by decide +kernel) rfl
theorem zw_811 : Cond.instanceMethod yX3_goesBy ∈ zT := zmem 811 (by decide +kernel) rfl
theorem zw_812 : Cond.selects "SentRoads$Man" yX3_goesBy yX3_goesBy ∈ zT := zmem 812 (by decide +kernel) rfl
theorem zw_813 : Cond.code yX3_goesBy cX3_goesBy 3 (some .int) ∈ zT := zmem 813 (by decide +kernel) rfl
theorem zw_814 : Cond.methodLink "SentRoads$Man" 49 yX4_pledges ∈ zT := zmem 814 (by decide +kernel) rfl
theorem zw_815 : Cond.methodLink "SentRoadsLaw" 101 yX9_barred ∈ zT := zmem 815 (by decide +kernel) rfl
theorem zw_816 : Cond.instanceMethod yX9_barred ∈ zT := zmem 816 (by decide +kernel) rfl
theorem zw_817 : Cond.selects "SentRoads" yX9_barred yX9_barred ∈ zT := zmem 817 (by decide +kernel) rfl
theorem zw_818 : Cond.code yX9_barred cX9_barred 3 (some .int) ∈ zT := zmem 818 (by decide +kernel) rfl
theorem zw_819 : Cond.methodLink "SentRoads" 265 yX8_barsAgainst ∈ zT := zmem 819 (by decide +kernel) rfl
theorem zw_820 : Cond.methodLink "SentRoadsLaw" 105 yX9_send ∈ zT := zmem 820 (by decide +kernel) rfl
theorem zw_821 : Cond.instanceMethod yX9_send ∈ zT := zmem 821 (by decide +kernel) rfl
theorem zw_822 : Cond.selects "SentRoads" yX9_send yX9_send ∈ zT := zmem 822 (by decide +kernel) rfl
theorem zw_823 : Cond.code yX9_send cX9_send 3 (some .int) ∈ zT := zmem 823 (by decide +kernel) rfl
theorem zw_824 : Cond.methodLink "SentRoads" 269 yX9_lets ∈ zT := zmem 824 (by decide +kernel) rfl
theorem zw_825 : Cond.methodLink "SentRoads" 272 yX3_go ∈ zT := zmem 825 (by decide +kernel) rfl
theorem zw_826 : Cond.instanceMethod yX3_go ∈ zT := zmem 826 (by decide +kernel) rfl
theorem zw_827 : Cond.selects "SentRoads$Man" yX3_go yX3_go ∈ zT := zmem 827 (by decide +kernel) rfl
theorem zw_828 : Cond.code yX3_go cX3_go 3 none ∈ zT := zmem 828 (by decide +kernel) rfl
theorem zw_829 : Cond.methodLink "SentRoadsLaw" 109 yX9_tried ∈ zT := zmem 829 (by decide +kernel) rfl
theorem zw_830 : Cond.instanceMethod yX9_tried ∈ zT := zmem 830 (by decide +kernel) rfl
theorem zw_831 : Cond.selects "SentRoads" yX9_tried yX9_tried ∈ zT := zmem 831 (by decide +kernel) rfl
theorem zw_832 : Cond.code yX9_tried cX9_tried 1 (some .int) ∈ zT := zmem 832 (by decide +kernel) rfl
theorem zw_833 : Cond.methodLink "SentRoads" 276 yX8_triedBy ∈ zT := zmem 833 (by decide +kernel) rfl
theorem zw_834 : Cond.instanceMethod yX8_triedBy ∈ zT := zmem 834 (by decide +kernel) rfl
theorem zw_835 : Cond.selects "SentRoads$World" yX8_triedBy yX8_triedBy ∈ zT := zmem 835 (by decide +kernel) rfl
theorem zw_836 : Cond.code yX8_triedBy cX8_triedBy 4 (some .int) ∈ zT := zmem 836 (by decide +kernel) rfl
theorem zw_837 : Cond.methodLink "SentRoads$World" 153 yX1_isCrime ∈ zT := zmem 837 (by decide +kernel) rfl
theorem zw_838 : Cond.instanceMethod yX1_isCrime ∈ zT := zmem 838 (by decide +kernel) rfl
theorem zw_839 : Cond.selects "SentRoads$Deed" yX1_isCrime yX1_isCrime ∈ zT := zmem 839 (by decide +kernel) rfl
theorem zw_840 : Cond.code yX1_isCrime cX1_isCrime 2 (some .boolean) ∈ zT := zmem 840 (by decide +kernel) rfl
theorem zw_841 : Cond.methodLink "SentRoadsLaw" 113 yX9_road ∈ zT := zmem 841 (by decide +kernel) rfl
theorem zw_842 : Cond.instanceMethod yX9_road ∈ zT := zmem 842 (by decide +kernel) rfl
theorem zw_843 : Cond.selects "SentRoads" yX9_road yX9_road ∈ zT := zmem 843 (by decide +kernel) rfl
theorem zw_844 : Cond.code yX9_road cX9_road 6 (some .int) ∈ zT := zmem 844 (by decide +kernel) rfl
theorem zw_845 : Cond.methodLink "SentRoads" 280 yX8_weighAll ∈ zT := zmem 845 (by decide +kernel) rfl
theorem zw_846 : Cond.instanceMethod yX8_weighAll ∈ zT := zmem 846 (by decide +kernel) rfl
theorem zw_847 : Cond.selects "SentRoads$World" yX8_weighAll yX8_weighAll ∈ zT := zmem 847 (by decide +kernel) rfl
theorem zw_848 : Cond.code yX8_weighAll cX8_weighAll 2 none ∈ zT := zmem 848 (by decide +kernel) rfl
theorem zw_849 : Cond.methodLink "SentRoads$World" 147 yX8_weigh ∈ zT := zmem 849 (by decide +kernel) rfl
theorem zw_850 : Cond.methodLink "SentRoads" 283 yX5_find ∈ zT := zmem 850 (by decide +kernel) rfl
theorem zw_851 : Cond.instanceMethod yX5_find ∈ zT := zmem 851 (by decide +kernel) rfl
theorem zw_852 : Cond.selects "SentRoads$Roads" yX5_find yX5_find ∈ zT := zmem 852 (by decide +kernel) rfl
theorem zw_853 : Cond.code yX5_find cX5_find 4 (some .int) ∈ zT := zmem 853 (by decide +kernel) rfl
theorem zw_854 : Cond.methodLink "SentRoads$Roads" 35 yX5_begin ∈ zT := zmem 854 (by decide +kernel) rfl
theorem zw_855 : Cond.instanceMethod yX5_begin ∈ zT := zmem 855 (by decide +kernel) rfl
theorem zw_856 : Cond.selects "SentRoads$Roads" yX5_begin yX5_begin ∈ zT := zmem 856 (by decide +kernel) rfl
theorem zw_857 : Cond.code yX5_begin cX5_begin 1 none ∈ zT := zmem 857 (by decide +kernel) rfl
theorem zw_858 : Cond.methodLink "SentRoads$Roads" 42 yX5_placeWalker ∈ zT := zmem 858 (by decide +kernel) rfl
theorem zw_859 : Cond.instanceMethod yX5_placeWalker ∈ zT := zmem 859 (by decide +kernel) rfl
theorem zw_860 : Cond.selects "SentRoads$Roads" yX5_placeWalker yX5_placeWalker ∈ zT := zmem 860 (by decide +kernel) rfl
theorem zw_861 : Cond.code yX5_placeWalker cX5_placeWalker 2 none ∈ zT := zmem 861 (by decide +kernel) rfl
theorem zw_862 : Cond.methodLink "SentRoads$Roads" 64 yX3_stand ∈ zT := zmem 862 (by decide +kernel) rfl
theorem zw_863 : Cond.instanceMethod yX3_stand ∈ zT := zmem 863 (by decide +kernel) rfl
theorem zw_864 : Cond.selects "SentRoads$Man" yX3_stand yX3_stand ∈ zT := zmem 864 (by decide +kernel) rfl
theorem zw_865 : Cond.code yX3_stand cX3_stand 2 none ∈ zT := zmem 865 (by decide +kernel) rfl
theorem zw_866 : Cond.methodLink "SentRoads$Roads" 72 yX3_go ∈ zT := zmem 866 (by decide +kernel) rfl
theorem zw_867 : Cond.methodLink "SentRoads$Roads" 49 yX8_triedBy ∈ zT := zmem 867 (by decide +kernel) rfl
theorem zw_868 : Cond.methodLink "SentRoads$Roads" 55 yX5_spread ∈ zT := zmem 868 (by decide +kernel) rfl
theorem zw_869 : Cond.instanceMethod yX5_spread ∈ zT := zmem 869 (by decide +kernel) rfl
theorem zw_870 : Cond.selects "SentRoads$Roads" yX5_spread yX5_spread ∈ zT := zmem 870 (by decide +kernel) rfl
theorem zw_871 : Cond.code yX5_spread cX5_spread 5 none ∈ zT := zmem 871 (by decide +kernel) rfl
theorem zw_872 : Cond.methodLink "SentRoads$Roads" 79 yX3_goesBy ∈ zT := zmem 872 (by decide +kernel) rfl
theorem zw_873 : Cond.methodLink "SentRoads$Roads" 83 yX4_pledges ∈ zT := zmem 873 (by decide +kernel) rfl
theorem zw_874 : Cond.methodLink "SentRoads" 287 yX5_lengthTo ∈ zT := zmem 874 (by decide +kernel) rfl
theorem zw_875 : Cond.instanceMethod yX5_lengthTo ∈ zT := zmem 875 (by decide +kernel) rfl
theorem zw_876 : Cond.selects "SentRoads$Roads" yX5_lengthTo yX5_lengthTo ∈ zT := zmem 876 (by decide +kernel) rfl
theorem zw_877 : Cond.code yX5_lengthTo cX5_lengthTo 4 (some .int) ∈ zT := zmem 877 (by decide +kernel) rfl
theorem zw_878 : Cond.methodLink "SentRoads" 290 yX5_paperOn ∈ zT := zmem 878 (by decide +kernel) rfl
theorem zw_879 : Cond.instanceMethod yX5_paperOn ∈ zT := zmem 879 (by decide +kernel) rfl
theorem zw_880 : Cond.selects "SentRoads$Roads" yX5_paperOn yX5_paperOn ∈ zT := zmem 880 (by decide +kernel) rfl
theorem zw_881 : Cond.code yX5_paperOn cX5_paperOn 5 (some .int) ∈ zT := zmem 881 (by decide +kernel) rfl
theorem zw_882 : Cond.methodLink "SentRoadsLaw" 117 yX9_lands ∈ zT := zmem 882 (by decide +kernel) rfl
theorem zw_883 : Cond.instanceMethod yX9_lands ∈ zT := zmem 883 (by decide +kernel) rfl
theorem zw_884 : Cond.selects "SentRoads" yX9_lands yX9_lands ∈ zT := zmem 884 (by decide +kernel) rfl
theorem zw_885 : Cond.code yX9_lands cX9_lands 1 (some .int) ∈ zT := zmem 885 (by decide +kernel) rfl
theorem zw_886 : Cond.methodLink "SentRoads" 293 yX5_reach ∈ zT := zmem 886 (by decide +kernel) rfl
theorem zw_887 : Cond.instanceMethod yX5_reach ∈ zT := zmem 887 (by decide +kernel) rfl
theorem zw_888 : Cond.selects "SentRoads$Roads" yX5_reach yX5_reach ∈ zT := zmem 888 (by decide +kernel) rfl
theorem zw_889 : Cond.code yX5_reach cX5_reach 3 (some .int) ∈ zT := zmem 889 (by decide +kernel) rfl
theorem zw_890 : Cond.methodLink "SentRoadsLaw" 121 yX9_safe ∈ zT := zmem 890 (by decide +kernel) rfl
theorem zw_891 : Cond.instanceMethod yX9_safe ∈ zT := zmem 891 (by decide +kernel) rfl
theorem zw_892 : Cond.selects "SentRoads" yX9_safe yX9_safe ∈ zT := zmem 892 (by decide +kernel) rfl
theorem zw_893 : Cond.code yX9_safe cX9_safe 2 (some .int) ∈ zT := zmem 893 (by decide +kernel) rfl
theorem zw_894 : Cond.methodLink "SentRoads" 296 yX5_safeLands ∈ zT := zmem 894 (by decide +kernel) rfl
theorem zw_895 : Cond.instanceMethod yX5_safeLands ∈ zT := zmem 895 (by decide +kernel) rfl
theorem zw_896 : Cond.selects "SentRoads$Roads" yX5_safeLands yX5_safeLands ∈ zT := zmem 896 (by decide +kernel) rfl
theorem zw_897 : Cond.code yX5_safeLands cX5_safeLands 6 (some .int) ∈ zT := zmem 897 (by decide +kernel) rfl
theorem zw_898 : Cond.methodLink "SentRoads$Roads" 89 yX3_sit ∈ zT := zmem 898 (by decide +kernel) rfl
theorem zw_899 : Cond.methodLink "SentRoadsLaw" 125 yX9_demand ∈ zT := zmem 899 (by decide +kernel) rfl
theorem zw_900 : Cond.instanceMethod yX9_demand ∈ zT := zmem 900 (by decide +kernel) rfl
theorem zw_901 : Cond.selects "SentRoads" yX9_demand yX9_demand ∈ zT := zmem 901 (by decide +kernel) rfl
theorem zw_902 : Cond.code yX9_demand cX9_demand 4 (some .int) ∈ zT := zmem 902 (by decide +kernel) rfl
theorem zw_903 : Cond.methodLink "SentRoads" 304 yX2_tell ∈ zT := zmem 903 (by decide +kernel) rfl
theorem zw_904 : Cond.instanceMethod yX2_tell ∈ zT := zmem 904 (by decide +kernel) rfl
theorem zw_905 : Cond.selects "SentRoads$Demand" yX2_tell yX2_tell ∈ zT := zmem 905 (by decide +kernel) rfl
theorem zw_906 : Cond.code yX2_tell cX2_tell 4 none ∈ zT := zmem 906 (by decide +kernel) rfl
theorem zw_907 : Cond.methodLink "SentRoadsLaw" 129 yX9_ahead ∈ zT := zmem 907 (by decide +kernel) rfl
theorem zw_908 : Cond.instanceMethod yX9_ahead ∈ zT := zmem 908 (by decide +kernel) rfl
theorem zw_909 : Cond.selects "SentRoads" yX9_ahead yX9_ahead ∈ zT := zmem 909 (by decide +kernel) rfl
theorem zw_910 : Cond.code yX9_ahead cX9_ahead 3 (some .int) ∈ zT := zmem 910 (by decide +kernel) rfl
theorem zw_911 : Cond.methodLink "SentRoads" 308 yX8_weighDemands ∈ zT := zmem 911 (by decide +kernel) rfl
theorem zw_912 : Cond.instanceMethod yX8_weighDemands ∈ zT := zmem 912 (by decide +kernel) rfl
theorem zw_913 : Cond.selects "SentRoads$World" yX8_weighDemands yX8_weighDemands ∈ zT := zmem 913 (by decide +kernel) rfl
theorem zw_914 : Cond.code yX8_weighDemands cX8_weighDemands 4 none ∈ zT := zmem 914 (by decide +kernel) rfl
theorem zw_915 : Cond.methodLink "SentRoads$World" 157 yX8_letTo ∈ zT := zmem 915 (by decide +kernel) rfl
theorem zw_916 : Cond.instanceMethod yX8_letTo ∈ zT := zmem 916 (by decide +kernel) rfl
theorem zw_917 : Cond.selects "SentRoads$World" yX8_letTo yX8_letTo ∈ zT := zmem 917 (by decide +kernel) rfl
theorem zw_918 : Cond.code yX8_letTo cX8_letTo 4 (some .int) ∈ zT := zmem 918 (by decide +kernel) rfl
theorem zw_919 : Cond.methodLink "SentRoads$World" 180 yX3_goesBy ∈ zT := zmem 919 (by decide +kernel) rfl
theorem zw_920 : Cond.methodLink "SentRoads$World" 174 yJ9_max_7cf53 ∈ zT := zmem 920 (by decide +kernel) rfl
theorem zw_921 : Cond.methodLink "SentRoads" 314 yX8_placeOf ∈ zT := zmem 921 (by decide +kernel) rfl
theorem zw_922 : Cond.instanceMethod yX8_placeOf ∈ zT := zmem 922 (by decide +kernel) rfl
theorem zw_923 : Cond.selects "SentRoads$World" yX8_placeOf yX8_placeOf ∈ zT := zmem 923 (by decide +kernel) rfl
theorem zw_924 : Cond.code yX8_placeOf cX8_placeOf 5 (some .int) ∈ zT := zmem 924 (by decide +kernel) rfl
theorem zw_925 : Cond.methodLink "SentRoads$World" 184 yX2_order ∈ zT := zmem 925 (by decide +kernel) rfl
theorem zw_926 : Cond.instanceMethod yX2_order ∈ zT := zmem 926 (by decide +kernel) rfl
theorem zw_927 : Cond.selects "SentRoads$Demand" yX2_order yX2_order ∈ zT := zmem 927 (by decide +kernel) rfl
theorem zw_928 : Cond.code yX2_order cX2_order 2 (some .int) ∈ zT := zmem 928 (by decide +kernel) rfl
theorem zw_929 : Cond.methodLink "SentRoadsLaw" 133 yX9_promises ∈ zT := zmem 929 (by decide +kernel) rfl
theorem zw_930 : Cond.instanceMethod yX9_promises ∈ zT := zmem 930 (by decide +kernel) rfl
theorem zw_931 : Cond.selects "SentRoads" yX9_promises yX9_promises ∈ zT := zmem 931 (by decide +kernel) rfl
theorem zw_932 : Cond.code yX9_promises cX9_promises 6 (some .int) ∈ zT := zmem 932 (by decide +kernel) rfl
theorem zw_933 : Cond.methodLink "SentRoads" 317 yX9_isLess ∈ zT := zmem 933 (by decide +kernel) rfl
theorem zw_934 : Cond.static yX9_isLess ∈ zT := zmem 934 (by decide +kernel) rfl
theorem zw_935 : Cond.code yX9_isLess cX9_isLess 3 (some .boolean) ∈ zT := zmem 935 (by decide +kernel) rfl
theorem zw_936 : Cond.methodLink "SentRoads" 348 yJ6_bitCount_0f7a4 ∈ zT := zmem 936 (by decide +kernel) rfl
theorem zw_937 : Cond.static yJ6_bitCount_0f7a4 ∈ zT := zmem 937 (by decide +kernel) rfl
theorem zw_938 : Cond.code yJ6_bitCount_0f7a4 cJ6_bitCount_0f7a4 1 (some .int) ∈ zT := zmem 938 (by decide +kernel) rfl
theorem zw_939 : Cond.constant "java/lang/Integer" 265 (1431655765 : Int32) ∈ zT := zmem 939 (by decide +kernel) rfl
theorem zw_940 : Cond.constant "java/lang/Integer" 266 (858993459 : Int32) ∈ zT := zmem 940 (by decide +kernel) rfl
theorem zw_941 : Cond.constant "java/lang/Integer" 267 (252645135 : Int32) ∈ zT := zmem 941 (by decide +kernel) rfl
theorem zw_942 : Cond.methodLink "SentRoadsLaw" 137 yX9_mended ∈ zT := zmem 942 (by decide +kernel) rfl
theorem zw_943 : Cond.instanceMethod yX9_mended ∈ zT := zmem 943 (by decide +kernel) rfl
theorem zw_944 : Cond.selects "SentRoads" yX9_mended yX9_mended ∈ zT := zmem 944 (by decide +kernel) rfl
theorem zw_945 : Cond.code yX9_mended cX9_mended 3 (some .int) ∈ zT := zmem 945 (by decide +kernel) rfl
theorem zw_946 : Cond.methodLink "SentRoads" 321 yX8_weighAlone ∈ zT := zmem 946 (by decide +kernel) rfl
theorem zw_947 : Cond.instanceMethod yX8_weighAlone ∈ zT := zmem 947 (by decide +kernel) rfl
theorem zw_948 : Cond.selects "SentRoads$World" yX8_weighAlone yX8_weighAlone ∈ zT := zmem 948 (by decide +kernel) rfl
theorem zw_949 : Cond.code yX8_weighAlone cX8_weighAlone 4 none ∈ zT := zmem 949 (by decide +kernel) rfl
theorem zw_950 : Cond.methodLink "SentRoads" 324 yX5_fewestBars ∈ zT := zmem 950 (by decide +kernel) rfl
theorem zw_951 : Cond.instanceMethod yX5_fewestBars ∈ zT := zmem 951 (by decide +kernel) rfl
theorem zw_952 : Cond.selects "SentRoads$Roads" yX5_fewestBars yX5_fewestBars ∈ zT := zmem 952 (by decide +kernel) rfl
theorem zw_953 : Cond.code yX5_fewestBars cX5_fewestBars 6 (some .int) ∈ zT := zmem 953 (by decide +kernel) rfl
theorem zw_954 : Cond.methodLink "SentRoads$Roads" 92 yJ7_fill_53178 ∈ zT := zmem 954 (by decide +kernel) rfl
theorem zw_955 : Cond.methodLink "SentRoads$Roads" 98 yX5_relax ∈ zT := zmem 955 (by decide +kernel) rfl
theorem zw_956 : Cond.instanceMethod yX5_relax ∈ zT := zmem 956 (by decide +kernel) rfl
theorem zw_957 : Cond.selects "SentRoads$Roads" yX5_relax yX5_relax ∈ zT := zmem 957 (by decide +kernel) rfl
theorem zw_958 : Cond.code yX5_relax cX5_relax 7 (some .boolean) ∈ zT := zmem 958 (by decide +kernel) rfl
theorem zw_959 : Cond.methodLink "SentRoads$Roads" 124 yX8_barsAgainst ∈ zT := zmem 959 (by decide +kernel) rfl
theorem zw_960 : Cond.methodLink "SentRoads$Roads" 128 yJ6_bitCount_0f7a4 ∈ zT := zmem 960 (by decide +kernel) rfl
theorem zw_961 : Cond.methodLink "SentRoads$Roads" 105 yJ9_min_7cf53 ∈ zT := zmem 961 (by decide +kernel) rfl
theorem zw_962 : Cond.methodLink "SentRoads$Roads" 115 yX1_isCrime ∈ zT := zmem 962 (by decide +kernel) rfl
theorem zw_963 : Cond.methodLink "SentRoadsLaw" 141 yX9_part ∈ zT := zmem 963 (by decide +kernel) rfl
theorem zw_964 : Cond.instanceMethod yX9_part ∈ zT := zmem 964 (by decide +kernel) rfl
theorem zw_965 : Cond.selects "SentRoads" yX9_part yX9_part ∈ zT := zmem 965 (by decide +kernel) rfl
theorem zw_966 : Cond.code yX9_part cX9_part 8 (some .int) ∈ zT := zmem 966 (by decide +kernel) rfl
theorem zw_967 : Cond.methodLink "SentRoads" 327 yX8_landsWhereCrime ∈ zT := zmem 967 (by decide +kernel) rfl
theorem zw_968 : Cond.instanceMethod yX8_landsWhereCrime ∈ zT := zmem 968 (by decide +kernel) rfl
theorem zw_969 : Cond.selects "SentRoads$World" yX8_landsWhereCrime yX8_landsWhereCrime ∈ zT := zmem 969 (by decide +kernel) rfl
theorem zw_970 : Cond.code yX8_landsWhereCrime cX8_landsWhereCrime 4 (some .int) ∈ zT := zmem 970 (by decide +kernel) rfl
theorem zw_971 : Cond.methodLink "SentRoads$World" 96 yX0_isMarks ∈ zT := zmem 971 (by decide +kernel) rfl
theorem zw_972 : Cond.methodLink "SentRoadsLaw" 145 yX9_image ∈ zT := zmem 972 (by decide +kernel) rfl
theorem zw_973 : Cond.instanceMethod yX9_image ∈ zT := zmem 973 (by decide +kernel) rfl
theorem zw_974 : Cond.selects "SentRoads" yX9_image yX9_image ∈ zT := zmem 974 (by decide +kernel) rfl
theorem zw_975 : Cond.code yX9_image cX9_image 1 (some .int) ∈ zT := zmem 975 (by decide +kernel) rfl
theorem zw_976 : Cond.methodLink "SentRoads" 330 yX8_copy ∈ zT := zmem 976 (by decide +kernel) rfl
theorem zw_977 : Cond.instanceMethod yX8_copy ∈ zT := zmem 977 (by decide +kernel) rfl
theorem zw_978 : Cond.selects "SentRoads$World" yX8_copy yX8_copy ∈ zT := zmem 978 (by decide +kernel) rfl
theorem zw_979 : Cond.code yX8_copy cX8_copy 3 none ∈ zT := zmem 979 (by decide +kernel) rfl
theorem zw_980 : Cond.methodLink "SentRoads$World" 50 yX0_copy ∈ zT := zmem 980 (by decide +kernel) rfl
theorem zw_981 : Cond.methodLink "SentRoads$World" 57 yX1_copy ∈ zT := zmem 981 (by decide +kernel) rfl
theorem zw_982 : Cond.instanceMethod yX1_copy ∈ zT := zmem 982 (by decide +kernel) rfl
theorem zw_983 : Cond.selects "SentRoads$Deed" yX1_copy yX1_copy ∈ zT := zmem 983 (by decide +kernel) rfl
theorem zw_984 : Cond.code yX1_copy cX1_copy 2 none ∈ zT := zmem 984 (by decide +kernel) rfl
theorem zw_985 : Cond.methodLink "SentRoads$Deed" 35 yX1_tell ∈ zT := zmem 985 (by decide +kernel) rfl
theorem zw_986 : Cond.methodLink "SentRoads$World" 67 yX4_copy ∈ zT := zmem 986 (by decide +kernel) rfl
theorem zw_987 : Cond.methodLink "SentRoads$World" 81 yX2_tell ∈ zT := zmem 987 (by decide +kernel) rfl
theorem zw_988 : Cond.methodLink "SentRoads$World" 85 yX3_copy ∈ zT := zmem 988 (by decide +kernel) rfl
theorem zw_989 : Cond.instanceMethod yX3_copy ∈ zT := zmem 989 (by decide +kernel) rfl
theorem zw_990 : Cond.selects "SentRoads$Man" yX3_copy yX3_copy ∈ zT := zmem 990 (by decide +kernel) rfl
theorem zw_991 : Cond.code yX3_copy cX3_copy 2 none ∈ zT := zmem 991 (by decide +kernel) rfl
theorem zw_992 : Cond.methodLink "SentRoads$Man" 25 yX3_stand ∈ zT := zmem 992 (by decide +kernel) rfl
theorem zw_993 : Cond.methodLink "SentRoadsLaw" 149 yX9_restore ∈ zT := zmem 993 (by decide +kernel) rfl
theorem zw_994 : Cond.instanceMethod yX9_restore ∈ zT := zmem 994 (by decide +kernel) rfl
theorem zw_995 : Cond.selects "SentRoads" yX9_restore yX9_restore ∈ zT := zmem 995 (by decide +kernel) rfl
theorem zw_996 : Cond.code yX9_restore cX9_restore 1 (some .int) ∈ zT := zmem 996 (by decide +kernel) rfl
theorem zw_997 : Cond.methodLink "SentRoadsLaw" 153 yX9_sheet ∈ zT := zmem 997 (by decide +kernel) rfl
theorem zw_998 : Cond.instanceMethod yX9_sheet ∈ zT := zmem 998 (by decide +kernel) rfl
theorem zw_999 : Cond.selects "SentRoads" yX9_sheet yX9_sheet ∈ zT := zmem 999 (by decide +kernel) rfl
theorem zw_1000 : Cond.code yX9_sheet cX9_sheet 4 (some .int) ∈ zT := zmem 1000 (by decide +kernel) rfl
theorem zw_1001 : Cond.methodLink "SentRoads" 332 yX6_begin ∈ zT := zmem 1001 (by decide +kernel) rfl
theorem zw_1002 : Cond.instanceMethod yX6_begin ∈ zT := zmem 1002 (by decide +kernel) rfl
theorem zw_1003 : Cond.selects "SentRoads$Sheet" yX6_begin yX6_begin ∈ zT := zmem 1003 (by decide +kernel) rfl
theorem zw_1004 : Cond.code yX6_begin cX6_begin 3 none ∈ zT := zmem 1004 (by decide +kernel) rfl
theorem zw_1005 : Cond.methodLink "SentRoads$Sheet" 22 yJ7_fill_53178 ∈ zT := zmem 1005 (by decide +kernel) rfl
theorem zw_1006 : Cond.methodLink "SentRoadsLaw" 157 yX9_drop ∈ zT := zmem 1006 (by decide +kernel) rfl
theorem zw_1007 : Cond.instanceMethod yX9_drop ∈ zT := zmem 1007 (by decide +kernel) rfl
theorem zw_1008 : Cond.selects "SentRoads" yX9_drop yX9_drop ∈ zT := zmem 1008 (by decide +kernel) rfl
theorem zw_1009 : Cond.code yX9_drop cX9_drop 3 (some .int) ∈ zT := zmem 1009 (by decide +kernel) rfl
theorem zw_1010 : Cond.methodLink "SentRoadsLaw" 161 yX9_item ∈ zT := zmem 1010 (by decide +kernel) rfl
theorem zw_1011 : Cond.instanceMethod yX9_item ∈ zT := zmem 1011 (by decide +kernel) rfl
theorem zw_1012 : Cond.selects "SentRoads" yX9_item yX9_item ∈ zT := zmem 1012 (by decide +kernel) rfl
theorem zw_1013 : Cond.code yX9_item cX9_item 7 (some .int) ∈ zT := zmem 1013 (by decide +kernel) rfl
theorem zw_1014 : Cond.methodLink "SentRoads" 339 yX6_put ∈ zT := zmem 1014 (by decide +kernel) rfl
theorem zw_1015 : Cond.instanceMethod yX6_put ∈ zT := zmem 1015 (by decide +kernel) rfl
theorem zw_1016 : Cond.selects "SentRoads$Sheet" yX6_put yX6_put ∈ zT := zmem 1016 (by decide +kernel) rfl
theorem zw_1017 : Cond.code yX6_put cX6_put 3 none ∈ zT := zmem 1017 (by decide +kernel) rfl
theorem zw_1020 : Cond.methodLink "SentRoadsLaw" 12 yX10_init ∈ zT := zmem 1020 (by decide +kernel) rfl
theorem zw_1021 : Cond.instanceMethod yX10_init ∈ zT := zmem 1021 (by decide +kernel) rfl
theorem zw_1022 : Cond.code yX10_init cX10_init 2 none ∈ zT := zmem 1022 (by decide +kernel) rfl
theorem zw_1024 : Cond.methodLink "SentRoadsModel" 64 yX10_free ∈ zT := zmem 1024 (by decide +kernel) rfl
theorem zw_1026 : Cond.instanceMethod yX10_free ∈ zT := zmem 1026 (by decide +kernel) rfl
theorem zw_1027 : Cond.code yX10_free cX10_free 1 none ∈ zT := zmem 1027 (by decide +kernel) rfl
theorem zw_1028 : Cond.fieldLink "SentRoadsModel" 80 "SentRoadsModel" "crimes" "I" ∈ zT := zmem 1028 (by decide +kernel) rfl
theorem zw_1029 : Cond.fieldLink "SentRoadsModel" 7 "SentRoadsModel" "crime" "[I" ∈ zT := zmem 1029 (by decide +kernel) rfl
theorem zw_1030 : Cond.fieldLink "SentRoadsModel" 73 "SentRoadsModel" "deeds" "I" ∈ zT := zmem 1030 (by decide +kernel) rfl
theorem zw_1031 : Cond.fieldLink "SentRoadsModel" 13 "SentRoadsModel" "deed" "[I" ∈ zT := zmem 1031 (by decide +kernel) rfl
theorem zw_1032 : Cond.fieldLink "SentRoadsModel" 77 "SentRoadsModel" "papers" "I" ∈ zT := zmem 1032 (by decide +kernel) rfl
theorem zw_1033 : Cond.fieldLink "SentRoadsModel" 16 "SentRoadsModel" "paper" "[I" ∈ zT := zmem 1033 (by decide +kernel) rfl
theorem zw_1034 : Cond.fieldLink "SentRoadsModel" 126 "SentRoadsModel" "demands" "I" ∈ zT := zmem 1034 (by decide +kernel) rfl
theorem zw_1035 : Cond.fieldLink "SentRoadsModel" 19 "SentRoadsModel" "demand" "[I" ∈ zT := zmem 1035 (by decide +kernel) rfl
theorem zw_1036 : Cond.fieldLink "SentRoadsModel" 22 "SentRoadsModel" "man" "[I" ∈ zT := zmem 1036 (by decide +kernel) rfl
theorem zw_1037 : Cond.fieldLink "SentRoadsModel" 25 "SentRoadsModel" "open" "[I" ∈ zT := zmem 1037 (by decide +kernel) rfl
theorem zw_1038 : Cond.fieldLink "SentRoadsModel" 28 "SentRoadsModel" "before" "[I" ∈ zT := zmem 1038 (by decide +kernel) rfl
theorem zw_1039 : Cond.fieldLink "SentRoadsModel" 31 "SentRoadsModel" "byPaper" "[I" ∈ zT := zmem 1039 (by decide +kernel) rfl
theorem zw_1040 : Cond.fieldLink "SentRoadsModel" 34 "SentRoadsModel" "queue" "[I" ∈ zT := zmem 1040 (by decide +kernel) rfl
theorem zw_1041 : Cond.fieldLink "SentRoadsModel" 168 "SentRoadsModel" "queued" "I" ∈ zT := zmem 1041 (by decide +kernel) rfl
theorem zw_1042 : Cond.fieldLink "SentRoadsModel" 37 "SentRoadsModel" "cost" "[I" ∈ zT := zmem 1042 (by decide +kernel) rfl
theorem zw_1043 : Cond.fieldLink "SentRoadsModel" 40 "SentRoadsModel" "tape" "[I" ∈ zT := zmem 1043 (by decide +kernel) rfl
theorem zw_1044 : Cond.fieldLink "SentRoadsModel" 208 "SentRoadsModel" "taped" "I" ∈ zT := zmem 1044 (by decide +kernel) rfl
theorem zw_1045 : Cond.fieldLink "SentRoadsModel" 211 "SentRoadsModel" "at" "I" ∈ zT := zmem 1045 (by decide +kernel) rfl
theorem zw_1046 : Cond.fieldLink "SentRoadsModel" 221 "SentRoadsModel" "readCrimes" "I" ∈ zT := zmem 1046 (by decide +kernel) rfl
theorem zw_1047 : Cond.fieldLink "SentRoadsModel" 43 "SentRoadsModel" "gotCrimes" "[I" ∈ zT := zmem 1047 (by decide +kernel) rfl
theorem zw_1048 : Cond.fieldLink "SentRoadsModel" 233 "SentRoadsModel" "readPapers" "I" ∈ zT := zmem 1048 (by decide +kernel) rfl
theorem zw_1049 : Cond.fieldLink "SentRoadsModel" 46 "SentRoadsModel" "gotPapers" "[I" ∈ zT := zmem 1049 (by decide +kernel) rfl
theorem zw_1050 : Cond.fieldLink "SentRoadsModel" 259 "SentRoadsModel" "isKept" "Z" ∈ zT := zmem 1050 (by decide +kernel) rfl
theorem zw_1051 : Cond.fieldLink "SentRoadsModel" 49 "SentRoadsModel" "kept" "[I" ∈ zT := zmem 1051 (by decide +kernel) rfl
theorem zw_1052 : Cond.fieldLink "SentRoadsModel" 252 "SentRoadsModel" "keptAt" "I" ∈ zT := zmem 1052 (by decide +kernel) rfl
theorem zw_1053 : Cond.fieldLink "SentRoadsModel" 52 "SentRoadsModel" "singles" "[I" ∈ zT := zmem 1053 (by decide +kernel) rfl
theorem zw_1054 : Cond.fieldLink "SentRoadsModel" 55 "SentRoadsModel" "lanes" "[I" ∈ zT := zmem 1054 (by decide +kernel) rfl
theorem zw_1055 : Cond.fieldLink "SentRoadsModel" 58 "SentRoadsModel" "rowSizes" "[I" ∈ zT := zmem 1055 (by decide +kernel) rfl
theorem zw_1056 : Cond.fieldLink "SentRoadsModel" 61 "SentRoadsModel" "items" "[I" ∈ zT := zmem 1056 (by decide +kernel) rfl
theorem zw_1116 : Cond.methodLink "SentRoadsLaw" 17 yX10_crime ∈ zT := zmem 1116 (by decide +kernel) rfl
theorem zw_1117 : Cond.instanceMethod yX10_crime ∈ zT := zmem 1117 (by decide +kernel) rfl
theorem zw_1118 : Cond.selects "SentRoadsModel" yX10_crime yX10_crime ∈ zT := zmem 1118 (by decide +kernel) rfl
theorem zw_1119 : Cond.code yX10_crime cX10_crime 7 (some .int) ∈ zT := zmem 1119 (by decide +kernel) rfl
theorem zw_1120 : Cond.methodLink "SentRoadsModel" 83 yX10_isLand ∈ zT := zmem 1120 (by decide +kernel) rfl
theorem zw_1121 : Cond.static yX10_isLand ∈ zT := zmem 1121 (by decide +kernel) rfl
theorem zw_1122 : Cond.code yX10_isLand cX10_isLand 1 (some .boolean) ∈ zT := zmem 1122 (by decide +kernel) rfl
theorem zw_1123 : Cond.constantLong "SentRoadsModel" 67 (5 : Int64) ∈ zT := zmem 1123 (by decide +kernel) rfl
theorem zw_1124 : Cond.methodLink "SentRoadsModel" 69 yX10_in ∈ zT := zmem 1124 (by decide +kernel) rfl
theorem zw_1125 : Cond.static yX10_in ∈ zT := zmem 1125 (by decide +kernel) rfl
theorem zw_1126 : Cond.code yX10_in cX10_in 6 (some .boolean) ∈ zT := zmem 1126 (by decide +kernel) rfl
theorem zw_1127 : Cond.constantLong "SentRoadsModel" 87 (63 : Int64) ∈ zT := zmem 1127 (by decide +kernel) rfl
theorem zw_1128 : Cond.constantLong "SentRoadsModel" 89 (40 : Int64) ∈ zT := zmem 1128 (by decide +kernel) rfl
theorem zw_1129 : Cond.methodLink "SentRoadsModel" 91 yX10_addCrime ∈ zT := zmem 1129 (by decide +kernel) rfl
theorem zw_1131 : Cond.instanceMethod yX10_addCrime ∈ zT := zmem 1131 (by decide +kernel) rfl
theorem zw_1132 : Cond.code yX10_addCrime cX10_addCrime 8 none ∈ zT := zmem 1132 (by decide +kernel) rfl
theorem zw_1133 : Cond.methodLink "SentRoadsLaw" 22 yX10_deed ∈ zT := zmem 1133 (by decide +kernel) rfl
theorem zw_1134 : Cond.instanceMethod yX10_deed ∈ zT := zmem 1134 (by decide +kernel) rfl
theorem zw_1135 : Cond.selects "SentRoadsModel" yX10_deed yX10_deed ∈ zT := zmem 1135 (by decide +kernel) rfl
theorem zw_1136 : Cond.code yX10_deed cX10_deed 5 (some .int) ∈ zT := zmem 1136 (by decide +kernel) rfl
theorem zw_1137 : Cond.constantLong "SentRoadsModel" 95 (99 : Int64) ∈ zT := zmem 1137 (by decide +kernel) rfl
theorem zw_1138 : Cond.methodLink "SentRoadsLaw" 27 yX10_years ∈ zT := zmem 1138 (by decide +kernel) rfl
theorem zw_1139 : Cond.instanceMethod yX10_years ∈ zT := zmem 1139 (by decide +kernel) rfl
theorem zw_1140 : Cond.selects "SentRoadsModel" yX10_years yX10_years ∈ zT := zmem 1140 (by decide +kernel) rfl
theorem zw_1141 : Cond.code yX10_years cX10_years 7 (some .int) ∈ zT := zmem 1141 (by decide +kernel) rfl
theorem zw_1142 : Cond.methodLink "SentRoadsModel" 101 yX10_mayBe ∈ zT := zmem 1142 (by decide +kernel) rfl
theorem zw_1143 : Cond.static yX10_mayBe ∈ zT := zmem 1143 (by decide +kernel) rfl
theorem zw_1144 : Cond.code yX10_mayBe cX10_mayBe 5 (some .boolean) ∈ zT := zmem 1144 (by decide +kernel) rfl
theorem zw_1145 : Cond.constantLong "SentRoadsModel" 97 (31 : Int64) ∈ zT := zmem 1145 (by decide +kernel) rfl
theorem zw_1146 : Cond.constantLong "SentRoadsModel" 99 (7 : Int64) ∈ zT := zmem 1146 (by decide +kernel) rfl
theorem zw_1147 : Cond.methodLink "SentRoadsModel" 105 yX10_addPaper ∈ zT := zmem 1147 (by decide +kernel) rfl
theorem zw_1149 : Cond.instanceMethod yX10_addPaper ∈ zT := zmem 1149 (by decide +kernel) rfl
theorem zw_1150 : Cond.code yX10_addPaper cX10_addPaper 10 (some .int) ∈ zT := zmem 1150 (by decide +kernel) rfl
theorem zw_1151 : Cond.methodLink "SentRoadsLaw" 31 yX10_named ∈ zT := zmem 1151 (by decide +kernel) rfl
theorem zw_1152 : Cond.instanceMethod yX10_named ∈ zT := zmem 1152 (by decide +kernel) rfl
theorem zw_1153 : Cond.selects "SentRoadsModel" yX10_named yX10_named ∈ zT := zmem 1153 (by decide +kernel) rfl
theorem zw_1154 : Cond.code yX10_named cX10_named 9 (some .int) ∈ zT := zmem 1154 (by decide +kernel) rfl
theorem zw_1155 : Cond.methodLink "SentRoadsLaw" 36 yX10_custom ∈ zT := zmem 1155 (by decide +kernel) rfl
theorem zw_1156 : Cond.instanceMethod yX10_custom ∈ zT := zmem 1156 (by decide +kernel) rfl
theorem zw_1157 : Cond.selects "SentRoadsModel" yX10_custom yX10_custom ∈ zT := zmem 1157 (by decide +kernel) rfl
theorem zw_1158 : Cond.code yX10_custom cX10_custom 6 (some .int) ∈ zT := zmem 1158 (by decide +kernel) rfl
theorem zw_1159 : Cond.methodLink "SentRoadsLaw" 53 yX10_crimeOf ∈ zT := zmem 1159 (by decide +kernel) rfl
theorem zw_1160 : Cond.instanceMethod yX10_crimeOf ∈ zT := zmem 1160 (by decide +kernel) rfl
theorem zw_1161 : Cond.selects "SentRoadsModel" yX10_crimeOf yX10_crimeOf ∈ zT := zmem 1161 (by decide +kernel) rfl
theorem zw_1162 : Cond.code yX10_crimeOf cX10_crimeOf 3 (some .int) ∈ zT := zmem 1162 (by decide +kernel) rfl
theorem zw_1163 : Cond.methodLink "SentRoadsLaw" 57 yX10_paper ∈ zT := zmem 1163 (by decide +kernel) rfl
theorem zw_1164 : Cond.instanceMethod yX10_paper ∈ zT := zmem 1164 (by decide +kernel) rfl
theorem zw_1165 : Cond.selects "SentRoadsModel" yX10_paper yX10_paper ∈ zT := zmem 1165 (by decide +kernel) rfl
theorem zw_1166 : Cond.code yX10_paper cX10_paper 5 (some .int) ∈ zT := zmem 1166 (by decide +kernel) rfl
theorem zw_1167 : Cond.methodLink "SentRoadsModel" 109 yX10_isPaper ∈ zT := zmem 1167 (by decide +kernel) rfl
theorem zw_1169 : Cond.instanceMethod yX10_isPaper ∈ zT := zmem 1169 (by decide +kernel) rfl
theorem zw_1170 : Cond.code yX10_isPaper cX10_isPaper 2 (some .boolean) ∈ zT := zmem 1170 (by decide +kernel) rfl
theorem zw_1171 : Cond.methodLink "SentRoadsLaw" 61 yX10_bars ∈ zT := zmem 1171 (by decide +kernel) rfl
theorem zw_1172 : Cond.instanceMethod yX10_bars ∈ zT := zmem 1172 (by decide +kernel) rfl
theorem zw_1173 : Cond.selects "SentRoadsModel" yX10_bars yX10_bars ∈ zT := zmem 1173 (by decide +kernel) rfl
theorem zw_1174 : Cond.code yX10_bars cX10_bars 4 (some .int) ∈ zT := zmem 1174 (by decide +kernel) rfl
theorem zw_1175 : Cond.methodLink "SentRoadsLaw" 66 yX10_matches ∈ zT := zmem 1175 (by decide +kernel) rfl
theorem zw_1176 : Cond.instanceMethod yX10_matches ∈ zT := zmem 1176 (by decide +kernel) rfl
theorem zw_1177 : Cond.selects "SentRoadsModel" yX10_matches yX10_matches ∈ zT := zmem 1177 (by decide +kernel) rfl
theorem zw_1178 : Cond.code yX10_matches cX10_matches 4 (some .int) ∈ zT := zmem 1178 (by decide +kernel) rfl
theorem zw_1179 : Cond.methodLink "SentRoadsModel" 120 yX10_isDeed ∈ zT := zmem 1179 (by decide +kernel) rfl
theorem zw_1181 : Cond.instanceMethod yX10_isDeed ∈ zT := zmem 1181 (by decide +kernel) rfl
theorem zw_1182 : Cond.code yX10_isDeed cX10_isDeed 2 (some .boolean) ∈ zT := zmem 1182 (by decide +kernel) rfl
theorem zw_1183 : Cond.methodLink "SentRoadsModel" 116 yX10_crimesOf ∈ zT := zmem 1183 (by decide +kernel) rfl
theorem zw_1185 : Cond.instanceMethod yX10_crimesOf ∈ zT := zmem 1185 (by decide +kernel) rfl
theorem zw_1186 : Cond.code yX10_crimesOf cX10_crimesOf 5 (some .int) ∈ zT := zmem 1186 (by decide +kernel) rfl
theorem zw_1187 : Cond.methodLink "SentRoadsModel" 112 yX10_areCrime ∈ zT := zmem 1187 (by decide +kernel) rfl
theorem zw_1189 : Cond.instanceMethod yX10_areCrime ∈ zT := zmem 1189 (by decide +kernel) rfl
theorem zw_1190 : Cond.code yX10_areCrime cX10_areCrime 3 (some .boolean) ∈ zT := zmem 1190 (by decide +kernel) rfl
theorem zw_1191 : Cond.methodLink "SentRoadsLaw" 70 yX10_yearsOf ∈ zT := zmem 1191 (by decide +kernel) rfl
theorem zw_1192 : Cond.instanceMethod yX10_yearsOf ∈ zT := zmem 1192 (by decide +kernel) rfl
theorem zw_1193 : Cond.selects "SentRoadsModel" yX10_yearsOf yX10_yearsOf ∈ zT := zmem 1193 (by decide +kernel) rfl
theorem zw_1194 : Cond.code yX10_yearsOf cX10_yearsOf 4 (some .int) ∈ zT := zmem 1194 (by decide +kernel) rfl
theorem zw_1195 : Cond.methodLink "SentRoadsModel" 123 yX10_yearsFor ∈ zT := zmem 1195 (by decide +kernel) rfl
theorem zw_1197 : Cond.instanceMethod yX10_yearsFor ∈ zT := zmem 1197 (by decide +kernel) rfl
theorem zw_1198 : Cond.code yX10_yearsFor cX10_yearsFor 6 (some .int) ∈ zT := zmem 1198 (by decide +kernel) rfl
theorem zw_1199 : Cond.methodLink "SentRoadsLaw" 79 yX10_count ∈ zT := zmem 1199 (by decide +kernel) rfl
theorem zw_1200 : Cond.instanceMethod yX10_count ∈ zT := zmem 1200 (by decide +kernel) rfl
theorem zw_1201 : Cond.selects "SentRoadsModel" yX10_count yX10_count ∈ zT := zmem 1201 (by decide +kernel) rfl
theorem zw_1202 : Cond.code yX10_count cX10_count 2 (some .int) ∈ zT := zmem 1202 (by decide +kernel) rfl
theorem zw_1203 : Cond.methodLink "SentRoadsLaw" 83 yX10_man ∈ zT := zmem 1203 (by decide +kernel) rfl
theorem zw_1204 : Cond.instanceMethod yX10_man ∈ zT := zmem 1204 (by decide +kernel) rfl
theorem zw_1205 : Cond.selects "SentRoadsModel" yX10_man yX10_man ∈ zT := zmem 1205 (by decide +kernel) rfl
theorem zw_1206 : Cond.code yX10_man cX10_man 4 (some .int) ∈ zT := zmem 1206 (by decide +kernel) rfl
theorem zw_1207 : Cond.constantLong "SentRoadsModel" 129 (2 : Int64) ∈ zT := zmem 1207 (by decide +kernel) rfl
theorem zw_1208 : Cond.methodLink "SentRoadsLaw" 88 yX10_judged ∈ zT := zmem 1208 (by decide +kernel) rfl
theorem zw_1209 : Cond.instanceMethod yX10_judged ∈ zT := zmem 1209 (by decide +kernel) rfl
theorem zw_1210 : Cond.selects "SentRoadsModel" yX10_judged yX10_judged ∈ zT := zmem 1210 (by decide +kernel) rfl
theorem zw_1211 : Cond.code yX10_judged cX10_judged 4 (some .int) ∈ zT := zmem 1211 (by decide +kernel) rfl
theorem zw_1212 : Cond.methodLink "SentRoadsLaw" 92 yX10_bound ∈ zT := zmem 1212 (by decide +kernel) rfl
theorem zw_1213 : Cond.instanceMethod yX10_bound ∈ zT := zmem 1213 (by decide +kernel) rfl
theorem zw_1214 : Cond.selects "SentRoadsModel" yX10_bound yX10_bound ∈ zT := zmem 1214 (by decide +kernel) rfl
theorem zw_1215 : Cond.code yX10_bound cX10_bound 2 (some .int) ∈ zT := zmem 1215 (by decide +kernel) rfl
theorem zw_1216 : Cond.methodLink "SentRoadsModel" 131 yX10_allDeeds ∈ zT := zmem 1216 (by decide +kernel) rfl
theorem zw_1218 : Cond.instanceMethod yX10_allDeeds ∈ zT := zmem 1218 (by decide +kernel) rfl
theorem zw_1219 : Cond.code yX10_allDeeds cX10_allDeeds 1 (some .int) ∈ zT := zmem 1219 (by decide +kernel) rfl
theorem zw_1220 : Cond.methodLink "SentRoadsLaw" 96 yX10_covers ∈ zT := zmem 1220 (by decide +kernel) rfl
theorem zw_1221 : Cond.instanceMethod yX10_covers ∈ zT := zmem 1221 (by decide +kernel) rfl
theorem zw_1222 : Cond.selects "SentRoadsModel" yX10_covers yX10_covers ∈ zT := zmem 1222 (by decide +kernel) rfl
theorem zw_1223 : Cond.code yX10_covers cX10_covers 4 (some .int) ∈ zT := zmem 1223 (by decide +kernel) rfl
theorem zw_1224 : Cond.methodLink "SentRoadsModel" 138 yX10_isCovered ∈ zT := zmem 1224 (by decide +kernel) rfl
theorem zw_1226 : Cond.instanceMethod yX10_isCovered ∈ zT := zmem 1226 (by decide +kernel) rfl
theorem zw_1227 : Cond.code yX10_isCovered cX10_isCovered 6 (some .boolean) ∈ zT := zmem 1227 (by decide +kernel) rfl
theorem zw_1228 : Cond.methodLink "SentRoadsLaw" 104 yX10_barred ∈ zT := zmem 1228 (by decide +kernel) rfl
theorem zw_1229 : Cond.instanceMethod yX10_barred ∈ zT := zmem 1229 (by decide +kernel) rfl
theorem zw_1230 : Cond.selects "SentRoadsModel" yX10_barred yX10_barred ∈ zT := zmem 1230 (by decide +kernel) rfl
theorem zw_1231 : Cond.code yX10_barred cX10_barred 3 (some .int) ∈ zT := zmem 1231 (by decide +kernel) rfl
theorem zw_1232 : Cond.methodLink "SentRoadsModel" 141 yX10_standing ∈ zT := zmem 1232 (by decide +kernel) rfl
theorem zw_1234 : Cond.instanceMethod yX10_standing ∈ zT := zmem 1234 (by decide +kernel) rfl
theorem zw_1235 : Cond.code yX10_standing cX10_standing 6 (some .int) ∈ zT := zmem 1235 (by decide +kernel) rfl
theorem zw_1236 : Cond.methodLink "SentRoadsModel" 135 yX10_isDeadly ∈ zT := zmem 1236 (by decide +kernel) rfl
theorem zw_1238 : Cond.instanceMethod yX10_isDeadly ∈ zT := zmem 1238 (by decide +kernel) rfl
theorem zw_1239 : Cond.code yX10_isDeadly cX10_isDeadly 6 (some .boolean) ∈ zT := zmem 1239 (by decide +kernel) rfl
theorem zw_1240 : Cond.methodLink "SentRoadsLaw" 100 yX10_lets ∈ zT := zmem 1240 (by decide +kernel) rfl
theorem zw_1241 : Cond.instanceMethod yX10_lets ∈ zT := zmem 1241 (by decide +kernel) rfl
theorem zw_1242 : Cond.selects "SentRoadsModel" yX10_lets yX10_lets ∈ zT := zmem 1242 (by decide +kernel) rfl
theorem zw_1243 : Cond.code yX10_lets cX10_lets 2 (some .int) ∈ zT := zmem 1243 (by decide +kernel) rfl
theorem zw_1244 : Cond.methodLink "SentRoadsModel" 151 yX10_findOpen ∈ zT := zmem 1244 (by decide +kernel) rfl
theorem zw_1246 : Cond.instanceMethod yX10_findOpen ∈ zT := zmem 1246 (by decide +kernel) rfl
theorem zw_1247 : Cond.code yX10_findOpen cX10_findOpen 3 none ∈ zT := zmem 1247 (by decide +kernel) rfl
theorem zw_1248 : Cond.methodLink "SentRoadsModel" 154 yX10_goesNow ∈ zT := zmem 1248 (by decide +kernel) rfl
theorem zw_1250 : Cond.instanceMethod yX10_goesNow ∈ zT := zmem 1250 (by decide +kernel) rfl
theorem zw_1251 : Cond.code yX10_goesNow cX10_goesNow 2 (some .int) ∈ zT := zmem 1251 (by decide +kernel) rfl
theorem zw_1252 : Cond.methodLink "SentRoadsModel" 147 yX10_goes ∈ zT := zmem 1252 (by decide +kernel) rfl
theorem zw_1254 : Cond.instanceMethod yX10_goes ∈ zT := zmem 1254 (by decide +kernel) rfl
theorem zw_1255 : Cond.code yX10_goes cX10_goes 8 (some .int) ∈ zT := zmem 1255 (by decide +kernel) rfl
theorem zw_1256 : Cond.methodLink "SentRoadsModel" 144 yX10_mayGo ∈ zT := zmem 1256 (by decide +kernel) rfl
theorem zw_1258 : Cond.instanceMethod yX10_mayGo ∈ zT := zmem 1258 (by decide +kernel) rfl
theorem zw_1259 : Cond.code yX10_mayGo cX10_mayGo 8 (some .boolean) ∈ zT := zmem 1259 (by decide +kernel) rfl
theorem zw_1260 : Cond.methodLink "SentRoadsLaw" 108 yX10_send ∈ zT := zmem 1260 (by decide +kernel) rfl
theorem zw_1261 : Cond.instanceMethod yX10_send ∈ zT := zmem 1261 (by decide +kernel) rfl
theorem zw_1262 : Cond.selects "SentRoadsModel" yX10_send yX10_send ∈ zT := zmem 1262 (by decide +kernel) rfl
theorem zw_1263 : Cond.code yX10_send cX10_send 4 (some .int) ∈ zT := zmem 1263 (by decide +kernel) rfl
theorem zw_1264 : Cond.methodLink "SentRoadsModel" 158 yX10_lets ∈ zT := zmem 1264 (by decide +kernel) rfl
theorem zw_1265 : Cond.methodLink "SentRoadsLaw" 112 yX10_tried ∈ zT := zmem 1265 (by decide +kernel) rfl
theorem zw_1266 : Cond.instanceMethod yX10_tried ∈ zT := zmem 1266 (by decide +kernel) rfl
theorem zw_1267 : Cond.selects "SentRoadsModel" yX10_tried yX10_tried ∈ zT := zmem 1267 (by decide +kernel) rfl
theorem zw_1268 : Cond.code yX10_tried cX10_tried 1 (some .int) ∈ zT := zmem 1268 (by decide +kernel) rfl
theorem zw_1269 : Cond.methodLink "SentRoadsModel" 165 yX10_triedAt ∈ zT := zmem 1269 (by decide +kernel) rfl
theorem zw_1271 : Cond.instanceMethod yX10_triedAt ∈ zT := zmem 1271 (by decide +kernel) rfl
theorem zw_1272 : Cond.code yX10_triedAt cX10_triedAt 5 (some .int) ∈ zT := zmem 1272 (by decide +kernel) rfl
theorem zw_1273 : Cond.methodLink "SentRoadsModel" 161 yX10_isTried ∈ zT := zmem 1273 (by decide +kernel) rfl
theorem zw_1275 : Cond.instanceMethod yX10_isTried ∈ zT := zmem 1275 (by decide +kernel) rfl
theorem zw_1276 : Cond.code yX10_isTried cX10_isTried 4 (some .boolean) ∈ zT := zmem 1276 (by decide +kernel) rfl
theorem zw_1277 : Cond.methodLink "SentRoadsLaw" 116 yX10_road ∈ zT := zmem 1277 (by decide +kernel) rfl
theorem zw_1278 : Cond.instanceMethod yX10_road ∈ zT := zmem 1278 (by decide +kernel) rfl
theorem zw_1279 : Cond.selects "SentRoadsModel" yX10_road yX10_road ∈ zT := zmem 1279 (by decide +kernel) rfl
theorem zw_1280 : Cond.code yX10_road cX10_road 8 (some .int) ∈ zT := zmem 1280 (by decide +kernel) rfl
theorem zw_1281 : Cond.methodLink "SentRoadsModel" 179 yX10_findStates ∈ zT := zmem 1281 (by decide +kernel) rfl
theorem zw_1283 : Cond.instanceMethod yX10_findStates ∈ zT := zmem 1283 (by decide +kernel) rfl
theorem zw_1284 : Cond.code yX10_findStates cX10_findStates 11 none ∈ zT := zmem 1284 (by decide +kernel) rfl
theorem zw_1285 : Cond.methodLink "SentRoadsModel" 171 yX10_codeOf ∈ zT := zmem 1285 (by decide +kernel) rfl
theorem zw_1287 : Cond.instanceMethod yX10_codeOf ∈ zT := zmem 1287 (by decide +kernel) rfl
theorem zw_1288 : Cond.code yX10_codeOf cX10_codeOf 5 (some .int) ∈ zT := zmem 1288 (by decide +kernel) rfl
theorem zw_1289 : Cond.methodLink "SentRoadsModel" 175 yX10_come ∈ zT := zmem 1289 (by decide +kernel) rfl
theorem zw_1291 : Cond.instanceMethod yX10_come ∈ zT := zmem 1291 (by decide +kernel) rfl
theorem zw_1292 : Cond.code yX10_come cX10_come 4 none ∈ zT := zmem 1292 (by decide +kernel) rfl
theorem zw_1293 : Cond.methodLink "SentRoadsLaw" 120 yX10_lands ∈ zT := zmem 1293 (by decide +kernel) rfl
theorem zw_1294 : Cond.instanceMethod yX10_lands ∈ zT := zmem 1294 (by decide +kernel) rfl
theorem zw_1295 : Cond.selects "SentRoadsModel" yX10_lands yX10_lands ∈ zT := zmem 1295 (by decide +kernel) rfl
theorem zw_1296 : Cond.code yX10_lands cX10_lands 3 (some .int) ∈ zT := zmem 1296 (by decide +kernel) rfl
theorem zw_1297 : Cond.methodLink "SentRoadsLaw" 124 yX10_safe ∈ zT := zmem 1297 (by decide +kernel) rfl
theorem zw_1298 : Cond.instanceMethod yX10_safe ∈ zT := zmem 1298 (by decide +kernel) rfl
theorem zw_1299 : Cond.selects "SentRoadsModel" yX10_safe yX10_safe ∈ zT := zmem 1299 (by decide +kernel) rfl
theorem zw_1300 : Cond.code yX10_safe cX10_safe 6 (some .int) ∈ zT := zmem 1300 (by decide +kernel) rfl
theorem zw_1301 : Cond.methodLink "SentRoadsLaw" 128 yX10_demand ∈ zT := zmem 1301 (by decide +kernel) rfl
theorem zw_1302 : Cond.instanceMethod yX10_demand ∈ zT := zmem 1302 (by decide +kernel) rfl
theorem zw_1303 : Cond.selects "SentRoadsModel" yX10_demand yX10_demand ∈ zT := zmem 1303 (by decide +kernel) rfl
theorem zw_1304 : Cond.code yX10_demand cX10_demand 4 (some .int) ∈ zT := zmem 1304 (by decide +kernel) rfl
theorem zw_1305 : Cond.methodLink "SentRoadsLaw" 132 yX10_ahead ∈ zT := zmem 1305 (by decide +kernel) rfl
theorem zw_1306 : Cond.instanceMethod yX10_ahead ∈ zT := zmem 1306 (by decide +kernel) rfl
theorem zw_1307 : Cond.selects "SentRoadsModel" yX10_ahead yX10_ahead ∈ zT := zmem 1307 (by decide +kernel) rfl
theorem zw_1308 : Cond.code yX10_ahead cX10_ahead 5 (some .int) ∈ zT := zmem 1308 (by decide +kernel) rfl
theorem zw_1309 : Cond.methodLink "SentRoadsModel" 182 yX10_standsFor ∈ zT := zmem 1309 (by decide +kernel) rfl
theorem zw_1311 : Cond.instanceMethod yX10_standsFor ∈ zT := zmem 1311 (by decide +kernel) rfl
theorem zw_1312 : Cond.code yX10_standsFor cX10_standsFor 4 (some .int) ∈ zT := zmem 1312 (by decide +kernel) rfl
theorem zw_1313 : Cond.methodLink "SentRoadsModel" 191 yX10_isAhead ∈ zT := zmem 1313 (by decide +kernel) rfl
theorem zw_1315 : Cond.instanceMethod yX10_isAhead ∈ zT := zmem 1315 (by decide +kernel) rfl
theorem zw_1316 : Cond.code yX10_isAhead cX10_isAhead 5 (some .boolean) ∈ zT := zmem 1316 (by decide +kernel) rfl
theorem zw_1317 : Cond.methodLink "SentRoadsModel" 185 yX10_greatestYears ∈ zT := zmem 1317 (by decide +kernel) rfl
theorem zw_1319 : Cond.instanceMethod yX10_greatestYears ∈ zT := zmem 1319 (by decide +kernel) rfl
theorem zw_1320 : Cond.code yX10_greatestYears cX10_greatestYears 6 (some .int) ∈ zT := zmem 1320 (by decide +kernel) rfl
theorem zw_1321 : Cond.methodLink "SentRoadsModel" 188 yX10_wasThere ∈ zT := zmem 1321 (by decide +kernel) rfl
theorem zw_1323 : Cond.instanceMethod yX10_wasThere ∈ zT := zmem 1323 (by decide +kernel) rfl
theorem zw_1324 : Cond.code yX10_wasThere cX10_wasThere 5 (some .int) ∈ zT := zmem 1324 (by decide +kernel) rfl
theorem zw_1325 : Cond.methodLink "SentRoadsLaw" 136 yX10_promises ∈ zT := zmem 1325 (by decide +kernel) rfl
theorem zw_1326 : Cond.instanceMethod yX10_promises ∈ zT := zmem 1326 (by decide +kernel) rfl
theorem zw_1327 : Cond.selects "SentRoadsModel" yX10_promises yX10_promises ∈ zT := zmem 1327 (by decide +kernel) rfl
theorem zw_1328 : Cond.code yX10_promises cX10_promises 6 (some .int) ∈ zT := zmem 1328 (by decide +kernel) rfl
theorem zw_1329 : Cond.methodLink "SentRoadsModel" 194 yX10_ones ∈ zT := zmem 1329 (by decide +kernel) rfl
theorem zw_1330 : Cond.static yX10_ones ∈ zT := zmem 1330 (by decide +kernel) rfl
theorem zw_1331 : Cond.code yX10_ones cX10_ones 3 (some .int) ∈ zT := zmem 1331 (by decide +kernel) rfl
theorem zw_1332 : Cond.methodLink "SentRoadsLaw" 140 yX10_mended ∈ zT := zmem 1332 (by decide +kernel) rfl
theorem zw_1333 : Cond.instanceMethod yX10_mended ∈ zT := zmem 1333 (by decide +kernel) rfl
theorem zw_1334 : Cond.selects "SentRoadsModel" yX10_mended yX10_mended ∈ zT := zmem 1334 (by decide +kernel) rfl
theorem zw_1335 : Cond.code yX10_mended cX10_mended 9 (some .int) ∈ zT := zmem 1335 (by decide +kernel) rfl
theorem zw_1336 : Cond.methodLink "SentRoadsModel" 197 yX10_canFollow ∈ zT := zmem 1336 (by decide +kernel) rfl
theorem zw_1338 : Cond.instanceMethod yX10_canFollow ∈ zT := zmem 1338 (by decide +kernel) rfl
theorem zw_1339 : Cond.code yX10_canFollow cX10_canFollow 6 (some .boolean) ∈ zT := zmem 1339 (by decide +kernel) rfl
theorem zw_1340 : Cond.methodLink "SentRoadsLaw" 144 yX10_part ∈ zT := zmem 1340 (by decide +kernel) rfl
theorem zw_1341 : Cond.instanceMethod yX10_part ∈ zT := zmem 1341 (by decide +kernel) rfl
theorem zw_1342 : Cond.selects "SentRoadsModel" yX10_part yX10_part ∈ zT := zmem 1342 (by decide +kernel) rfl
theorem zw_1343 : Cond.code yX10_part cX10_part 7 (some .int) ∈ zT := zmem 1343 (by decide +kernel) rfl
theorem zw_1344 : Cond.methodLink "SentRoadsLaw" 43 yX10_type ∈ zT := zmem 1344 (by decide +kernel) rfl
theorem zw_1345 : Cond.instanceMethod yX10_type ∈ zT := zmem 1345 (by decide +kernel) rfl
theorem zw_1346 : Cond.selects "SentRoadsModel" yX10_type yX10_type ∈ zT := zmem 1346 (by decide +kernel) rfl
theorem zw_1347 : Cond.code yX10_type cX10_type 5 (some .int) ∈ zT := zmem 1347 (by decide +kernel) rfl
theorem zw_1348 : Cond.constantLong "SentRoadsModel" 200 (8 : Int64) ∈ zT := zmem 1348 (by decide +kernel) rfl
theorem zw_1349 : Cond.constantLong "SentRoadsModel" 202 (255 : Int64) ∈ zT := zmem 1349 (by decide +kernel) rfl
theorem zw_1350 : Cond.constantLong "SentRoadsModel" 204 (32 : Int64) ∈ zT := zmem 1350 (by decide +kernel) rfl
theorem zw_1351 : Cond.constantLong "SentRoadsModel" 206 (126 : Int64) ∈ zT := zmem 1351 (by decide +kernel) rfl
theorem zw_1352 : Cond.methodLink "SentRoadsLaw" 48 yX10_world ∈ zT := zmem 1352 (by decide +kernel) rfl
theorem zw_1353 : Cond.instanceMethod yX10_world ∈ zT := zmem 1353 (by decide +kernel) rfl
theorem zw_1354 : Cond.selects "SentRoadsModel" yX10_world yX10_world ∈ zT := zmem 1354 (by decide +kernel) rfl
theorem zw_1355 : Cond.code yX10_world cX10_world 4 (some .int) ∈ zT := zmem 1355 (by decide +kernel) rfl
theorem zw_1356 : Cond.methodLink "SentRoadsModel" 248 yX10_readWorld ∈ zT := zmem 1356 (by decide +kernel) rfl
theorem zw_1358 : Cond.instanceMethod yX10_readWorld ∈ zT := zmem 1358 (by decide +kernel) rfl
theorem zw_1359 : Cond.code yX10_readWorld cX10_readWorld 4 (some .boolean) ∈ zT := zmem 1359 (by decide +kernel) rfl
theorem zw_1360 : Cond.methodLink "SentRoadsModel" 214 yX10_next ∈ zT := zmem 1360 (by decide +kernel) rfl
theorem zw_1362 : Cond.instanceMethod yX10_next ∈ zT := zmem 1362 (by decide +kernel) rfl
theorem zw_1363 : Cond.code yX10_next cX10_next 1 (some .int) ∈ zT := zmem 1363 (by decide +kernel) rfl
theorem zw_1364 : Cond.methodLink "SentRoadsModel" 227 yX10_takes ∈ zT := zmem 1364 (by decide +kernel) rfl
theorem zw_1366 : Cond.instanceMethod yX10_takes ∈ zT := zmem 1366 (by decide +kernel) rfl
theorem zw_1367 : Cond.code yX10_takes cX10_takes 3 (some .boolean) ∈ zT := zmem 1367 (by decide +kernel) rfl
theorem zw_1368 : Cond.methodLink "SentRoadsModel" 242 yX10_readCrime ∈ zT := zmem 1368 (by decide +kernel) rfl
theorem zw_1370 : Cond.instanceMethod yX10_readCrime ∈ zT := zmem 1370 (by decide +kernel) rfl
theorem zw_1371 : Cond.code yX10_readCrime cX10_readCrime 7 (some .boolean) ∈ zT := zmem 1371 (by decide +kernel) rfl
theorem zw_1372 : Cond.methodLink "SentRoadsModel" 224 yX10_readMarks ∈ zT := zmem 1372 (by decide +kernel) rfl
theorem zw_1374 : Cond.instanceMethod yX10_readMarks ∈ zT := zmem 1374 (by decide +kernel) rfl
theorem zw_1375 : Cond.code yX10_readMarks cX10_readMarks 7 (some .int) ∈ zT := zmem 1375 (by decide +kernel) rfl
theorem zw_1376 : Cond.methodLink "SentRoadsModel" 230 yX10_readNumber ∈ zT := zmem 1376 (by decide +kernel) rfl
theorem zw_1378 : Cond.instanceMethod yX10_readNumber ∈ zT := zmem 1378 (by decide +kernel) rfl
theorem zw_1379 : Cond.code yX10_readNumber cX10_readNumber 5 (some .int) ∈ zT := zmem 1379 (by decide +kernel) rfl
theorem zw_1380 : Cond.constantLong "SentRoadsModel" 217 (48 : Int64) ∈ zT := zmem 1380 (by decide +kernel) rfl
theorem zw_1381 : Cond.constantLong "SentRoadsModel" 219 (57 : Int64) ∈ zT := zmem 1381 (by decide +kernel) rfl
theorem zw_1382 : Cond.methodLink "SentRoadsModel" 245 yX10_readPaper ∈ zT := zmem 1382 (by decide +kernel) rfl
theorem zw_1384 : Cond.instanceMethod yX10_readPaper ∈ zT := zmem 1384 (by decide +kernel) rfl
theorem zw_1385 : Cond.code yX10_readPaper cX10_readPaper 9 (some .boolean) ∈ zT := zmem 1385 (by decide +kernel) rfl
theorem zw_1386 : Cond.methodLink "SentRoadsModel" 236 yX10_barOf ∈ zT := zmem 1386 (by decide +kernel) rfl
theorem zw_1387 : Cond.static yX10_barOf ∈ zT := zmem 1387 (by decide +kernel) rfl
theorem zw_1388 : Cond.code yX10_barOf cX10_barOf 1 (some .int) ∈ zT := zmem 1388 (by decide +kernel) rfl
theorem zw_1389 : Cond.methodLink "SentRoadsModel" 239 yX10_promiseOf ∈ zT := zmem 1389 (by decide +kernel) rfl
theorem zw_1390 : Cond.static yX10_promiseOf ∈ zT := zmem 1390 (by decide +kernel) rfl
theorem zw_1391 : Cond.code yX10_promiseOf cX10_promiseOf 1 (some .int) ∈ zT := zmem 1391 (by decide +kernel) rfl
theorem zw_1392 : Cond.methodLink "SentRoadsLaw" 148 yX10_image ∈ zT := zmem 1392 (by decide +kernel) rfl
theorem zw_1393 : Cond.instanceMethod yX10_image ∈ zT := zmem 1393 (by decide +kernel) rfl
theorem zw_1394 : Cond.selects "SentRoadsModel" yX10_image yX10_image ∈ zT := zmem 1394 (by decide +kernel) rfl
theorem zw_1395 : Cond.code yX10_image cX10_image 1 (some .int) ∈ zT := zmem 1395 (by decide +kernel) rfl
theorem zw_1396 : Cond.methodLink "SentRoadsModel" 255 yX10_keep ∈ zT := zmem 1396 (by decide +kernel) rfl
theorem zw_1398 : Cond.instanceMethod yX10_keep ∈ zT := zmem 1398 (by decide +kernel) rfl
theorem zw_1399 : Cond.code yX10_keep cX10_keep 3 none ∈ zT := zmem 1399 (by decide +kernel) rfl
theorem zw_1400 : Cond.methodLink "SentRoadsLaw" 152 yX10_restore ∈ zT := zmem 1400 (by decide +kernel) rfl
theorem zw_1401 : Cond.instanceMethod yX10_restore ∈ zT := zmem 1401 (by decide +kernel) rfl
theorem zw_1402 : Cond.selects "SentRoadsModel" yX10_restore yX10_restore ∈ zT := zmem 1402 (by decide +kernel) rfl
theorem zw_1403 : Cond.code yX10_restore cX10_restore 1 (some .int) ∈ zT := zmem 1403 (by decide +kernel) rfl
theorem zw_1404 : Cond.methodLink "SentRoadsModel" 263 yX10_bring ∈ zT := zmem 1404 (by decide +kernel) rfl
theorem zw_1406 : Cond.instanceMethod yX10_bring ∈ zT := zmem 1406 (by decide +kernel) rfl
theorem zw_1407 : Cond.code yX10_bring cX10_bring 3 none ∈ zT := zmem 1407 (by decide +kernel) rfl
theorem zw_1408 : Cond.methodLink "SentRoadsLaw" 156 yX10_sheet ∈ zT := zmem 1408 (by decide +kernel) rfl
theorem zw_1409 : Cond.instanceMethod yX10_sheet ∈ zT := zmem 1409 (by decide +kernel) rfl
theorem zw_1410 : Cond.selects "SentRoadsModel" yX10_sheet yX10_sheet ∈ zT := zmem 1410 (by decide +kernel) rfl
theorem zw_1411 : Cond.code yX10_sheet cX10_sheet 5 (some .int) ∈ zT := zmem 1411 (by decide +kernel) rfl
theorem zw_1412 : Cond.methodLink "SentRoadsModel" 268 yX10_isSheet ∈ zT := zmem 1412 (by decide +kernel) rfl
theorem zw_1413 : Cond.static yX10_isSheet ∈ zT := zmem 1413 (by decide +kernel) rfl
theorem zw_1414 : Cond.code yX10_isSheet cX10_isSheet 2 (some .boolean) ∈ zT := zmem 1414 (by decide +kernel) rfl
theorem zw_1415 : Cond.constantLong "SentRoadsModel" 266 (3 : Int64) ∈ zT := zmem 1415 (by decide +kernel) rfl
theorem zw_1416 : Cond.methodLink "SentRoadsLaw" 160 yX10_drop ∈ zT := zmem 1416 (by decide +kernel) rfl
theorem zw_1417 : Cond.instanceMethod yX10_drop ∈ zT := zmem 1417 (by decide +kernel) rfl
theorem zw_1418 : Cond.selects "SentRoadsModel" yX10_drop yX10_drop ∈ zT := zmem 1418 (by decide +kernel) rfl
theorem zw_1419 : Cond.code yX10_drop cX10_drop 2 (some .int) ∈ zT := zmem 1419 (by decide +kernel) rfl
theorem zw_1420 : Cond.methodLink "SentRoadsLaw" 164 yX10_item ∈ zT := zmem 1420 (by decide +kernel) rfl
theorem zw_1421 : Cond.instanceMethod yX10_item ∈ zT := zmem 1421 (by decide +kernel) rfl
theorem zw_1422 : Cond.selects "SentRoadsModel" yX10_item yX10_item ∈ zT := zmem 1422 (by decide +kernel) rfl
theorem zw_1423 : Cond.code yX10_item cX10_item 6 (some .int) ∈ zT := zmem 1423 (by decide +kernel) rfl
theorem zw_1424 : Cond.methodLink "SentRoadsModel" 271 yX10_lacksRow ∈ zT := zmem 1424 (by decide +kernel) rfl
theorem zw_1426 : Cond.instanceMethod yX10_lacksRow ∈ zT := zmem 1426 (by decide +kernel) rfl
theorem zw_1427 : Cond.code yX10_lacksRow cX10_lacksRow 5 (some .int) ∈ zT := zmem 1427 (by decide +kernel) rfl
theorem zw_1428 : Cond.methodLink "SentRoadsLaw" 74 yX10_shows ∈ zT := zmem 1428 (by decide +kernel) rfl
theorem zw_1429 : Cond.instanceMethod yX10_shows ∈ zT := zmem 1429 (by decide +kernel) rfl
theorem zw_1430 : Cond.selects "SentRoadsModel" yX10_shows yX10_shows ∈ zT := zmem 1430 (by decide +kernel) rfl
theorem zw_1431 : Cond.code yX10_shows cX10_shows 9 (some .int) ∈ zT := zmem 1431 (by decide +kernel) rfl
theorem zw_1432 : Cond.constantLong "SentRoadsLaw" 37 (4294967295 : Int64) ∈ zT := zmem 1432 (by decide +kernel) rfl
theorem zw_1433 : Cond.fieldLink "java/lang/String" 9 "java/lang/String" "value" "[B" ∈ zT := zmem 1433 (by decide +kernel) rfl
theorem zw_1434 : Cond.fieldLink "java/lang/String" 15 "java/lang/String" "coder" "B" ∈ zT := zmem 1434 (by decide +kernel) rfl
theorem zw_0 : Cond.selects "SentRoads" yX9_addPaper yX9_addPaper ∈ zT := zmem 0 (by decide +kernel) rfl
theorem zw_1 : Cond.selects "SentRoads" yX9_isPaper yX9_isPaper ∈ zT := zmem 1 (by decide +kernel) rfl
theorem zw_2 : Cond.selects "SentRoads" yX9_isDeed yX9_isDeed ∈ zT := zmem 2 (by decide +kernel) rfl
theorem zw_3 : Cond.selects "SentRoadsModel" yX10_free yX10_free ∈ zT := zmem 3 (by decide +kernel) rfl
theorem zw_4 : Cond.selects "SentRoadsModel" yX10_addCrime yX10_addCrime ∈ zT := zmem 4 (by decide +kernel) rfl
theorem zw_5 : Cond.selects "SentRoadsModel" yX10_addPaper yX10_addPaper ∈ zT := zmem 5 (by decide +kernel) rfl
theorem zw_6 : Cond.selects "SentRoadsModel" yX10_isPaper yX10_isPaper ∈ zT := zmem 6 (by decide +kernel) rfl
theorem zw_7 : Cond.selects "SentRoadsModel" yX10_isDeed yX10_isDeed ∈ zT := zmem 7 (by decide +kernel) rfl
theorem zw_8 : Cond.selects "SentRoadsModel" yX10_crimesOf yX10_crimesOf ∈ zT := zmem 8 (by decide +kernel) rfl
theorem zw_9 : Cond.selects "SentRoadsModel" yX10_areCrime yX10_areCrime ∈ zT := zmem 9 (by decide +kernel) rfl
theorem zw_10 : Cond.selects "SentRoadsModel" yX10_yearsFor yX10_yearsFor ∈ zT := zmem 10 (by decide +kernel) rfl
theorem zw_11 : Cond.selects "SentRoadsModel" yX10_allDeeds yX10_allDeeds ∈ zT := zmem 11 (by decide +kernel) rfl
theorem zw_12 : Cond.selects "SentRoadsModel" yX10_isCovered yX10_isCovered ∈ zT := zmem 12 (by decide +kernel) rfl
theorem zw_13 : Cond.selects "SentRoadsModel" yX10_standing yX10_standing ∈ zT := zmem 13 (by decide +kernel) rfl
theorem zw_14 : Cond.selects "SentRoadsModel" yX10_isDeadly yX10_isDeadly ∈ zT := zmem 14 (by decide +kernel) rfl
theorem zw_15 : Cond.selects "SentRoadsModel" yX10_findOpen yX10_findOpen ∈ zT := zmem 15 (by decide +kernel) rfl
theorem zw_16 : Cond.selects "SentRoadsModel" yX10_goesNow yX10_goesNow ∈ zT := zmem 16 (by decide +kernel) rfl
theorem zw_17 : Cond.selects "SentRoadsModel" yX10_goes yX10_goes ∈ zT := zmem 17 (by decide +kernel) rfl
theorem zw_18 : Cond.selects "SentRoadsModel" yX10_mayGo yX10_mayGo ∈ zT := zmem 18 (by decide +kernel) rfl
theorem zw_19 : Cond.selects "SentRoadsModel" yX10_triedAt yX10_triedAt ∈ zT := zmem 19 (by decide +kernel) rfl
theorem zw_20 : Cond.selects "SentRoadsModel" yX10_isTried yX10_isTried ∈ zT := zmem 20 (by decide +kernel) rfl
theorem zw_21 : Cond.selects "SentRoadsModel" yX10_findStates yX10_findStates ∈ zT := zmem 21 (by decide +kernel) rfl
theorem zw_22 : Cond.selects "SentRoadsModel" yX10_codeOf yX10_codeOf ∈ zT := zmem 22 (by decide +kernel) rfl
theorem zw_23 : Cond.selects "SentRoadsModel" yX10_come yX10_come ∈ zT := zmem 23 (by decide +kernel) rfl
theorem zw_24 : Cond.selects "SentRoadsModel" yX10_standsFor yX10_standsFor ∈ zT := zmem 24 (by decide +kernel) rfl
theorem zw_25 : Cond.selects "SentRoadsModel" yX10_isAhead yX10_isAhead ∈ zT := zmem 25 (by decide +kernel) rfl
theorem zw_26 : Cond.selects "SentRoadsModel" yX10_greatestYears yX10_greatestYears ∈ zT := zmem 26 (by decide +kernel) rfl
theorem zw_27 : Cond.selects "SentRoadsModel" yX10_wasThere yX10_wasThere ∈ zT := zmem 27 (by decide +kernel) rfl
theorem zw_28 : Cond.selects "SentRoadsModel" yX10_canFollow yX10_canFollow ∈ zT := zmem 28 (by decide +kernel) rfl
theorem zw_29 : Cond.selects "SentRoadsModel" yX10_readWorld yX10_readWorld ∈ zT := zmem 29 (by decide +kernel) rfl
theorem zw_30 : Cond.selects "SentRoadsModel" yX10_next yX10_next ∈ zT := zmem 30 (by decide +kernel) rfl
theorem zw_31 : Cond.selects "SentRoadsModel" yX10_takes yX10_takes ∈ zT := zmem 31 (by decide +kernel) rfl
theorem zw_32 : Cond.selects "SentRoadsModel" yX10_readCrime yX10_readCrime ∈ zT := zmem 32 (by decide +kernel) rfl
theorem zw_33 : Cond.selects "SentRoadsModel" yX10_readMarks yX10_readMarks ∈ zT := zmem 33 (by decide +kernel) rfl
theorem zw_34 : Cond.selects "SentRoadsModel" yX10_readNumber yX10_readNumber ∈ zT := zmem 34 (by decide +kernel) rfl
theorem zw_35 : Cond.selects "SentRoadsModel" yX10_readPaper yX10_readPaper ∈ zT := zmem 35 (by decide +kernel) rfl
theorem zw_36 : Cond.selects "SentRoadsModel" yX10_keep yX10_keep ∈ zT := zmem 36 (by decide +kernel) rfl
theorem zw_37 : Cond.selects "SentRoadsModel" yX10_bring yX10_bring ∈ zT := zmem 37 (by decide +kernel) rfl
theorem zw_38 : Cond.selects "SentRoadsModel" yX10_lacksRow yX10_lacksRow ∈ zT := zmem 38 (by decide +kernel) rfl
theorem zin_0 : ∀ w ∈ u_ws RX0 TX0 6, w ∈ zT := by decide +kernel
theorem zin_1 : ∀ w ∈ u_ws RX1 TX1 10, w ∈ zT := by decide +kernel
theorem zin_2 : ∀ w ∈ u_ws RX2 TX2 6, w ∈ zT := by decide +kernel
theorem zin_3 : ∀ w ∈ u_ws RX3 TX3 7, w ∈ zT := by decide +kernel
theorem zin_4 : ∀ w ∈ u_ws RX4 TX4 10, w ∈ zT := by decide +kernel
theorem zin_5 : ∀ w ∈ u_ws RX5 TX5 8, w ∈ zT := by decide +kernel
theorem zin_6 : ∀ w ∈ u_ws RX6 TX6 3, w ∈ zT := by decide +kernel
theorem zin_7 : ∀ w ∈ u_ws RX7 TX7 8, w ∈ zT := by decide +kernel
theorem zin_8 : ∀ w ∈ u_ws RX8 TX8 9, w ∈ zT := by decide +kernel
theorem zin_9 : ∀ w ∈ u_ws RX9 TX9 6, w ∈ zT := by decide +kernel
theorem zin_10 : ∀ w ∈ u_ws RX10 TX10 29, w ∈ zT := by decide +kernel
theorem zf_X9_10 : zFl "SentRoads" 10 9 0 := ⟨_, _, _, rfl, by decide, zin_9, zw_426⟩
theorem zf_X9_16 : zFl "SentRoads" 16 9 1 := ⟨_, _, _, rfl, by decide, zin_9, zw_427⟩
theorem zf_X9_24 : zFl "SentRoads" 24 9 2 := ⟨_, _, _, rfl, by decide, zin_9, zw_428⟩
theorem zf_X9_31 : zFl "SentRoads" 31 9 3 := ⟨_, _, _, rfl, by decide, zin_9, zw_429⟩
theorem zf_X9_37 : zFl "SentRoads" 37 9 4 := ⟨_, _, _, rfl, by decide, zin_9, zw_430⟩
theorem zf_X9_42 : zFl "SentRoads" 42 9 5 := ⟨_, _, _, rfl, by decide, zin_9, zw_431⟩
theorem zf_X9_50 : zFl "SentRoads" 50 8 5 := ⟨_, _, _, rfl, by decide, zin_8, zw_306⟩
theorem zf_X9_54 : zFl "SentRoads" 54 8 0 := ⟨_, _, _, rfl, by decide, zin_8, zw_293⟩
theorem zf_X9_71 : zFl "SentRoads" 71 8 6 := ⟨_, _, _, rfl, by decide, zin_8, zw_308⟩
theorem zf_X9_74 : zFl "SentRoads" 74 8 1 := ⟨_, _, _, rfl, by decide, zin_8, zw_295⟩
theorem zf_X9_90 : zFl "SentRoads" 90 8 2 := ⟨_, _, _, rfl, by decide, zin_8, zw_298⟩
theorem zf_X9_108 : zFl "SentRoads" 108 7 3 := ⟨_, _, _, rfl, by decide, zin_7, zw_382⟩
theorem zf_X9_118 : zFl "SentRoads" 118 7 4 := ⟨_, _, _, rfl, by decide, zin_7, zw_384⟩
theorem zf_X9_119 : zFl "SentRoads" 119 8 7 := ⟨_, _, _, rfl, by decide, zin_8, zw_311⟩
theorem zf_X9_122 : zFl "SentRoads" 122 7 5 := ⟨_, _, _, rfl, by decide, zin_7, zw_386⟩
theorem zf_X9_123 : zFl "SentRoads" 123 7 1 := ⟨_, _, _, rfl, by decide, zin_7, zw_378⟩
theorem zf_X9_128 : zFl "SentRoads" 128 7 2 := ⟨_, _, _, rfl, by decide, zin_7, zw_380⟩
theorem zf_X9_135 : zFl "SentRoads" 135 0 0 := ⟨_, _, _, rfl, by decide, zin_0, zw_129⟩
theorem zf_X9_138 : zFl "SentRoads" 138 0 1 := ⟨_, _, _, rfl, by decide, zin_0, zw_131⟩
theorem zf_X9_141 : zFl "SentRoads" 141 0 2 := ⟨_, _, _, rfl, by decide, zin_0, zw_133⟩
theorem zf_X9_144 : zFl "SentRoads" 144 0 3 := ⟨_, _, _, rfl, by decide, zin_0, zw_135⟩
theorem zf_X9_147 : zFl "SentRoads" 147 0 4 := ⟨_, _, _, rfl, by decide, zin_0, zw_138⟩
theorem zf_X9_150 : zFl "SentRoads" 150 0 5 := ⟨_, _, _, rfl, by decide, zin_0, zw_141⟩
theorem zf_X9_156 : zFl "SentRoads" 156 4 0 := ⟨_, _, _, rfl, by decide, zin_4, zw_215⟩
theorem zf_X9_159 : zFl "SentRoads" 159 4 1 := ⟨_, _, _, rfl, by decide, zin_4, zw_218⟩
theorem zf_X9_162 : zFl "SentRoads" 162 4 2 := ⟨_, _, _, rfl, by decide, zin_4, zw_222⟩
theorem zf_X9_165 : zFl "SentRoads" 165 4 3 := ⟨_, _, _, rfl, by decide, zin_4, zw_226⟩
theorem zf_X9_168 : zFl "SentRoads" 168 4 4 := ⟨_, _, _, rfl, by decide, zin_4, zw_228⟩
theorem zf_X9_170 : zFl "SentRoads" 170 4 5 := ⟨_, _, _, rfl, by decide, zin_4, zw_230⟩
theorem zf_X9_173 : zFl "SentRoads" 173 4 6 := ⟨_, _, _, rfl, by decide, zin_4, zw_233⟩
theorem zf_X9_176 : zFl "SentRoads" 176 4 7 := ⟨_, _, _, rfl, by decide, zin_4, zw_236⟩
theorem zf_X9_182 : zFl "SentRoads" 182 1 5 := ⟨_, _, _, rfl, by decide, zin_1, zw_176⟩
theorem zf_X9_185 : zFl "SentRoads" 185 1 6 := ⟨_, _, _, rfl, by decide, zin_1, zw_178⟩
theorem zf_X9_188 : zFl "SentRoads" 188 1 8 := ⟨_, _, _, rfl, by decide, zin_1, zw_182⟩
theorem zf_X9_192 : zFl "SentRoads" 192 1 9 := ⟨_, _, _, rfl, by decide, zin_1, zw_186⟩
theorem zf_X9_204 : zFl "SentRoads" 204 6 2 := ⟨_, _, _, rfl, by decide, zin_6, zw_418⟩
theorem zf_X9_207 : zFl "SentRoads" 207 1 1 := ⟨_, _, _, rfl, by decide, zin_1, zw_165⟩
theorem zf_X9_217 : zFl "SentRoads" 217 8 8 := ⟨_, _, _, rfl, by decide, zin_8, zw_313⟩
theorem zf_X9_220 : zFl "SentRoads" 220 8 4 := ⟨_, _, _, rfl, by decide, zin_8, zw_304⟩
theorem zf_X9_224 : zFl "SentRoads" 224 3 3 := ⟨_, _, _, rfl, by decide, zin_3, zw_98⟩
theorem zf_X9_229 : zFl "SentRoads" 229 3 0 := ⟨_, _, _, rfl, by decide, zin_3, zw_89⟩
theorem zf_X9_232 : zFl "SentRoads" 232 3 1 := ⟨_, _, _, rfl, by decide, zin_3, zw_93⟩
theorem zf_X9_238 : zFl "SentRoads" 238 3 2 := ⟨_, _, _, rfl, by decide, zin_3, zw_96⟩
theorem zf_X9_241 : zFl "SentRoads" 241 1 4 := ⟨_, _, _, rfl, by decide, zin_1, zw_173⟩
theorem zf_X9_244 : zFl "SentRoads" 244 3 4 := ⟨_, _, _, rfl, by decide, zin_3, zw_100⟩
theorem zf_X9_247 : zFl "SentRoads" 247 3 5 := ⟨_, _, _, rfl, by decide, zin_3, zw_102⟩
theorem zf_X9_250 : zFl "SentRoads" 250 3 6 := ⟨_, _, _, rfl, by decide, zin_3, zw_105⟩
theorem zf_X9_300 : zFl "SentRoads" 300 8 3 := ⟨_, _, _, rfl, by decide, zin_8, zw_301⟩
theorem zf_X9_311 : zFl "SentRoads" 311 2 3 := ⟨_, _, _, rfl, by decide, zin_2, zw_274⟩
theorem zf_X9_336 : zFl "SentRoads" 336 6 1 := ⟨_, _, _, rfl, by decide, zin_6, zw_416⟩
theorem zf_X0_7 : zFl "SentRoads$Crime" 7 0 0 := ⟨_, _, _, rfl, by decide, zin_0, zw_126⟩
theorem zf_X0_13 : zFl "SentRoads$Crime" 13 0 1 := ⟨_, _, _, rfl, by decide, zin_0, zw_130⟩
theorem zf_X0_16 : zFl "SentRoads$Crime" 16 0 2 := ⟨_, _, _, rfl, by decide, zin_0, zw_132⟩
theorem zf_X0_19 : zFl "SentRoads$Crime" 19 0 3 := ⟨_, _, _, rfl, by decide, zin_0, zw_134⟩
theorem zf_X0_22 : zFl "SentRoads$Crime" 22 0 4 := ⟨_, _, _, rfl, by decide, zin_0, zw_136⟩
theorem zf_X0_25 : zFl "SentRoads$Crime" 25 0 5 := ⟨_, _, _, rfl, by decide, zin_0, zw_139⟩
theorem zf_X1_9 : zFl "SentRoads$Deed" 9 1 8 := ⟨_, _, _, rfl, by decide, zin_1, zw_180⟩
theorem zf_X1_15 : zFl "SentRoads$Deed" 15 1 9 := ⟨_, _, _, rfl, by decide, zin_1, zw_184⟩
theorem zf_X1_18 : zFl "SentRoads$Deed" 18 1 0 := ⟨_, _, _, rfl, by decide, zin_1, zw_160⟩
theorem zf_X1_22 : zFl "SentRoads$Deed" 22 1 1 := ⟨_, _, _, rfl, by decide, zin_1, zw_163⟩
theorem zf_X1_25 : zFl "SentRoads$Deed" 25 1 2 := ⟨_, _, _, rfl, by decide, zin_1, zw_166⟩
theorem zf_X1_28 : zFl "SentRoads$Deed" 28 1 3 := ⟨_, _, _, rfl, by decide, zin_1, zw_168⟩
theorem zf_X1_31 : zFl "SentRoads$Deed" 31 1 4 := ⟨_, _, _, rfl, by decide, zin_1, zw_170⟩
theorem zf_X1_39 : zFl "SentRoads$Deed" 39 1 5 := ⟨_, _, _, rfl, by decide, zin_1, zw_174⟩
theorem zf_X1_42 : zFl "SentRoads$Deed" 42 1 6 := ⟨_, _, _, rfl, by decide, zin_1, zw_177⟩
theorem zf_X1_45 : zFl "SentRoads$Deed" 45 1 7 := ⟨_, _, _, rfl, by decide, zin_1, zw_179⟩
theorem zf_X1_54 : zFl "SentRoads$Deed" 54 0 0 := ⟨_, _, _, rfl, by decide, zin_0, zw_127⟩
theorem zf_X1_61 : zFl "SentRoads$Deed" 61 0 4 := ⟨_, _, _, rfl, by decide, zin_0, zw_137⟩
theorem zf_X1_70 : zFl "SentRoads$Deed" 70 0 5 := ⟨_, _, _, rfl, by decide, zin_0, zw_140⟩
theorem zf_X2_7 : zFl "SentRoads$Demand" 7 2 0 := ⟨_, _, _, rfl, by decide, zin_2, zw_267⟩
theorem zf_X2_13 : zFl "SentRoads$Demand" 13 2 1 := ⟨_, _, _, rfl, by decide, zin_2, zw_269⟩
theorem zf_X2_16 : zFl "SentRoads$Demand" 16 2 2 := ⟨_, _, _, rfl, by decide, zin_2, zw_271⟩
theorem zf_X2_19 : zFl "SentRoads$Demand" 19 2 4 := ⟨_, _, _, rfl, by decide, zin_2, zw_275⟩
theorem zf_X2_22 : zFl "SentRoads$Demand" 22 2 5 := ⟨_, _, _, rfl, by decide, zin_2, zw_277⟩
theorem zf_X3_9 : zFl "SentRoads$Man" 9 3 5 := ⟨_, _, _, rfl, by decide, zin_3, zw_101⟩
theorem zf_X3_15 : zFl "SentRoads$Man" 15 3 6 := ⟨_, _, _, rfl, by decide, zin_3, zw_103⟩
theorem zf_X3_18 : zFl "SentRoads$Man" 18 3 1 := ⟨_, _, _, rfl, by decide, zin_3, zw_90⟩
theorem zf_X3_21 : zFl "SentRoads$Man" 21 3 4 := ⟨_, _, _, rfl, by decide, zin_3, zw_99⟩
theorem zf_X3_29 : zFl "SentRoads$Man" 29 3 0 := ⟨_, _, _, rfl, by decide, zin_3, zw_87⟩
theorem zf_X3_32 : zFl "SentRoads$Man" 32 3 2 := ⟨_, _, _, rfl, by decide, zin_3, zw_94⟩
theorem zf_X3_35 : zFl "SentRoads$Man" 35 3 3 := ⟨_, _, _, rfl, by decide, zin_3, zw_97⟩
theorem zf_X3_38 : zFl "SentRoads$Man" 38 4 1 := ⟨_, _, _, rfl, by decide, zin_4, zw_217⟩
theorem zf_X3_43 : zFl "SentRoads$Man" 43 4 2 := ⟨_, _, _, rfl, by decide, zin_4, zw_221⟩
theorem zf_X3_46 : zFl "SentRoads$Man" 46 4 8 := ⟨_, _, _, rfl, by decide, zin_4, zw_237⟩
theorem zf_X3_53 : zFl "SentRoads$Man" 53 4 9 := ⟨_, _, _, rfl, by decide, zin_4, zw_239⟩
theorem zf_X4_9 : zFl "SentRoads$Paper" 9 4 1 := ⟨_, _, _, rfl, by decide, zin_4, zw_216⟩
theorem zf_X4_15 : zFl "SentRoads$Paper" 15 4 2 := ⟨_, _, _, rfl, by decide, zin_4, zw_220⟩
theorem zf_X4_18 : zFl "SentRoads$Paper" 18 4 0 := ⟨_, _, _, rfl, by decide, zin_4, zw_214⟩
theorem zf_X4_21 : zFl "SentRoads$Paper" 21 4 3 := ⟨_, _, _, rfl, by decide, zin_4, zw_225⟩
theorem zf_X4_24 : zFl "SentRoads$Paper" 24 4 4 := ⟨_, _, _, rfl, by decide, zin_4, zw_227⟩
theorem zf_X4_27 : zFl "SentRoads$Paper" 27 4 5 := ⟨_, _, _, rfl, by decide, zin_4, zw_229⟩
theorem zf_X4_30 : zFl "SentRoads$Paper" 30 4 6 := ⟨_, _, _, rfl, by decide, zin_4, zw_232⟩
theorem zf_X4_33 : zFl "SentRoads$Paper" 33 4 7 := ⟨_, _, _, rfl, by decide, zin_4, zw_235⟩
theorem zf_X4_47 : zFl "SentRoads$Paper" 47 1 9 := ⟨_, _, _, rfl, by decide, zin_1, zw_185⟩
theorem zf_X4_53 : zFl "SentRoads$Paper" 53 1 8 := ⟨_, _, _, rfl, by decide, zin_1, zw_181⟩
theorem zf_X4_56 : zFl "SentRoads$Paper" 56 1 5 := ⟨_, _, _, rfl, by decide, zin_1, zw_175⟩
theorem zf_X4_59 : zFl "SentRoads$Paper" 59 1 0 := ⟨_, _, _, rfl, by decide, zin_1, zw_161⟩
theorem zf_X4_62 : zFl "SentRoads$Paper" 62 1 1 := ⟨_, _, _, rfl, by decide, zin_1, zw_164⟩
theorem zf_X5_12 : zFl "SentRoads$Roads" 12 5 1 := ⟨_, _, _, rfl, by decide, zin_5, zw_342⟩
theorem zf_X5_18 : zFl "SentRoads$Roads" 18 5 2 := ⟨_, _, _, rfl, by decide, zin_5, zw_343⟩
theorem zf_X5_22 : zFl "SentRoads$Roads" 22 5 3 := ⟨_, _, _, rfl, by decide, zin_5, zw_344⟩
theorem zf_X5_25 : zFl "SentRoads$Roads" 25 5 4 := ⟨_, _, _, rfl, by decide, zin_5, zw_345⟩
theorem zf_X5_28 : zFl "SentRoads$Roads" 28 5 5 := ⟨_, _, _, rfl, by decide, zin_5, zw_346⟩
theorem zf_X5_31 : zFl "SentRoads$Roads" 31 5 0 := ⟨_, _, _, rfl, by decide, zin_5, zw_341⟩
theorem zf_X5_38 : zFl "SentRoads$Roads" 38 5 6 := ⟨_, _, _, rfl, by decide, zin_5, zw_347⟩
theorem zf_X5_46 : zFl "SentRoads$Roads" 46 3 1 := ⟨_, _, _, rfl, by decide, zin_3, zw_91⟩
theorem zf_X5_58 : zFl "SentRoads$Roads" 58 5 7 := ⟨_, _, _, rfl, by decide, zin_5, zw_348⟩
theorem zf_X5_61 : zFl "SentRoads$Roads" 61 8 4 := ⟨_, _, _, rfl, by decide, zin_8, zw_303⟩
theorem zf_X5_68 : zFl "SentRoads$Roads" 68 8 2 := ⟨_, _, _, rfl, by decide, zin_8, zw_299⟩
theorem zf_X5_76 : zFl "SentRoads$Roads" 76 8 7 := ⟨_, _, _, rfl, by decide, zin_8, zw_310⟩
theorem zf_X5_102 : zFl "SentRoads$Roads" 102 4 2 := ⟨_, _, _, rfl, by decide, zin_4, zw_223⟩
theorem zf_X5_111 : zFl "SentRoads$Roads" 111 8 1 := ⟨_, _, _, rfl, by decide, zin_8, zw_296⟩
theorem zf_X5_120 : zFl "SentRoads$Roads" 120 1 4 := ⟨_, _, _, rfl, by decide, zin_1, zw_171⟩
theorem zf_X6_9 : zFl "SentRoads$Sheet" 9 6 0 := ⟨_, _, _, rfl, by decide, zin_6, zw_414⟩
theorem zf_X6_15 : zFl "SentRoads$Sheet" 15 6 1 := ⟨_, _, _, rfl, by decide, zin_6, zw_415⟩
theorem zf_X6_19 : zFl "SentRoads$Sheet" 19 6 2 := ⟨_, _, _, rfl, by decide, zin_6, zw_417⟩
theorem zf_X7_9 : zFl "SentRoads$Tape" 9 7 0 := ⟨_, _, _, rfl, by decide, zin_7, zw_376⟩
theorem zf_X7_17 : zFl "SentRoads$Tape" 17 7 1 := ⟨_, _, _, rfl, by decide, zin_7, zw_377⟩
theorem zf_X7_23 : zFl "SentRoads$Tape" 23 7 2 := ⟨_, _, _, rfl, by decide, zin_7, zw_379⟩
theorem zf_X7_29 : zFl "SentRoads$Tape" 29 7 3 := ⟨_, _, _, rfl, by decide, zin_7, zw_381⟩
theorem zf_X7_33 : zFl "SentRoads$Tape" 33 7 6 := ⟨_, _, _, rfl, by decide, zin_7, zw_387⟩
theorem zf_X7_36 : zFl "SentRoads$Tape" 36 7 7 := ⟨_, _, _, rfl, by decide, zin_7, zw_388⟩
theorem zf_X7_39 : zFl "SentRoads$Tape" 39 7 4 := ⟨_, _, _, rfl, by decide, zin_7, zw_383⟩
theorem zf_X7_42 : zFl "SentRoads$Tape" 42 7 5 := ⟨_, _, _, rfl, by decide, zin_7, zw_385⟩
theorem zf_X8_11 : zFl "SentRoads$World" 11 8 0 := ⟨_, _, _, rfl, by decide, zin_8, zw_292⟩
theorem zf_X8_19 : zFl "SentRoads$World" 19 8 1 := ⟨_, _, _, rfl, by decide, zin_8, zw_294⟩
theorem zf_X8_25 : zFl "SentRoads$World" 25 8 2 := ⟨_, _, _, rfl, by decide, zin_8, zw_297⟩
theorem zf_X8_31 : zFl "SentRoads$World" 31 8 3 := ⟨_, _, _, rfl, by decide, zin_8, zw_300⟩
theorem zf_X8_38 : zFl "SentRoads$World" 38 8 4 := ⟨_, _, _, rfl, by decide, zin_8, zw_302⟩
theorem zf_X8_46 : zFl "SentRoads$World" 46 8 5 := ⟨_, _, _, rfl, by decide, zin_8, zw_305⟩
theorem zf_X8_54 : zFl "SentRoads$World" 54 8 6 := ⟨_, _, _, rfl, by decide, zin_8, zw_307⟩
theorem zf_X8_64 : zFl "SentRoads$World" 64 8 7 := ⟨_, _, _, rfl, by decide, zin_8, zw_309⟩
theorem zf_X8_70 : zFl "SentRoads$World" 70 8 8 := ⟨_, _, _, rfl, by decide, zin_8, zw_312⟩
theorem zf_X8_73 : zFl "SentRoads$World" 73 2 0 := ⟨_, _, _, rfl, by decide, zin_2, zw_268⟩
theorem zf_X8_76 : zFl "SentRoads$World" 76 2 1 := ⟨_, _, _, rfl, by decide, zin_2, zw_270⟩
theorem zf_X8_78 : zFl "SentRoads$World" 78 2 2 := ⟨_, _, _, rfl, by decide, zin_2, zw_272⟩
theorem zf_X8_95 : zFl "SentRoads$World" 95 0 0 := ⟨_, _, _, rfl, by decide, zin_0, zw_128⟩
theorem zf_X8_104 : zFl "SentRoads$World" 104 3 0 := ⟨_, _, _, rfl, by decide, zin_3, zw_88⟩
theorem zf_X8_107 : zFl "SentRoads$World" 107 4 1 := ⟨_, _, _, rfl, by decide, zin_4, zw_219⟩
theorem zf_X8_110 : zFl "SentRoads$World" 110 1 4 := ⟨_, _, _, rfl, by decide, zin_1, zw_172⟩
theorem zf_X8_114 : zFl "SentRoads$World" 114 1 0 := ⟨_, _, _, rfl, by decide, zin_1, zw_162⟩
theorem zf_X8_117 : zFl "SentRoads$World" 117 4 2 := ⟨_, _, _, rfl, by decide, zin_4, zw_224⟩
theorem zf_X8_126 : zFl "SentRoads$World" 126 1 2 := ⟨_, _, _, rfl, by decide, zin_1, zw_167⟩
theorem zf_X8_127 : zFl "SentRoads$World" 127 4 5 := ⟨_, _, _, rfl, by decide, zin_4, zw_231⟩
theorem zf_X8_130 : zFl "SentRoads$World" 130 4 6 := ⟨_, _, _, rfl, by decide, zin_4, zw_234⟩
theorem zf_X8_133 : zFl "SentRoads$World" 133 3 2 := ⟨_, _, _, rfl, by decide, zin_3, zw_95⟩
theorem zf_X8_136 : zFl "SentRoads$World" 136 1 3 := ⟨_, _, _, rfl, by decide, zin_1, zw_169⟩
theorem zf_X8_137 : zFl "SentRoads$World" 137 4 8 := ⟨_, _, _, rfl, by decide, zin_4, zw_238⟩
theorem zf_X8_140 : zFl "SentRoads$World" 140 4 9 := ⟨_, _, _, rfl, by decide, zin_4, zw_240⟩
theorem zf_X8_150 : zFl "SentRoads$World" 150 3 1 := ⟨_, _, _, rfl, by decide, zin_3, zw_92⟩
theorem zf_X8_156 : zFl "SentRoads$World" 156 3 6 := ⟨_, _, _, rfl, by decide, zin_3, zw_104⟩
theorem zf_X8_161 : zFl "SentRoads$World" 161 2 3 := ⟨_, _, _, rfl, by decide, zin_2, zw_273⟩
theorem zf_X8_164 : zFl "SentRoads$World" 164 2 4 := ⟨_, _, _, rfl, by decide, zin_2, zw_276⟩
theorem zf_X8_167 : zFl "SentRoads$World" 167 2 5 := ⟨_, _, _, rfl, by decide, zin_2, zw_278⟩
theorem zf_X8_170 : zFl "SentRoads$World" 170 1 8 := ⟨_, _, _, rfl, by decide, zin_1, zw_183⟩
theorem zf_X10_7 : zFl "SentRoadsModel" 7 10 1 := ⟨_, _, _, rfl, by decide, zin_10, zw_1029⟩
theorem zf_X10_13 : zFl "SentRoadsModel" 13 10 3 := ⟨_, _, _, rfl, by decide, zin_10, zw_1031⟩
theorem zf_X10_16 : zFl "SentRoadsModel" 16 10 5 := ⟨_, _, _, rfl, by decide, zin_10, zw_1033⟩
theorem zf_X10_19 : zFl "SentRoadsModel" 19 10 7 := ⟨_, _, _, rfl, by decide, zin_10, zw_1035⟩
theorem zf_X10_22 : zFl "SentRoadsModel" 22 10 8 := ⟨_, _, _, rfl, by decide, zin_10, zw_1036⟩
theorem zf_X10_25 : zFl "SentRoadsModel" 25 10 9 := ⟨_, _, _, rfl, by decide, zin_10, zw_1037⟩
theorem zf_X10_28 : zFl "SentRoadsModel" 28 10 10 := ⟨_, _, _, rfl, by decide, zin_10, zw_1038⟩
theorem zf_X10_31 : zFl "SentRoadsModel" 31 10 11 := ⟨_, _, _, rfl, by decide, zin_10, zw_1039⟩
theorem zf_X10_34 : zFl "SentRoadsModel" 34 10 12 := ⟨_, _, _, rfl, by decide, zin_10, zw_1040⟩
theorem zf_X10_37 : zFl "SentRoadsModel" 37 10 14 := ⟨_, _, _, rfl, by decide, zin_10, zw_1042⟩
theorem zf_X10_40 : zFl "SentRoadsModel" 40 10 15 := ⟨_, _, _, rfl, by decide, zin_10, zw_1043⟩
theorem zf_X10_43 : zFl "SentRoadsModel" 43 10 19 := ⟨_, _, _, rfl, by decide, zin_10, zw_1047⟩
theorem zf_X10_46 : zFl "SentRoadsModel" 46 10 21 := ⟨_, _, _, rfl, by decide, zin_10, zw_1049⟩
theorem zf_X10_49 : zFl "SentRoadsModel" 49 10 23 := ⟨_, _, _, rfl, by decide, zin_10, zw_1051⟩
theorem zf_X10_52 : zFl "SentRoadsModel" 52 10 25 := ⟨_, _, _, rfl, by decide, zin_10, zw_1053⟩
theorem zf_X10_55 : zFl "SentRoadsModel" 55 10 26 := ⟨_, _, _, rfl, by decide, zin_10, zw_1054⟩
theorem zf_X10_58 : zFl "SentRoadsModel" 58 10 27 := ⟨_, _, _, rfl, by decide, zin_10, zw_1055⟩
theorem zf_X10_61 : zFl "SentRoadsModel" 61 10 28 := ⟨_, _, _, rfl, by decide, zin_10, zw_1056⟩
theorem zf_X10_73 : zFl "SentRoadsModel" 73 10 2 := ⟨_, _, _, rfl, by decide, zin_10, zw_1030⟩
theorem zf_X10_77 : zFl "SentRoadsModel" 77 10 4 := ⟨_, _, _, rfl, by decide, zin_10, zw_1032⟩
theorem zf_X10_80 : zFl "SentRoadsModel" 80 10 0 := ⟨_, _, _, rfl, by decide, zin_10, zw_1028⟩
theorem zf_X10_126 : zFl "SentRoadsModel" 126 10 6 := ⟨_, _, _, rfl, by decide, zin_10, zw_1034⟩
theorem zf_X10_168 : zFl "SentRoadsModel" 168 10 13 := ⟨_, _, _, rfl, by decide, zin_10, zw_1041⟩
theorem zf_X10_208 : zFl "SentRoadsModel" 208 10 16 := ⟨_, _, _, rfl, by decide, zin_10, zw_1044⟩
theorem zf_X10_211 : zFl "SentRoadsModel" 211 10 17 := ⟨_, _, _, rfl, by decide, zin_10, zw_1045⟩
theorem zf_X10_221 : zFl "SentRoadsModel" 221 10 18 := ⟨_, _, _, rfl, by decide, zin_10, zw_1046⟩
theorem zf_X10_233 : zFl "SentRoadsModel" 233 10 20 := ⟨_, _, _, rfl, by decide, zin_10, zw_1048⟩
theorem zf_X10_252 : zFl "SentRoadsModel" 252 10 24 := ⟨_, _, _, rfl, by decide, zin_10, zw_1052⟩
theorem zf_X10_259 : zFl "SentRoadsModel" 259 10 22 := ⟨_, _, _, rfl, by decide, zin_10, zw_1050⟩
theorem zp_0_0 : zFw 0 0 .int := ⟨_, _, _, tyX0, rfl, tyX0_ok, nmX0, rfl, by decide +kernel⟩
theorem zp_0_1 : zFw 0 1 .int := ⟨_, _, _, tyX0, rfl, tyX0_ok, nmX0, rfl, by decide +kernel⟩
theorem zp_0_2 : zFw 0 2 .int := ⟨_, _, _, tyX0, rfl, tyX0_ok, nmX0, rfl, by decide +kernel⟩
theorem zp_0_3 : zFw 0 3 .int := ⟨_, _, _, tyX0, rfl, tyX0_ok, nmX0, rfl, by decide +kernel⟩
theorem zp_0_4 : zFw 0 4 .int := ⟨_, _, _, tyX0, rfl, tyX0_ok, nmX0, rfl, by decide +kernel⟩
theorem zp_0_5 : zFw 0 5 .boolean := ⟨_, _, _, tyX0, rfl, tyX0_ok, nmX0, rfl, by decide +kernel⟩
theorem zp_1_0 : zFw 1 0 .int := ⟨_, _, _, tyX1, rfl, tyX1_ok, nmX1, rfl, by decide +kernel⟩
theorem zp_1_1 : zFw 1 1 .int := ⟨_, _, _, tyX1, rfl, tyX1_ok, nmX1, rfl, by decide +kernel⟩
theorem zp_1_2 : zFw 1 2 .int := ⟨_, _, _, tyX1, rfl, tyX1_ok, nmX1, rfl, by decide +kernel⟩
theorem zp_1_3 : zFw 1 3 .int := ⟨_, _, _, tyX1, rfl, tyX1_ok, nmX1, rfl, by decide +kernel⟩
theorem zp_1_4 : zFw 1 4 .boolean := ⟨_, _, _, tyX1, rfl, tyX1_ok, nmX1, rfl, by decide +kernel⟩
theorem zp_1_5 : zFw 1 5 .int := ⟨_, _, _, tyX1, rfl, tyX1_ok, nmX1, rfl, by decide +kernel⟩
theorem zp_1_6 : zFw 1 6 .int := ⟨_, _, _, tyX1, rfl, tyX1_ok, nmX1, rfl, by decide +kernel⟩
theorem zp_1_7 : zFw 1 7 .int := ⟨_, _, _, tyX1, rfl, tyX1_ok, nmX1, rfl, by decide +kernel⟩
theorem zp_2_0 : zFw 2 0 .int := ⟨_, _, _, tyX2, rfl, tyX2_ok, nmX2, rfl, by decide +kernel⟩
theorem zp_2_1 : zFw 2 1 .int := ⟨_, _, _, tyX2, rfl, tyX2_ok, nmX2, rfl, by decide +kernel⟩
theorem zp_2_2 : zFw 2 2 .int := ⟨_, _, _, tyX2, rfl, tyX2_ok, nmX2, rfl, by decide +kernel⟩
theorem zp_2_3 : zFw 2 3 .int := ⟨_, _, _, tyX2, rfl, tyX2_ok, nmX2, rfl, by decide +kernel⟩
theorem zp_2_4 : zFw 2 4 .int := ⟨_, _, _, tyX2, rfl, tyX2_ok, nmX2, rfl, by decide +kernel⟩
theorem zp_2_5 : zFw 2 5 .boolean := ⟨_, _, _, tyX2, rfl, tyX2_ok, nmX2, rfl, by decide +kernel⟩
theorem zp_3_0 : zFw 3 0 .int := ⟨_, _, _, tyX3, rfl, tyX3_ok, nmX3, rfl, by decide +kernel⟩
theorem zp_3_1 : zFw 3 1 .int := ⟨_, _, _, tyX3, rfl, tyX3_ok, nmX3, rfl, by decide +kernel⟩
theorem zp_3_2 : zFw 3 2 .int := ⟨_, _, _, tyX3, rfl, tyX3_ok, nmX3, rfl, by decide +kernel⟩
theorem zp_3_3 : zFw 3 3 .int := ⟨_, _, _, tyX3, rfl, tyX3_ok, nmX3, rfl, by decide +kernel⟩
theorem zp_3_4 : zFw 3 4 .boolean := ⟨_, _, _, tyX3, rfl, tyX3_ok, nmX3, rfl, by decide +kernel⟩
theorem zp_3_5 : zFw 3 5 .int := ⟨_, _, _, tyX3, rfl, tyX3_ok, nmX3, rfl, by decide +kernel⟩
theorem zp_3_6 : zFw 3 6 .int := ⟨_, _, _, tyX3, rfl, tyX3_ok, nmX3, rfl, by decide +kernel⟩
theorem zp_4_0 : zFw 4 0 .int := ⟨_, _, _, tyX4, rfl, tyX4_ok, nmX4, rfl, by decide +kernel⟩
theorem zp_4_1 : zFw 4 1 .int := ⟨_, _, _, tyX4, rfl, tyX4_ok, nmX4, rfl, by decide +kernel⟩
theorem zp_4_2 : zFw 4 2 .int := ⟨_, _, _, tyX4, rfl, tyX4_ok, nmX4, rfl, by decide +kernel⟩
theorem zp_4_3 : zFw 4 3 .int := ⟨_, _, _, tyX4, rfl, tyX4_ok, nmX4, rfl, by decide +kernel⟩
theorem zp_4_4 : zFw 4 4 .int := ⟨_, _, _, tyX4, rfl, tyX4_ok, nmX4, rfl, by decide +kernel⟩
theorem zp_4_5 : zFw 4 5 .int := ⟨_, _, _, tyX4, rfl, tyX4_ok, nmX4, rfl, by decide +kernel⟩
theorem zp_4_6 : zFw 4 6 .int := ⟨_, _, _, tyX4, rfl, tyX4_ok, nmX4, rfl, by decide +kernel⟩
theorem zp_4_7 : zFw 4 7 .int := ⟨_, _, _, tyX4, rfl, tyX4_ok, nmX4, rfl, by decide +kernel⟩
theorem zp_4_8 : zFw 4 8 .int := ⟨_, _, _, tyX4, rfl, tyX4_ok, nmX4, rfl, by decide +kernel⟩
theorem zp_4_9 : zFw 4 9 .int := ⟨_, _, _, tyX4, rfl, tyX4_ok, nmX4, rfl, by decide +kernel⟩
theorem zp_5_6 : zFw 5 6 .int := ⟨_, _, _, tyX5, rfl, tyX5_ok, nmX5, rfl, by decide +kernel⟩
theorem zp_5_7 : zFw 5 7 .int := ⟨_, _, _, tyX5, rfl, tyX5_ok, nmX5, rfl, by decide +kernel⟩
theorem zp_6_1 : zFw 6 1 .int := ⟨_, _, _, tyX6, rfl, tyX6_ok, nmX6, rfl, by decide +kernel⟩
theorem zp_6_2 : zFw 6 2 .int := ⟨_, _, _, tyX6, rfl, tyX6_ok, nmX6, rfl, by decide +kernel⟩
theorem zp_7_3 : zFw 7 3 .int := ⟨_, _, _, tyX7, rfl, tyX7_ok, nmX7, rfl, by decide +kernel⟩
theorem zp_7_4 : zFw 7 4 .int := ⟨_, _, _, tyX7, rfl, tyX7_ok, nmX7, rfl, by decide +kernel⟩
theorem zp_7_5 : zFw 7 5 .int := ⟨_, _, _, tyX7, rfl, tyX7_ok, nmX7, rfl, by decide +kernel⟩
theorem zp_7_6 : zFw 7 6 .int := ⟨_, _, _, tyX7, rfl, tyX7_ok, nmX7, rfl, by decide +kernel⟩
theorem zp_7_7 : zFw 7 7 .int := ⟨_, _, _, tyX7, rfl, tyX7_ok, nmX7, rfl, by decide +kernel⟩
theorem zp_8_5 : zFw 8 5 .int := ⟨_, _, _, tyX8, rfl, tyX8_ok, nmX8, rfl, by decide +kernel⟩
theorem zp_8_6 : zFw 8 6 .int := ⟨_, _, _, tyX8, rfl, tyX8_ok, nmX8, rfl, by decide +kernel⟩
theorem zp_8_7 : zFw 8 7 .int := ⟨_, _, _, tyX8, rfl, tyX8_ok, nmX8, rfl, by decide +kernel⟩
theorem zp_8_8 : zFw 8 8 .int := ⟨_, _, _, tyX8, rfl, tyX8_ok, nmX8, rfl, by decide +kernel⟩
theorem zp_9_5 : zFw 9 5 .boolean := ⟨_, _, _, tyX9, rfl, tyX9_ok, nmX9, rfl, by decide +kernel⟩
theorem zp_10_0 : zFw 10 0 .int := ⟨_, _, _, tyX10, rfl, tyX10_ok, nmX10, rfl, by decide +kernel⟩
theorem zp_10_2 : zFw 10 2 .int := ⟨_, _, _, tyX10, rfl, tyX10_ok, nmX10, rfl, by decide +kernel⟩
theorem zp_10_4 : zFw 10 4 .int := ⟨_, _, _, tyX10, rfl, tyX10_ok, nmX10, rfl, by decide +kernel⟩
theorem zp_10_6 : zFw 10 6 .int := ⟨_, _, _, tyX10, rfl, tyX10_ok, nmX10, rfl, by decide +kernel⟩
theorem zp_10_13 : zFw 10 13 .int := ⟨_, _, _, tyX10, rfl, tyX10_ok, nmX10, rfl, by decide +kernel⟩
theorem zp_10_16 : zFw 10 16 .int := ⟨_, _, _, tyX10, rfl, tyX10_ok, nmX10, rfl, by decide +kernel⟩
theorem zp_10_17 : zFw 10 17 .int := ⟨_, _, _, tyX10, rfl, tyX10_ok, nmX10, rfl, by decide +kernel⟩
theorem zp_10_18 : zFw 10 18 .int := ⟨_, _, _, tyX10, rfl, tyX10_ok, nmX10, rfl, by decide +kernel⟩
theorem zp_10_20 : zFw 10 20 .int := ⟨_, _, _, tyX10, rfl, tyX10_ok, nmX10, rfl, by decide +kernel⟩
theorem zp_10_22 : zFw 10 22 .boolean := ⟨_, _, _, tyX10, rfl, tyX10_ok, nmX10, rfl, by decide +kernel⟩
theorem zp_10_24 : zFw 10 24 .int := ⟨_, _, _, tyX10, rfl, tyX10_ok, nmX10, rfl, by decide +kernel⟩
theorem zk_X9_46 : zCs "SentRoads" 46 yX9_isLand cX9_isLand 1 (some .boolean) 1 := ⟨zw_449, zw_450, zw_40, zw_451, ⟨by decide +kernel, by decide +kernel, by decide +kernel⟩, by decide⟩
theorem zk_X9_58 : zCv "SentRoads" 58 yX0_tell cX0_tell 7 none 6 := ⟨zw_452, zw_453, zw_454, zw_43, zw_455, ⟨by decide +kernel, by decide +kernel, by decide +kernel⟩, by decide⟩
theorem zk_X9_64 : zCv "SentRoads" 64 yX8_takeCrime cX8_takeCrime 2 (some .int) 0 := ⟨zw_456, zw_457, zw_458, zw_41, zw_459, ⟨by decide +kernel, by decide +kernel, by decide +kernel⟩, by decide⟩
theorem zk_X9_68 : zCs "SentRoads" 68 yX9_isYear cX9_isYear 1 (some .boolean) 1 := ⟨zw_475, zw_476, zw_40, zw_477, ⟨by decide +kernel, by decide +kernel, by decide +kernel⟩, by decide⟩
theorem zk_X9_78 : zCv "SentRoads" 78 yX1_tell cX1_tell 5 none 4 := ⟨zw_478, zw_479, zw_480, zw_44, zw_481, ⟨by decide +kernel, by decide +kernel, by decide +kernel⟩, by decide⟩
theorem zk_X9_83 : zCv "SentRoads" 83 yX8_takeDeed cX8_takeDeed 1 (some .int) 0 := ⟨zw_482, zw_483, zw_484, zw_41, zw_485, ⟨by decide +kernel, by decide +kernel, by decide +kernel⟩, by decide⟩
theorem zk_X9_86 : zCv "SentRoads" 86 yX9_addPaper cX9_addPaper 7 (some .int) 5 := ⟨zw_501, zw_503, zw_0, zw_40, zw_504, ⟨by decide +kernel, by decide +kernel, by decide +kernel⟩, by decide⟩
theorem zk_X9_94 : zCv "SentRoads" 94 yX4_become cX4_become 4 none 3 := ⟨zw_517, zw_518, zw_519, zw_45, zw_520, ⟨by decide +kernel, by decide +kernel, by decide +kernel⟩, by decide⟩
theorem zk_X9_100 : zCv "SentRoads" 100 yX8_crimesOf cX8_crimesOf 4 (some .int) 1 := ⟨zw_525, zw_526, zw_527, zw_41, zw_528, ⟨by decide +kernel, by decide +kernel, by decide +kernel⟩, by decide⟩
theorem zk_X9_104 : zCs "SentRoads" 104 yX9_byteOf cX9_byteOf 3 (some .int) 2 := ⟨zw_537, zw_538, zw_40, zw_539, ⟨by decide +kernel, by decide +kernel, by decide +kernel⟩, by decide⟩
theorem zk_X9_111 : zCv "SentRoads" 111 yX7_write cX7_write 2 none 1 := ⟨zw_540, zw_541, zw_542, zw_48, zw_543, ⟨by decide +kernel, by decide +kernel, by decide +kernel⟩, by decide⟩
theorem zk_X9_115 : zCv "SentRoads" 115 yX7_parse cX7_parse 2 (some .int) 0 := ⟨zw_548, zw_549, zw_550, zw_48, zw_551, ⟨by decide +kernel, by decide +kernel, by decide +kernel⟩, by decide⟩
theorem zk_X9_124 : zCv "SentRoads" 124 yX0_copy cX0_copy 2 none 1 := ⟨zw_694, zw_695, zw_696, zw_43, zw_697, ⟨by decide +kernel, by decide +kernel, by decide +kernel⟩, by decide⟩
theorem zk_X9_129 : zCv "SentRoads" 129 yX4_copy cX4_copy 2 none 1 := ⟨zw_699, zw_700, zw_701, zw_45, zw_702, ⟨by decide +kernel, by decide +kernel, by decide +kernel⟩, by decide⟩
theorem zk_X9_132 : zCv "SentRoads" 132 yX8_takePaper cX8_takePaper 1 (some .int) 0 := ⟨zw_513, zw_514, zw_515, zw_41, zw_516, ⟨by decide +kernel, by decide +kernel, by decide +kernel⟩, by decide⟩
theorem zk_X9_153 : zCv "SentRoads" 153 yX9_isPaper cX9_isPaper 2 (some .boolean) 1 := ⟨zw_715, zw_717, zw_1, zw_40, zw_718, ⟨by decide +kernel, by decide +kernel, by decide +kernel⟩, by decide⟩
theorem zk_X9_179 : zCv "SentRoads" 179 yX9_isDeed cX9_isDeed 2 (some .boolean) 1 := ⟨zw_727, zw_729, zw_2, zw_40, zw_730, ⟨by decide +kernel, by decide +kernel, by decide +kernel⟩, by decide⟩
theorem zk_X9_195 : zCs "SentRoads" 195 yX9_isSheet cX9_isSheet 1 (some .boolean) 1 := ⟨zw_739, zw_740, zw_40, zw_741, ⟨by decide +kernel, by decide +kernel, by decide +kernel⟩, by decide⟩
theorem zk_X9_198 : zCs "SentRoads" 198 yX9_isLane cX9_isLane 1 (some .boolean) 1 := ⟨zw_742, zw_743, zw_40, zw_744, ⟨by decide +kernel, by decide +kernel, by decide +kernel⟩, by decide⟩
theorem zk_X9_201 : zCv "SentRoads" 201 yX6_refuse cX6_refuse 2 (some .int) 1 := ⟨zw_745, zw_746, zw_747, zw_49, zw_748, ⟨by decide +kernel, by decide +kernel, by decide +kernel⟩, by decide⟩
theorem zk_X9_210 : zCv "SentRoads" 210 yX6_marksFrom cX6_marksFrom 4 (some .int) 1 := ⟨zw_749, zw_750, zw_751, zw_49, zw_752, ⟨by decide +kernel, by decide +kernel, by decide +kernel⟩, by decide⟩
theorem zk_X9_213 : zCv "SentRoads" 213 yX8_learnAgain cX8_learnAgain 3 none 1 := ⟨zw_753, zw_487, zw_488, zw_41, zw_489, ⟨by decide +kernel, by decide +kernel, by decide +kernel⟩, by decide⟩
theorem zk_X9_235 : zCv "SentRoads" 235 yX3_sit cX3_sit 2 none 1 := ⟨zw_762, zw_763, zw_764, zw_42, zw_765, ⟨by decide +kernel, by decide +kernel, by decide +kernel⟩, by decide⟩
theorem zk_X9_252 : zCv "SentRoads" 252 yX8_allDeeds cX8_allDeeds 1 (some .int) 0 := ⟨zw_774, zw_775, zw_776, zw_41, zw_777, ⟨by decide +kernel, by decide +kernel, by decide +kernel⟩, by decide⟩
theorem zk_X9_255 : zCv "SentRoads" 255 yX8_coveredBy cX8_coveredBy 4 (some .int) 1 := ⟨zw_782, zw_783, zw_784, zw_41, zw_785, ⟨by decide +kernel, by decide +kernel, by decide +kernel⟩, by decide⟩
theorem zk_X9_259 : zCv "SentRoads" 259 yX8_weigh cX8_weigh 4 none 1 := ⟨zw_794, zw_795, zw_796, zw_41, zw_797, ⟨by decide +kernel, by decide +kernel, by decide +kernel⟩, by decide⟩
theorem zk_X9_262 : zCv "SentRoads" 262 yX3_goesBy cX3_goesBy 3 (some .int) 1 := ⟨zw_810, zw_811, zw_812, zw_42, zw_813, ⟨by decide +kernel, by decide +kernel, by decide +kernel⟩, by decide⟩
theorem zk_X9_265 : zCv "SentRoads" 265 yX8_barsAgainst cX8_barsAgainst 4 (some .int) 2 := ⟨zw_819, zw_799, zw_800, zw_41, zw_801, ⟨by decide +kernel, by decide +kernel, by decide +kernel⟩, by decide⟩
theorem zk_X9_269 : zCv "SentRoads" 269 yX9_lets cX9_lets 3 (some .int) 1 := ⟨zw_824, zw_791, zw_792, zw_40, zw_793, ⟨by decide +kernel, by decide +kernel, by decide +kernel⟩, by decide⟩
theorem zk_X9_272 : zCv "SentRoads" 272 yX3_go cX3_go 3 none 2 := ⟨zw_825, zw_826, zw_827, zw_42, zw_828, ⟨by decide +kernel, by decide +kernel, by decide +kernel⟩, by decide⟩
theorem zk_X9_276 : zCv "SentRoads" 276 yX8_triedBy cX8_triedBy 4 (some .int) 1 := ⟨zw_833, zw_834, zw_835, zw_41, zw_836, ⟨by decide +kernel, by decide +kernel, by decide +kernel⟩, by decide⟩
theorem zk_X9_280 : zCv "SentRoads" 280 yX8_weighAll cX8_weighAll 2 none 0 := ⟨zw_845, zw_846, zw_847, zw_41, zw_848, ⟨by decide +kernel, by decide +kernel, by decide +kernel⟩, by decide⟩
theorem zk_X9_283 : zCv "SentRoads" 283 yX5_find cX5_find 4 (some .int) 2 := ⟨zw_850, zw_851, zw_852, zw_47, zw_853, ⟨by decide +kernel, by decide +kernel, by decide +kernel⟩, by decide⟩
theorem zk_X9_287 : zCv "SentRoads" 287 yX5_lengthTo cX5_lengthTo 4 (some .int) 1 := ⟨zw_874, zw_875, zw_876, zw_47, zw_877, ⟨by decide +kernel, by decide +kernel, by decide +kernel⟩, by decide⟩
theorem zk_X9_290 : zCv "SentRoads" 290 yX5_paperOn cX5_paperOn 5 (some .int) 2 := ⟨zw_878, zw_879, zw_880, zw_47, zw_881, ⟨by decide +kernel, by decide +kernel, by decide +kernel⟩, by decide⟩
theorem zk_X9_293 : zCv "SentRoads" 293 yX5_reach cX5_reach 3 (some .int) 0 := ⟨zw_886, zw_887, zw_888, zw_47, zw_889, ⟨by decide +kernel, by decide +kernel, by decide +kernel⟩, by decide⟩
theorem zk_X9_296 : zCv "SentRoads" 296 yX5_safeLands cX5_safeLands 6 (some .int) 1 := ⟨zw_894, zw_895, zw_896, zw_47, zw_897, ⟨by decide +kernel, by decide +kernel, by decide +kernel⟩, by decide⟩
theorem zk_X9_304 : zCv "SentRoads" 304 yX2_tell cX2_tell 4 none 3 := ⟨zw_903, zw_904, zw_905, zw_46, zw_906, ⟨by decide +kernel, by decide +kernel, by decide +kernel⟩, by decide⟩
theorem zk_X9_308 : zCv "SentRoads" 308 yX8_weighDemands cX8_weighDemands 4 none 0 := ⟨zw_911, zw_912, zw_913, zw_41, zw_914, ⟨by decide +kernel, by decide +kernel, by decide +kernel⟩, by decide⟩
theorem zk_X9_314 : zCv "SentRoads" 314 yX8_placeOf cX8_placeOf 5 (some .int) 1 := ⟨zw_921, zw_922, zw_923, zw_41, zw_924, ⟨by decide +kernel, by decide +kernel, by decide +kernel⟩, by decide⟩
theorem zk_X9_317 : zCs "SentRoads" 317 yX9_isLess cX9_isLess 3 (some .boolean) 2 := ⟨zw_933, zw_934, zw_40, zw_935, ⟨by decide +kernel, by decide +kernel, by decide +kernel⟩, by decide⟩
theorem zk_X9_321 : zCv "SentRoads" 321 yX8_weighAlone cX8_weighAlone 4 none 1 := ⟨zw_946, zw_947, zw_948, zw_41, zw_949, ⟨by decide +kernel, by decide +kernel, by decide +kernel⟩, by decide⟩
theorem zk_X9_324 : zCv "SentRoads" 324 yX5_fewestBars cX5_fewestBars 6 (some .int) 2 := ⟨zw_950, zw_951, zw_952, zw_47, zw_953, ⟨by decide +kernel, by decide +kernel, by decide +kernel⟩, by decide⟩
theorem zk_X9_327 : zCv "SentRoads" 327 yX8_landsWhereCrime cX8_landsWhereCrime 4 (some .int) 1 := ⟨zw_967, zw_968, zw_969, zw_41, zw_970, ⟨by decide +kernel, by decide +kernel, by decide +kernel⟩, by decide⟩
theorem zk_X9_330 : zCv "SentRoads" 330 yX8_copy cX8_copy 3 none 1 := ⟨zw_976, zw_977, zw_978, zw_41, zw_979, ⟨by decide +kernel, by decide +kernel, by decide +kernel⟩, by decide⟩
theorem zk_X9_332 : zCv "SentRoads" 332 yX6_begin cX6_begin 3 none 2 := ⟨zw_1001, zw_1002, zw_1003, zw_49, zw_1004, ⟨by decide +kernel, by decide +kernel, by decide +kernel⟩, by decide⟩
theorem zk_X9_339 : zCv "SentRoads" 339 yX6_put cX6_put 3 none 2 := ⟨zw_1014, zw_1015, zw_1016, zw_49, zw_1017, ⟨by decide +kernel, by decide +kernel, by decide +kernel⟩, by decide⟩
theorem zk_X9_342 : zCv "SentRoads" 342 yX4_lead cX4_lead 3 none 2 := ⟨zw_505, zw_506, zw_507, zw_45, zw_508, ⟨by decide +kernel, by decide +kernel, by decide +kernel⟩, by decide⟩
theorem zk_X9_345 : zCv "SentRoads" 345 yX4_rule cX4_rule 4 none 3 := ⟨zw_509, zw_510, zw_511, zw_45, zw_512, ⟨by decide +kernel, by decide +kernel, by decide +kernel⟩, by decide⟩
theorem zk_X9_348 : zCs "SentRoads" 348 yJ6_bitCount_0f7a4 cJ6_bitCount_0f7a4 1 (some .int) 1 := ⟨zw_936, zw_937, zw_58, zw_938, ⟨by decide +kernel, by decide +kernel, by decide +kernel⟩, by decide⟩
theorem zk_X0_29 : zCv "SentRoads$Crime" 29 yX0_tell cX0_tell 7 none 6 := ⟨zw_698, zw_453, zw_454, zw_43, zw_455, ⟨by decide +kernel, by decide +kernel, by decide +kernel⟩, by decide⟩
theorem zk_X1_35 : zCv "SentRoads$Deed" 35 yX1_tell cX1_tell 5 none 4 := ⟨zw_985, zw_479, zw_480, zw_44, zw_481, ⟨by decide +kernel, by decide +kernel, by decide +kernel⟩, by decide⟩
theorem zk_X1_48 : zCs "SentRoads$Deed" 48 yJ7_fill_53178 cJ7_fill_53178 4 none 2 := ⟨zw_494, zw_495, zw_52, zw_496, ⟨by decide +kernel, by decide +kernel, by decide +kernel⟩, by decide⟩
theorem zk_X1_57 : zCv "SentRoads$Deed" 57 yX0_isMarks cX0_isMarks 2 (some .boolean) 1 := ⟨zw_464, zw_465, zw_466, zw_43, zw_467, ⟨by decide +kernel, by decide +kernel, by decide +kernel⟩, by decide⟩
theorem zk_X1_64 : zCs "SentRoads$Deed" 64 yJ9_max_7cf53 cJ9_max_7cf53 2 (some .int) 2 := ⟨zw_468, zw_469, zw_51, zw_470, ⟨by decide +kernel, by decide +kernel, by decide +kernel⟩, by decide⟩
theorem zk_X3_25 : zCv "SentRoads$Man" 25 yX3_stand cX3_stand 2 none 1 := ⟨zw_992, zw_863, zw_864, zw_42, zw_865, ⟨by decide +kernel, by decide +kernel, by decide +kernel⟩, by decide⟩
theorem zk_X3_49 : zCv "SentRoads$Man" 49 yX4_pledges cX4_pledges 2 (some .boolean) 1 := ⟨zw_814, zw_807, zw_808, zw_45, zw_809, ⟨by decide +kernel, by decide +kernel, by decide +kernel⟩, by decide⟩
theorem zk_X4_36 : zCv "SentRoads$Paper" 36 yX4_lead cX4_lead 3 none 2 := ⟨zw_703, zw_506, zw_507, zw_45, zw_508, ⟨by decide +kernel, by decide +kernel, by decide +kernel⟩, by decide⟩
theorem zk_X4_40 : zCv "SentRoads$Paper" 40 yX4_become cX4_become 4 none 3 := ⟨zw_704, zw_518, zw_519, zw_45, zw_520, ⟨by decide +kernel, by decide +kernel, by decide +kernel⟩, by decide⟩
theorem zk_X4_44 : zCv "SentRoads$Paper" 44 yX4_rule cX4_rule 4 none 3 := ⟨zw_705, zw_510, zw_511, zw_45, zw_512, ⟨by decide +kernel, by decide +kernel, by decide +kernel⟩, by decide⟩
theorem zk_X5_35 : zCv "SentRoads$Roads" 35 yX5_begin cX5_begin 1 none 0 := ⟨zw_854, zw_855, zw_856, zw_47, zw_857, ⟨by decide +kernel, by decide +kernel, by decide +kernel⟩, by decide⟩
theorem zk_X5_42 : zCv "SentRoads$Roads" 42 yX5_placeWalker cX5_placeWalker 2 none 1 := ⟨zw_858, zw_859, zw_860, zw_47, zw_861, ⟨by decide +kernel, by decide +kernel, by decide +kernel⟩, by decide⟩
theorem zk_X5_49 : zCv "SentRoads$Roads" 49 yX8_triedBy cX8_triedBy 4 (some .int) 1 := ⟨zw_867, zw_834, zw_835, zw_41, zw_836, ⟨by decide +kernel, by decide +kernel, by decide +kernel⟩, by decide⟩
theorem zk_X5_55 : zCv "SentRoads$Roads" 55 yX5_spread cX5_spread 5 none 1 := ⟨zw_868, zw_869, zw_870, zw_47, zw_871, ⟨by decide +kernel, by decide +kernel, by decide +kernel⟩, by decide⟩
theorem zk_X5_64 : zCv "SentRoads$Roads" 64 yX3_stand cX3_stand 2 none 1 := ⟨zw_862, zw_863, zw_864, zw_42, zw_865, ⟨by decide +kernel, by decide +kernel, by decide +kernel⟩, by decide⟩
theorem zk_X5_72 : zCv "SentRoads$Roads" 72 yX3_go cX3_go 3 none 2 := ⟨zw_866, zw_826, zw_827, zw_42, zw_828, ⟨by decide +kernel, by decide +kernel, by decide +kernel⟩, by decide⟩
theorem zk_X5_79 : zCv "SentRoads$Roads" 79 yX3_goesBy cX3_goesBy 3 (some .int) 1 := ⟨zw_872, zw_811, zw_812, zw_42, zw_813, ⟨by decide +kernel, by decide +kernel, by decide +kernel⟩, by decide⟩
theorem zk_X5_83 : zCv "SentRoads$Roads" 83 yX4_pledges cX4_pledges 2 (some .boolean) 1 := ⟨zw_873, zw_807, zw_808, zw_45, zw_809, ⟨by decide +kernel, by decide +kernel, by decide +kernel⟩, by decide⟩
theorem zk_X5_89 : zCv "SentRoads$Roads" 89 yX3_sit cX3_sit 2 none 1 := ⟨zw_898, zw_763, zw_764, zw_42, zw_765, ⟨by decide +kernel, by decide +kernel, by decide +kernel⟩, by decide⟩
theorem zk_X5_92 : zCs "SentRoads$Roads" 92 yJ7_fill_53178 cJ7_fill_53178 4 none 2 := ⟨zw_954, zw_495, zw_52, zw_496, ⟨by decide +kernel, by decide +kernel, by decide +kernel⟩, by decide⟩
theorem zk_X5_98 : zCv "SentRoads$Roads" 98 yX5_relax cX5_relax 7 (some .boolean) 2 := ⟨zw_955, zw_956, zw_957, zw_47, zw_958, ⟨by decide +kernel, by decide +kernel, by decide +kernel⟩, by decide⟩
theorem zk_X5_105 : zCs "SentRoads$Roads" 105 yJ9_min_7cf53 cJ9_min_7cf53 2 (some .int) 2 := ⟨zw_961, zw_586, zw_51, zw_587, ⟨by decide +kernel, by decide +kernel, by decide +kernel⟩, by decide⟩
theorem zk_X5_115 : zCv "SentRoads$Roads" 115 yX1_isCrime cX1_isCrime 2 (some .boolean) 1 := ⟨zw_962, zw_838, zw_839, zw_44, zw_840, ⟨by decide +kernel, by decide +kernel, by decide +kernel⟩, by decide⟩
theorem zk_X5_124 : zCv "SentRoads$Roads" 124 yX8_barsAgainst cX8_barsAgainst 4 (some .int) 2 := ⟨zw_959, zw_799, zw_800, zw_41, zw_801, ⟨by decide +kernel, by decide +kernel, by decide +kernel⟩, by decide⟩
theorem zk_X5_128 : zCs "SentRoads$Roads" 128 yJ6_bitCount_0f7a4 cJ6_bitCount_0f7a4 1 (some .int) 1 := ⟨zw_960, zw_937, zw_58, zw_938, ⟨by decide +kernel, by decide +kernel, by decide +kernel⟩, by decide⟩
theorem zk_X6_22 : zCs "SentRoads$Sheet" 22 yJ7_fill_53178 cJ7_fill_53178 4 none 2 := ⟨zw_1005, zw_495, zw_52, zw_496, ⟨by decide +kernel, by decide +kernel, by decide +kernel⟩, by decide⟩
theorem zk_X7_45 : zCv "SentRoads$Tape" 45 yX7_readClause cX7_readClause 2 none 0 := ⟨zw_552, zw_553, zw_554, zw_48, zw_555, ⟨by decide +kernel, by decide +kernel, by decide +kernel⟩, by decide⟩
theorem zk_X7_48 : zCv "SentRoads$Tape" 48 yX7_takes cX7_takes 3 (some .boolean) 1 := ⟨zw_569, zw_570, zw_571, zw_48, zw_572, ⟨by decide +kernel, by decide +kernel, by decide +kernel⟩, by decide⟩
theorem zk_X7_52 : zCv "SentRoads$Tape" 52 yX7_next cX7_next 1 (some .int) 0 := ⟨zw_560, zw_561, zw_562, zw_48, zw_563, ⟨by decide +kernel, by decide +kernel, by decide +kernel⟩, by decide⟩
theorem zk_X7_56 : zCv "SentRoads$Tape" 56 yX7_fail cX7_fail 2 none 1 := ⟨zw_565, zw_566, zw_567, zw_48, zw_568, ⟨by decide +kernel, by decide +kernel, by decide +kernel⟩, by decide⟩
theorem zk_X7_60 : zCv "SentRoads$Tape" 60 yX7_readLand cX7_readLand 3 (some .int) 1 := ⟨zw_556, zw_557, zw_558, zw_48, zw_559, ⟨by decide +kernel, by decide +kernel, by decide +kernel⟩, by decide⟩
theorem zk_X7_64 : zCv "SentRoads$Tape" 64 yX7_readCrime cX7_readCrime 7 none 1 := ⟨zw_573, zw_574, zw_575, zw_48, zw_576, ⟨by decide +kernel, by decide +kernel, by decide +kernel⟩, by decide⟩
theorem zk_X7_67 : zCv "SentRoads$Tape" 67 yX7_readPaper cX7_readPaper 9 none 1 := ⟨zw_594, zw_595, zw_596, zw_48, zw_597, ⟨by decide +kernel, by decide +kernel, by decide +kernel⟩, by decide⟩
theorem zk_X7_70 : zCv "SentRoads$Tape" 70 yX7_readMarks cX7_readMarks 6 (some .int) 1 := ⟨zw_577, zw_578, zw_579, zw_48, zw_580, ⟨by decide +kernel, by decide +kernel, by decide +kernel⟩, by decide⟩
theorem zk_X7_73 : zCv "SentRoads$Tape" 73 yX7_readNumber cX7_readNumber 5 (some .int) 2 := ⟨zw_581, zw_582, zw_583, zw_48, zw_584, ⟨by decide +kernel, by decide +kernel, by decide +kernel⟩, by decide⟩
theorem zk_X7_77 : zCv "SentRoads$Tape" 77 yX7_need cX7_need 2 none 1 := ⟨zw_588, zw_589, zw_590, zw_48, zw_591, ⟨by decide +kernel, by decide +kernel, by decide +kernel⟩, by decide⟩
theorem zk_X7_80 : zCs "SentRoads$Tape" 80 yJ9_max_7cf53 cJ9_max_7cf53 2 (some .int) 2 := ⟨zw_592, zw_469, zw_51, zw_470, ⟨by decide +kernel, by decide +kernel, by decide +kernel⟩, by decide⟩
theorem zk_X7_85 : zCv "SentRoads$Tape" 85 yX0_tell cX0_tell 7 none 6 := ⟨zw_593, zw_453, zw_454, zw_43, zw_455, ⟨by decide +kernel, by decide +kernel, by decide +kernel⟩, by decide⟩
theorem zk_X7_91 : zCv "SentRoads$Tape" 91 yX7_readLetters cX7_readLetters 8 (some .int) 2 := ⟨zw_599, zw_600, zw_601, zw_48, zw_602, ⟨by decide +kernel, by decide +kernel, by decide +kernel⟩, by decide⟩
theorem zk_X7_95 : zCv "SentRoads$Tape" 95 yX7_readPromises cX7_readPromises 2 (some .int) 0 := ⟨zw_686, zw_687, zw_688, zw_48, zw_689, ⟨by decide +kernel, by decide +kernel, by decide +kernel⟩, by decide⟩
theorem zk_X7_98 : zCv "SentRoads$Tape" 98 yX4_lead cX4_lead 3 none 2 := ⟨zw_691, zw_506, zw_507, zw_45, zw_508, ⟨by decide +kernel, by decide +kernel, by decide +kernel⟩, by decide⟩
theorem zk_X7_102 : zCv "SentRoads$Tape" 102 yX4_become cX4_become 4 none 3 := ⟨zw_692, zw_518, zw_519, zw_45, zw_520, ⟨by decide +kernel, by decide +kernel, by decide +kernel⟩, by decide⟩
theorem zk_X7_106 : zCv "SentRoads$Tape" 106 yX4_rule cX4_rule 4 none 3 := ⟨zw_693, zw_510, zw_511, zw_45, zw_512, ⟨by decide +kernel, by decide +kernel, by decide +kernel⟩, by decide⟩
theorem zk_X7_112 : zCs "SentRoads$Tape" 112 yJ9_min_7cf53 cJ9_min_7cf53 2 (some .int) 2 := ⟨zw_585, zw_586, zw_51, zw_587, ⟨by decide +kernel, by decide +kernel, by decide +kernel⟩, by decide⟩
theorem zk_X7_117 : zCv "SentRoads$Tape" 117 yJ0_length_8abf5 cJ0_length_8abf5 1 (some .int) 0 := ⟨zw_603, zw_604, zw_605, zw_53, zw_606, ⟨by decide +kernel, by decide +kernel, by decide +kernel⟩, by decide⟩
theorem zk_X7_121 : zCv "SentRoads$Tape" 121 yJ0_indexOf_0f7a4 cJ0_indexOf_0f7a4 2 (some .int) 1 := ⟨zw_613, zw_614, zw_615, zw_53, zw_616, ⟨by decide +kernel, by decide +kernel, by decide +kernel⟩, by decide⟩
theorem zk_X8_50 : zCv "SentRoads$World" 50 yX0_copy cX0_copy 2 none 1 := ⟨zw_980, zw_695, zw_696, zw_43, zw_697, ⟨by decide +kernel, by decide +kernel, by decide +kernel⟩, by decide⟩
theorem zk_X8_57 : zCv "SentRoads$World" 57 yX1_copy cX1_copy 2 none 1 := ⟨zw_981, zw_982, zw_983, zw_44, zw_984, ⟨by decide +kernel, by decide +kernel, by decide +kernel⟩, by decide⟩
theorem zk_X8_60 : zCv "SentRoads$World" 60 yX8_learnAgain cX8_learnAgain 3 none 1 := ⟨zw_486, zw_487, zw_488, zw_41, zw_489, ⟨by decide +kernel, by decide +kernel, by decide +kernel⟩, by decide⟩
theorem zk_X8_67 : zCv "SentRoads$World" 67 yX4_copy cX4_copy 2 none 1 := ⟨zw_986, zw_700, zw_701, zw_45, zw_702, ⟨by decide +kernel, by decide +kernel, by decide +kernel⟩, by decide⟩
theorem zk_X8_81 : zCv "SentRoads$World" 81 yX2_tell cX2_tell 4 none 3 := ⟨zw_987, zw_904, zw_905, zw_46, zw_906, ⟨by decide +kernel, by decide +kernel, by decide +kernel⟩, by decide⟩
theorem zk_X8_85 : zCv "SentRoads$World" 85 yX3_copy cX3_copy 2 none 1 := ⟨zw_988, zw_989, zw_990, zw_42, zw_991, ⟨by decide +kernel, by decide +kernel, by decide +kernel⟩, by decide⟩
theorem zk_X8_88 : zCv "SentRoads$World" 88 yX1_learn cX1_learn 4 none 2 := ⟨zw_460, zw_461, zw_462, zw_44, zw_463, ⟨by decide +kernel, by decide +kernel, by decide +kernel⟩, by decide⟩
theorem zk_X8_92 : zCv "SentRoads$World" 92 yX1_forget cX1_forget 1 none 0 := ⟨zw_490, zw_491, zw_492, zw_44, zw_493, ⟨by decide +kernel, by decide +kernel, by decide +kernel⟩, by decide⟩
theorem zk_X8_96 : zCv "SentRoads$World" 96 yX0_isMarks cX0_isMarks 2 (some .boolean) 1 := ⟨zw_971, zw_465, zw_466, zw_43, zw_467, ⟨by decide +kernel, by decide +kernel, by decide +kernel⟩, by decide⟩
theorem zk_X8_100 : zCv "SentRoads$World" 100 yX4_isFor cX4_isFor 2 (some .boolean) 1 := ⟨zw_786, zw_787, zw_788, zw_45, zw_789, ⟨by decide +kernel, by decide +kernel, by decide +kernel⟩, by decide⟩
theorem zk_X8_120 : zCv "SentRoads$World" 120 yX1_isDeadly cX1_isDeadly 2 (some .boolean) 1 := ⟨zw_802, zw_803, zw_804, zw_44, zw_805, ⟨by decide +kernel, by decide +kernel, by decide +kernel⟩, by decide⟩
theorem zk_X8_123 : zCv "SentRoads$World" 123 yX4_pledges cX4_pledges 2 (some .boolean) 1 := ⟨zw_806, zw_807, zw_808, zw_45, zw_809, ⟨by decide +kernel, by decide +kernel, by decide +kernel⟩, by decide⟩
theorem zk_X8_143 : zCv "SentRoads$World" 143 yX8_barsAgainst cX8_barsAgainst 4 (some .int) 2 := ⟨zw_798, zw_799, zw_800, zw_41, zw_801, ⟨by decide +kernel, by decide +kernel, by decide +kernel⟩, by decide⟩
theorem zk_X8_147 : zCv "SentRoads$World" 147 yX8_weigh cX8_weigh 4 none 1 := ⟨zw_849, zw_795, zw_796, zw_41, zw_797, ⟨by decide +kernel, by decide +kernel, by decide +kernel⟩, by decide⟩
theorem zk_X8_153 : zCv "SentRoads$World" 153 yX1_isCrime cX1_isCrime 2 (some .boolean) 1 := ⟨zw_837, zw_838, zw_839, zw_44, zw_840, ⟨by decide +kernel, by decide +kernel, by decide +kernel⟩, by decide⟩
theorem zk_X8_157 : zCv "SentRoads$World" 157 yX8_letTo cX8_letTo 4 (some .int) 1 := ⟨zw_915, zw_916, zw_917, zw_41, zw_918, ⟨by decide +kernel, by decide +kernel, by decide +kernel⟩, by decide⟩
theorem zk_X8_174 : zCs "SentRoads$World" 174 yJ9_max_7cf53 cJ9_max_7cf53 2 (some .int) 2 := ⟨zw_920, zw_469, zw_51, zw_470, ⟨by decide +kernel, by decide +kernel, by decide +kernel⟩, by decide⟩
theorem zk_X8_180 : zCv "SentRoads$World" 180 yX3_goesBy cX3_goesBy 3 (some .int) 1 := ⟨zw_919, zw_811, zw_812, zw_42, zw_813, ⟨by decide +kernel, by decide +kernel, by decide +kernel⟩, by decide⟩
theorem zk_X8_184 : zCv "SentRoads$World" 184 yX2_order cX2_order 2 (some .int) 1 := ⟨zw_925, zw_926, zw_927, zw_46, zw_928, ⟨by decide +kernel, by decide +kernel, by decide +kernel⟩, by decide⟩
theorem zk_L_13 : zCv "SentRoadsLaw" 13 yX9_crime cX9_crime 7 (some .int) 6 := ⟨zw_445, zw_446, zw_447, zw_40, zw_448, ⟨by decide +kernel, by decide +kernel, by decide +kernel⟩, by decide⟩
theorem zk_L_17 : zCv "SentRoadsLaw" 17 yX10_crime cX10_crime 7 (some .int) 6 := ⟨zw_1116, zw_1117, zw_1118, zw_50, zw_1119, ⟨by decide +kernel, by decide +kernel, by decide +kernel⟩, by decide⟩
theorem zk_L_18 : zCv "SentRoadsLaw" 18 yX9_deed cX9_deed 5 (some .int) 4 := ⟨zw_471, zw_472, zw_473, zw_40, zw_474, ⟨by decide +kernel, by decide +kernel, by decide +kernel⟩, by decide⟩
theorem zk_L_22 : zCv "SentRoadsLaw" 22 yX10_deed cX10_deed 5 (some .int) 4 := ⟨zw_1133, zw_1134, zw_1135, zw_50, zw_1136, ⟨by decide +kernel, by decide +kernel, by decide +kernel⟩, by decide⟩
theorem zk_L_23 : zCv "SentRoadsLaw" 23 yX9_years cX9_years 8 (some .int) 6 := ⟨zw_497, zw_498, zw_499, zw_40, zw_500, ⟨by decide +kernel, by decide +kernel, by decide +kernel⟩, by decide⟩
theorem zk_L_27 : zCv "SentRoadsLaw" 27 yX10_years cX10_years 7 (some .int) 6 := ⟨zw_1138, zw_1139, zw_1140, zw_50, zw_1141, ⟨by decide +kernel, by decide +kernel, by decide +kernel⟩, by decide⟩
theorem zk_L_28 : zCv "SentRoadsLaw" 28 yX9_named cX9_named 8 (some .int) 6 := ⟨zw_521, zw_522, zw_523, zw_40, zw_524, ⟨by decide +kernel, by decide +kernel, by decide +kernel⟩, by decide⟩
theorem zk_L_31 : zCv "SentRoadsLaw" 31 yX10_named cX10_named 9 (some .int) 6 := ⟨zw_1151, zw_1152, zw_1153, zw_50, zw_1154, ⟨by decide +kernel, by decide +kernel, by decide +kernel⟩, by decide⟩
theorem zk_L_32 : zCv "SentRoadsLaw" 32 yX9_custom cX9_custom 7 (some .int) 5 := ⟨zw_529, zw_530, zw_531, zw_40, zw_532, ⟨by decide +kernel, by decide +kernel, by decide +kernel⟩, by decide⟩
theorem zk_L_36 : zCv "SentRoadsLaw" 36 yX10_custom cX10_custom 6 (some .int) 5 := ⟨zw_1155, zw_1156, zw_1157, zw_50, zw_1158, ⟨by decide +kernel, by decide +kernel, by decide +kernel⟩, by decide⟩
theorem zk_L_39 : zCv "SentRoadsLaw" 39 yX9_type cX9_type 6 (some .int) 2 := ⟨zw_533, zw_534, zw_535, zw_40, zw_536, ⟨by decide +kernel, by decide +kernel, by decide +kernel⟩, by decide⟩
theorem zk_L_43 : zCv "SentRoadsLaw" 43 yX10_type cX10_type 5 (some .int) 2 := ⟨zw_1344, zw_1345, zw_1346, zw_50, zw_1347, ⟨by decide +kernel, by decide +kernel, by decide +kernel⟩, by decide⟩
theorem zk_L_44 : zCv "SentRoadsLaw" 44 yX9_world cX9_world 3 (some .int) 0 := ⟨zw_544, zw_545, zw_546, zw_40, zw_547, ⟨by decide +kernel, by decide +kernel, by decide +kernel⟩, by decide⟩
theorem zk_L_48 : zCv "SentRoadsLaw" 48 yX10_world cX10_world 4 (some .int) 0 := ⟨zw_1352, zw_1353, zw_1354, zw_50, zw_1355, ⟨by decide +kernel, by decide +kernel, by decide +kernel⟩, by decide⟩
theorem zk_L_49 : zCv "SentRoadsLaw" 49 yX9_crimeOf cX9_crimeOf 4 (some .int) 2 := ⟨zw_707, zw_708, zw_709, zw_40, zw_710, ⟨by decide +kernel, by decide +kernel, by decide +kernel⟩, by decide⟩
theorem zk_L_53 : zCv "SentRoadsLaw" 53 yX10_crimeOf cX10_crimeOf 3 (some .int) 2 := ⟨zw_1159, zw_1160, zw_1161, zw_50, zw_1162, ⟨by decide +kernel, by decide +kernel, by decide +kernel⟩, by decide⟩
theorem zk_L_54 : zCv "SentRoadsLaw" 54 yX9_paper cX9_paper 4 (some .int) 2 := ⟨zw_711, zw_712, zw_713, zw_40, zw_714, ⟨by decide +kernel, by decide +kernel, by decide +kernel⟩, by decide⟩
theorem zk_L_57 : zCv "SentRoadsLaw" 57 yX10_paper cX10_paper 5 (some .int) 2 := ⟨zw_1163, zw_1164, zw_1165, zw_50, zw_1166, ⟨by decide +kernel, by decide +kernel, by decide +kernel⟩, by decide⟩
theorem zk_L_58 : zCv "SentRoadsLaw" 58 yX9_bars cX9_bars 4 (some .int) 2 := ⟨zw_719, zw_720, zw_721, zw_40, zw_722, ⟨by decide +kernel, by decide +kernel, by decide +kernel⟩, by decide⟩
theorem zk_L_61 : zCv "SentRoadsLaw" 61 yX10_bars cX10_bars 4 (some .int) 2 := ⟨zw_1171, zw_1172, zw_1173, zw_50, zw_1174, ⟨by decide +kernel, by decide +kernel, by decide +kernel⟩, by decide⟩
theorem zk_L_62 : zCv "SentRoadsLaw" 62 yX9_matches cX9_matches 5 (some .int) 3 := ⟨zw_723, zw_724, zw_725, zw_40, zw_726, ⟨by decide +kernel, by decide +kernel, by decide +kernel⟩, by decide⟩
theorem zk_L_66 : zCv "SentRoadsLaw" 66 yX10_matches cX10_matches 4 (some .int) 3 := ⟨zw_1175, zw_1176, zw_1177, zw_50, zw_1178, ⟨by decide +kernel, by decide +kernel, by decide +kernel⟩, by decide⟩
theorem zk_L_67 : zCv "SentRoadsLaw" 67 yX9_yearsOf cX9_yearsOf 5 (some .int) 3 := ⟨zw_731, zw_732, zw_733, zw_40, zw_734, ⟨by decide +kernel, by decide +kernel, by decide +kernel⟩, by decide⟩
theorem zk_L_70 : zCv "SentRoadsLaw" 70 yX10_yearsOf cX10_yearsOf 4 (some .int) 3 := ⟨zw_1191, zw_1192, zw_1193, zw_50, zw_1194, ⟨by decide +kernel, by decide +kernel, by decide +kernel⟩, by decide⟩
theorem zk_L_71 : zCv "SentRoadsLaw" 71 yX9_shows cX9_shows 8 (some .int) 4 := ⟨zw_735, zw_736, zw_737, zw_40, zw_738, ⟨by decide +kernel, by decide +kernel, by decide +kernel⟩, by decide⟩
theorem zk_L_74 : zCv "SentRoadsLaw" 74 yX10_shows cX10_shows 9 (some .int) 4 := ⟨zw_1428, zw_1429, zw_1430, zw_50, zw_1431, ⟨by decide +kernel, by decide +kernel, by decide +kernel⟩, by decide⟩
theorem zk_L_75 : zCv "SentRoadsLaw" 75 yX9_count cX9_count 2 (some .int) 1 := ⟨zw_754, zw_755, zw_756, zw_40, zw_757, ⟨by decide +kernel, by decide +kernel, by decide +kernel⟩, by decide⟩
theorem zk_L_79 : zCv "SentRoadsLaw" 79 yX10_count cX10_count 2 (some .int) 1 := ⟨zw_1199, zw_1200, zw_1201, zw_50, zw_1202, ⟨by decide +kernel, by decide +kernel, by decide +kernel⟩, by decide⟩
theorem zk_L_80 : zCv "SentRoadsLaw" 80 yX9_man cX9_man 4 (some .int) 2 := ⟨zw_758, zw_759, zw_760, zw_40, zw_761, ⟨by decide +kernel, by decide +kernel, by decide +kernel⟩, by decide⟩
theorem zk_L_83 : zCv "SentRoadsLaw" 83 yX10_man cX10_man 4 (some .int) 2 := ⟨zw_1203, zw_1204, zw_1205, zw_50, zw_1206, ⟨by decide +kernel, by decide +kernel, by decide +kernel⟩, by decide⟩
theorem zk_L_84 : zCv "SentRoadsLaw" 84 yX9_judged cX9_judged 4 (some .int) 2 := ⟨zw_766, zw_767, zw_768, zw_40, zw_769, ⟨by decide +kernel, by decide +kernel, by decide +kernel⟩, by decide⟩
theorem zk_L_88 : zCv "SentRoadsLaw" 88 yX10_judged cX10_judged 4 (some .int) 2 := ⟨zw_1208, zw_1209, zw_1210, zw_50, zw_1211, ⟨by decide +kernel, by decide +kernel, by decide +kernel⟩, by decide⟩
theorem zk_L_89 : zCv "SentRoadsLaw" 89 yX9_bound cX9_bound 2 (some .int) 1 := ⟨zw_770, zw_771, zw_772, zw_40, zw_773, ⟨by decide +kernel, by decide +kernel, by decide +kernel⟩, by decide⟩
theorem zk_L_92 : zCv "SentRoadsLaw" 92 yX10_bound cX10_bound 2 (some .int) 1 := ⟨zw_1212, zw_1213, zw_1214, zw_50, zw_1215, ⟨by decide +kernel, by decide +kernel, by decide +kernel⟩, by decide⟩
theorem zk_L_93 : zCv "SentRoadsLaw" 93 yX9_covers cX9_covers 2 (some .int) 1 := ⟨zw_778, zw_779, zw_780, zw_40, zw_781, ⟨by decide +kernel, by decide +kernel, by decide +kernel⟩, by decide⟩
theorem zk_L_96 : zCv "SentRoadsLaw" 96 yX10_covers cX10_covers 4 (some .int) 1 := ⟨zw_1220, zw_1221, zw_1222, zw_50, zw_1223, ⟨by decide +kernel, by decide +kernel, by decide +kernel⟩, by decide⟩
theorem zk_L_97 : zCv "SentRoadsLaw" 97 yX9_lets cX9_lets 3 (some .int) 1 := ⟨zw_790, zw_791, zw_792, zw_40, zw_793, ⟨by decide +kernel, by decide +kernel, by decide +kernel⟩, by decide⟩
theorem zk_L_100 : zCv "SentRoadsLaw" 100 yX10_lets cX10_lets 2 (some .int) 1 := ⟨zw_1240, zw_1241, zw_1242, zw_50, zw_1243, ⟨by decide +kernel, by decide +kernel, by decide +kernel⟩, by decide⟩
theorem zk_L_101 : zCv "SentRoadsLaw" 101 yX9_barred cX9_barred 3 (some .int) 2 := ⟨zw_815, zw_816, zw_817, zw_40, zw_818, ⟨by decide +kernel, by decide +kernel, by decide +kernel⟩, by decide⟩
theorem zk_L_104 : zCv "SentRoadsLaw" 104 yX10_barred cX10_barred 3 (some .int) 2 := ⟨zw_1228, zw_1229, zw_1230, zw_50, zw_1231, ⟨by decide +kernel, by decide +kernel, by decide +kernel⟩, by decide⟩
theorem zk_L_105 : zCv "SentRoadsLaw" 105 yX9_send cX9_send 3 (some .int) 1 := ⟨zw_820, zw_821, zw_822, zw_40, zw_823, ⟨by decide +kernel, by decide +kernel, by decide +kernel⟩, by decide⟩
theorem zk_L_108 : zCv "SentRoadsLaw" 108 yX10_send cX10_send 4 (some .int) 1 := ⟨zw_1260, zw_1261, zw_1262, zw_50, zw_1263, ⟨by decide +kernel, by decide +kernel, by decide +kernel⟩, by decide⟩
theorem zk_L_109 : zCv "SentRoadsLaw" 109 yX9_tried cX9_tried 1 (some .int) 0 := ⟨zw_829, zw_830, zw_831, zw_40, zw_832, ⟨by decide +kernel, by decide +kernel, by decide +kernel⟩, by decide⟩
theorem zk_L_112 : zCv "SentRoadsLaw" 112 yX10_tried cX10_tried 1 (some .int) 0 := ⟨zw_1265, zw_1266, zw_1267, zw_50, zw_1268, ⟨by decide +kernel, by decide +kernel, by decide +kernel⟩, by decide⟩
theorem zk_L_113 : zCv "SentRoadsLaw" 113 yX9_road cX9_road 6 (some .int) 3 := ⟨zw_841, zw_842, zw_843, zw_40, zw_844, ⟨by decide +kernel, by decide +kernel, by decide +kernel⟩, by decide⟩
theorem zk_L_116 : zCv "SentRoadsLaw" 116 yX10_road cX10_road 8 (some .int) 3 := ⟨zw_1277, zw_1278, zw_1279, zw_50, zw_1280, ⟨by decide +kernel, by decide +kernel, by decide +kernel⟩, by decide⟩
theorem zk_L_117 : zCv "SentRoadsLaw" 117 yX9_lands cX9_lands 1 (some .int) 0 := ⟨zw_882, zw_883, zw_884, zw_40, zw_885, ⟨by decide +kernel, by decide +kernel, by decide +kernel⟩, by decide⟩
theorem zk_L_120 : zCv "SentRoadsLaw" 120 yX10_lands cX10_lands 3 (some .int) 0 := ⟨zw_1293, zw_1294, zw_1295, zw_50, zw_1296, ⟨by decide +kernel, by decide +kernel, by decide +kernel⟩, by decide⟩
theorem zk_L_121 : zCv "SentRoadsLaw" 121 yX9_safe cX9_safe 2 (some .int) 1 := ⟨zw_890, zw_891, zw_892, zw_40, zw_893, ⟨by decide +kernel, by decide +kernel, by decide +kernel⟩, by decide⟩
theorem zk_L_124 : zCv "SentRoadsLaw" 124 yX10_safe cX10_safe 6 (some .int) 1 := ⟨zw_1297, zw_1298, zw_1299, zw_50, zw_1300, ⟨by decide +kernel, by decide +kernel, by decide +kernel⟩, by decide⟩
theorem zk_L_125 : zCv "SentRoadsLaw" 125 yX9_demand cX9_demand 4 (some .int) 3 := ⟨zw_899, zw_900, zw_901, zw_40, zw_902, ⟨by decide +kernel, by decide +kernel, by decide +kernel⟩, by decide⟩
theorem zk_L_128 : zCv "SentRoadsLaw" 128 yX10_demand cX10_demand 4 (some .int) 3 := ⟨zw_1301, zw_1302, zw_1303, zw_50, zw_1304, ⟨by decide +kernel, by decide +kernel, by decide +kernel⟩, by decide⟩
theorem zk_L_129 : zCv "SentRoadsLaw" 129 yX9_ahead cX9_ahead 3 (some .int) 1 := ⟨zw_907, zw_908, zw_909, zw_40, zw_910, ⟨by decide +kernel, by decide +kernel, by decide +kernel⟩, by decide⟩
theorem zk_L_132 : zCv "SentRoadsLaw" 132 yX10_ahead cX10_ahead 5 (some .int) 1 := ⟨zw_1305, zw_1306, zw_1307, zw_50, zw_1308, ⟨by decide +kernel, by decide +kernel, by decide +kernel⟩, by decide⟩
theorem zk_L_133 : zCv "SentRoadsLaw" 133 yX9_promises cX9_promises 6 (some .int) 2 := ⟨zw_929, zw_930, zw_931, zw_40, zw_932, ⟨by decide +kernel, by decide +kernel, by decide +kernel⟩, by decide⟩
theorem zk_L_136 : zCv "SentRoadsLaw" 136 yX10_promises cX10_promises 6 (some .int) 2 := ⟨zw_1325, zw_1326, zw_1327, zw_50, zw_1328, ⟨by decide +kernel, by decide +kernel, by decide +kernel⟩, by decide⟩
theorem zk_L_137 : zCv "SentRoadsLaw" 137 yX9_mended cX9_mended 3 (some .int) 2 := ⟨zw_942, zw_943, zw_944, zw_40, zw_945, ⟨by decide +kernel, by decide +kernel, by decide +kernel⟩, by decide⟩
theorem zk_L_140 : zCv "SentRoadsLaw" 140 yX10_mended cX10_mended 9 (some .int) 2 := ⟨zw_1332, zw_1333, zw_1334, zw_50, zw_1335, ⟨by decide +kernel, by decide +kernel, by decide +kernel⟩, by decide⟩
theorem zk_L_141 : zCv "SentRoadsLaw" 141 yX9_part cX9_part 8 (some .int) 3 := ⟨zw_963, zw_964, zw_965, zw_40, zw_966, ⟨by decide +kernel, by decide +kernel, by decide +kernel⟩, by decide⟩
theorem zk_L_144 : zCv "SentRoadsLaw" 144 yX10_part cX10_part 7 (some .int) 3 := ⟨zw_1340, zw_1341, zw_1342, zw_50, zw_1343, ⟨by decide +kernel, by decide +kernel, by decide +kernel⟩, by decide⟩
theorem zk_L_145 : zCv "SentRoadsLaw" 145 yX9_image cX9_image 1 (some .int) 0 := ⟨zw_972, zw_973, zw_974, zw_40, zw_975, ⟨by decide +kernel, by decide +kernel, by decide +kernel⟩, by decide⟩
theorem zk_L_148 : zCv "SentRoadsLaw" 148 yX10_image cX10_image 1 (some .int) 0 := ⟨zw_1392, zw_1393, zw_1394, zw_50, zw_1395, ⟨by decide +kernel, by decide +kernel, by decide +kernel⟩, by decide⟩
theorem zk_L_149 : zCv "SentRoadsLaw" 149 yX9_restore cX9_restore 1 (some .int) 0 := ⟨zw_993, zw_994, zw_995, zw_40, zw_996, ⟨by decide +kernel, by decide +kernel, by decide +kernel⟩, by decide⟩
theorem zk_L_152 : zCv "SentRoadsLaw" 152 yX10_restore cX10_restore 1 (some .int) 0 := ⟨zw_1400, zw_1401, zw_1402, zw_50, zw_1403, ⟨by decide +kernel, by decide +kernel, by decide +kernel⟩, by decide⟩
theorem zk_L_153 : zCv "SentRoadsLaw" 153 yX9_sheet cX9_sheet 4 (some .int) 3 := ⟨zw_997, zw_998, zw_999, zw_40, zw_1000, ⟨by decide +kernel, by decide +kernel, by decide +kernel⟩, by decide⟩
theorem zk_L_156 : zCv "SentRoadsLaw" 156 yX10_sheet cX10_sheet 5 (some .int) 3 := ⟨zw_1408, zw_1409, zw_1410, zw_50, zw_1411, ⟨by decide +kernel, by decide +kernel, by decide +kernel⟩, by decide⟩
theorem zk_L_157 : zCv "SentRoadsLaw" 157 yX9_drop cX9_drop 3 (some .int) 1 := ⟨zw_1006, zw_1007, zw_1008, zw_40, zw_1009, ⟨by decide +kernel, by decide +kernel, by decide +kernel⟩, by decide⟩
theorem zk_L_160 : zCv "SentRoadsLaw" 160 yX10_drop cX10_drop 2 (some .int) 1 := ⟨zw_1416, zw_1417, zw_1418, zw_50, zw_1419, ⟨by decide +kernel, by decide +kernel, by decide +kernel⟩, by decide⟩
theorem zk_L_161 : zCv "SentRoadsLaw" 161 yX9_item cX9_item 7 (some .int) 4 := ⟨zw_1010, zw_1011, zw_1012, zw_40, zw_1013, ⟨by decide +kernel, by decide +kernel, by decide +kernel⟩, by decide⟩
theorem zk_L_164 : zCv "SentRoadsLaw" 164 yX10_item cX10_item 6 (some .int) 4 := ⟨zw_1420, zw_1421, zw_1422, zw_50, zw_1423, ⟨by decide +kernel, by decide +kernel, by decide +kernel⟩, by decide⟩
theorem zk_X10_64 : zCv "SentRoadsModel" 64 yX10_free cX10_free 1 none 0 := ⟨zw_1024, zw_1026, zw_3, zw_50, zw_1027, ⟨by decide +kernel, by decide +kernel, by decide +kernel⟩, by decide⟩
theorem zk_X10_69 : zCs "SentRoadsModel" 69 yX10_in cX10_in 6 (some .boolean) 3 := ⟨zw_1124, zw_1125, zw_50, zw_1126, ⟨by decide +kernel, by decide +kernel, by decide +kernel⟩, by decide⟩
theorem zk_X10_83 : zCs "SentRoadsModel" 83 yX10_isLand cX10_isLand 1 (some .boolean) 1 := ⟨zw_1120, zw_1121, zw_50, zw_1122, ⟨by decide +kernel, by decide +kernel, by decide +kernel⟩, by decide⟩
theorem zk_X10_91 : zCv "SentRoadsModel" 91 yX10_addCrime cX10_addCrime 8 none 6 := ⟨zw_1129, zw_1131, zw_4, zw_50, zw_1132, ⟨by decide +kernel, by decide +kernel, by decide +kernel⟩, by decide⟩
theorem zk_X10_101 : zCs "SentRoadsModel" 101 yX10_mayBe cX10_mayBe 5 (some .boolean) 5 := ⟨zw_1142, zw_1143, zw_50, zw_1144, ⟨by decide +kernel, by decide +kernel, by decide +kernel⟩, by decide⟩
theorem zk_X10_105 : zCv "SentRoadsModel" 105 yX10_addPaper cX10_addPaper 10 (some .int) 8 := ⟨zw_1147, zw_1149, zw_5, zw_50, zw_1150, ⟨by decide +kernel, by decide +kernel, by decide +kernel⟩, by decide⟩
theorem zk_X10_109 : zCv "SentRoadsModel" 109 yX10_isPaper cX10_isPaper 2 (some .boolean) 1 := ⟨zw_1167, zw_1169, zw_6, zw_50, zw_1170, ⟨by decide +kernel, by decide +kernel, by decide +kernel⟩, by decide⟩
theorem zk_X10_112 : zCv "SentRoadsModel" 112 yX10_areCrime cX10_areCrime 3 (some .boolean) 2 := ⟨zw_1187, zw_1189, zw_9, zw_50, zw_1190, ⟨by decide +kernel, by decide +kernel, by decide +kernel⟩, by decide⟩
theorem zk_X10_116 : zCv "SentRoadsModel" 116 yX10_crimesOf cX10_crimesOf 5 (some .int) 2 := ⟨zw_1183, zw_1185, zw_8, zw_50, zw_1186, ⟨by decide +kernel, by decide +kernel, by decide +kernel⟩, by decide⟩
theorem zk_X10_120 : zCv "SentRoadsModel" 120 yX10_isDeed cX10_isDeed 2 (some .boolean) 1 := ⟨zw_1179, zw_1181, zw_7, zw_50, zw_1182, ⟨by decide +kernel, by decide +kernel, by decide +kernel⟩, by decide⟩
theorem zk_X10_123 : zCv "SentRoadsModel" 123 yX10_yearsFor cX10_yearsFor 6 (some .int) 2 := ⟨zw_1195, zw_1197, zw_10, zw_50, zw_1198, ⟨by decide +kernel, by decide +kernel, by decide +kernel⟩, by decide⟩
theorem zk_X10_131 : zCv "SentRoadsModel" 131 yX10_allDeeds cX10_allDeeds 1 (some .int) 0 := ⟨zw_1216, zw_1218, zw_11, zw_50, zw_1219, ⟨by decide +kernel, by decide +kernel, by decide +kernel⟩, by decide⟩
theorem zk_X10_135 : zCv "SentRoadsModel" 135 yX10_isDeadly cX10_isDeadly 6 (some .boolean) 2 := ⟨zw_1236, zw_1238, zw_14, zw_50, zw_1239, ⟨by decide +kernel, by decide +kernel, by decide +kernel⟩, by decide⟩
theorem zk_X10_138 : zCv "SentRoadsModel" 138 yX10_isCovered cX10_isCovered 6 (some .boolean) 2 := ⟨zw_1224, zw_1226, zw_12, zw_50, zw_1227, ⟨by decide +kernel, by decide +kernel, by decide +kernel⟩, by decide⟩
theorem zk_X10_141 : zCv "SentRoadsModel" 141 yX10_standing cX10_standing 6 (some .int) 2 := ⟨zw_1232, zw_1234, zw_13, zw_50, zw_1235, ⟨by decide +kernel, by decide +kernel, by decide +kernel⟩, by decide⟩
theorem zk_X10_144 : zCv "SentRoadsModel" 144 yX10_mayGo cX10_mayGo 8 (some .boolean) 5 := ⟨zw_1256, zw_1258, zw_18, zw_50, zw_1259, ⟨by decide +kernel, by decide +kernel, by decide +kernel⟩, by decide⟩
theorem zk_X10_147 : zCv "SentRoadsModel" 147 yX10_goes cX10_goes 8 (some .int) 5 := ⟨zw_1252, zw_1254, zw_17, zw_50, zw_1255, ⟨by decide +kernel, by decide +kernel, by decide +kernel⟩, by decide⟩
theorem zk_X10_151 : zCv "SentRoadsModel" 151 yX10_findOpen cX10_findOpen 3 none 0 := ⟨zw_1244, zw_1246, zw_15, zw_50, zw_1247, ⟨by decide +kernel, by decide +kernel, by decide +kernel⟩, by decide⟩
theorem zk_X10_154 : zCv "SentRoadsModel" 154 yX10_goesNow cX10_goesNow 2 (some .int) 1 := ⟨zw_1248, zw_1250, zw_16, zw_50, zw_1251, ⟨by decide +kernel, by decide +kernel, by decide +kernel⟩, by decide⟩
theorem zk_X10_158 : zCv "SentRoadsModel" 158 yX10_lets cX10_lets 2 (some .int) 1 := ⟨zw_1264, zw_1241, zw_1242, zw_50, zw_1243, ⟨by decide +kernel, by decide +kernel, by decide +kernel⟩, by decide⟩
theorem zk_X10_161 : zCv "SentRoadsModel" 161 yX10_isTried cX10_isTried 4 (some .boolean) 3 := ⟨zw_1273, zw_1275, zw_20, zw_50, zw_1276, ⟨by decide +kernel, by decide +kernel, by decide +kernel⟩, by decide⟩
theorem zk_X10_165 : zCv "SentRoadsModel" 165 yX10_triedAt cX10_triedAt 5 (some .int) 2 := ⟨zw_1269, zw_1271, zw_19, zw_50, zw_1272, ⟨by decide +kernel, by decide +kernel, by decide +kernel⟩, by decide⟩
theorem zk_X10_171 : zCv "SentRoadsModel" 171 yX10_codeOf cX10_codeOf 5 (some .int) 4 := ⟨zw_1285, zw_1287, zw_22, zw_50, zw_1288, ⟨by decide +kernel, by decide +kernel, by decide +kernel⟩, by decide⟩
theorem zk_X10_175 : zCv "SentRoadsModel" 175 yX10_come cX10_come 4 none 3 := ⟨zw_1289, zw_1291, zw_23, zw_50, zw_1292, ⟨by decide +kernel, by decide +kernel, by decide +kernel⟩, by decide⟩
theorem zk_X10_179 : zCv "SentRoadsModel" 179 yX10_findStates cX10_findStates 11 none 0 := ⟨zw_1281, zw_1283, zw_21, zw_50, zw_1284, ⟨by decide +kernel, by decide +kernel, by decide +kernel⟩, by decide⟩
theorem zk_X10_182 : zCv "SentRoadsModel" 182 yX10_standsFor cX10_standsFor 4 (some .int) 1 := ⟨zw_1309, zw_1311, zw_24, zw_50, zw_1312, ⟨by decide +kernel, by decide +kernel, by decide +kernel⟩, by decide⟩
theorem zk_X10_185 : zCv "SentRoadsModel" 185 yX10_greatestYears cX10_greatestYears 6 (some .int) 1 := ⟨zw_1317, zw_1319, zw_26, zw_50, zw_1320, ⟨by decide +kernel, by decide +kernel, by decide +kernel⟩, by decide⟩
theorem zk_X10_188 : zCv "SentRoadsModel" 188 yX10_wasThere cX10_wasThere 5 (some .int) 1 := ⟨zw_1321, zw_1323, zw_27, zw_50, zw_1324, ⟨by decide +kernel, by decide +kernel, by decide +kernel⟩, by decide⟩
theorem zk_X10_191 : zCv "SentRoadsModel" 191 yX10_isAhead cX10_isAhead 5 (some .boolean) 2 := ⟨zw_1313, zw_1315, zw_25, zw_50, zw_1316, ⟨by decide +kernel, by decide +kernel, by decide +kernel⟩, by decide⟩
theorem zk_X10_194 : zCs "SentRoadsModel" 194 yX10_ones cX10_ones 3 (some .int) 1 := ⟨zw_1329, zw_1330, zw_50, zw_1331, ⟨by decide +kernel, by decide +kernel, by decide +kernel⟩, by decide⟩
theorem zk_X10_197 : zCv "SentRoadsModel" 197 yX10_canFollow cX10_canFollow 6 (some .boolean) 5 := ⟨zw_1336, zw_1338, zw_28, zw_50, zw_1339, ⟨by decide +kernel, by decide +kernel, by decide +kernel⟩, by decide⟩
theorem zk_X10_214 : zCv "SentRoadsModel" 214 yX10_next cX10_next 1 (some .int) 0 := ⟨zw_1360, zw_1362, zw_30, zw_50, zw_1363, ⟨by decide +kernel, by decide +kernel, by decide +kernel⟩, by decide⟩
theorem zk_X10_224 : zCv "SentRoadsModel" 224 yX10_readMarks cX10_readMarks 7 (some .int) 1 := ⟨zw_1372, zw_1374, zw_33, zw_50, zw_1375, ⟨by decide +kernel, by decide +kernel, by decide +kernel⟩, by decide⟩
theorem zk_X10_227 : zCv "SentRoadsModel" 227 yX10_takes cX10_takes 3 (some .boolean) 1 := ⟨zw_1364, zw_1366, zw_31, zw_50, zw_1367, ⟨by decide +kernel, by decide +kernel, by decide +kernel⟩, by decide⟩
theorem zk_X10_230 : zCv "SentRoadsModel" 230 yX10_readNumber cX10_readNumber 5 (some .int) 2 := ⟨zw_1376, zw_1378, zw_34, zw_50, zw_1379, ⟨by decide +kernel, by decide +kernel, by decide +kernel⟩, by decide⟩
theorem zk_X10_236 : zCs "SentRoadsModel" 236 yX10_barOf cX10_barOf 1 (some .int) 1 := ⟨zw_1386, zw_1387, zw_50, zw_1388, ⟨by decide +kernel, by decide +kernel, by decide +kernel⟩, by decide⟩
theorem zk_X10_239 : zCs "SentRoadsModel" 239 yX10_promiseOf cX10_promiseOf 1 (some .int) 1 := ⟨zw_1389, zw_1390, zw_50, zw_1391, ⟨by decide +kernel, by decide +kernel, by decide +kernel⟩, by decide⟩
theorem zk_X10_242 : zCv "SentRoadsModel" 242 yX10_readCrime cX10_readCrime 7 (some .boolean) 1 := ⟨zw_1368, zw_1370, zw_32, zw_50, zw_1371, ⟨by decide +kernel, by decide +kernel, by decide +kernel⟩, by decide⟩
theorem zk_X10_245 : zCv "SentRoadsModel" 245 yX10_readPaper cX10_readPaper 9 (some .boolean) 1 := ⟨zw_1382, zw_1384, zw_35, zw_50, zw_1385, ⟨by decide +kernel, by decide +kernel, by decide +kernel⟩, by decide⟩
theorem zk_X10_248 : zCv "SentRoadsModel" 248 yX10_readWorld cX10_readWorld 4 (some .boolean) 0 := ⟨zw_1356, zw_1358, zw_29, zw_50, zw_1359, ⟨by decide +kernel, by decide +kernel, by decide +kernel⟩, by decide⟩
theorem zk_X10_255 : zCv "SentRoadsModel" 255 yX10_keep cX10_keep 3 none 1 := ⟨zw_1396, zw_1398, zw_36, zw_50, zw_1399, ⟨by decide +kernel, by decide +kernel, by decide +kernel⟩, by decide⟩
theorem zk_X10_263 : zCv "SentRoadsModel" 263 yX10_bring cX10_bring 3 none 1 := ⟨zw_1404, zw_1406, zw_37, zw_50, zw_1407, ⟨by decide +kernel, by decide +kernel, by decide +kernel⟩, by decide⟩
theorem zk_X10_268 : zCs "SentRoadsModel" 268 yX10_isSheet cX10_isSheet 2 (some .boolean) 2 := ⟨zw_1412, zw_1413, zw_50, zw_1414, ⟨by decide +kernel, by decide +kernel, by decide +kernel⟩, by decide⟩
theorem zk_X10_271 : zCv "SentRoadsModel" 271 yX10_lacksRow cX10_lacksRow 5 (some .int) 4 := ⟨zw_1424, zw_1426, zw_38, zw_50, zw_1427, ⟨by decide +kernel, by decide +kernel, by decide +kernel⟩, by decide⟩
theorem zk_J0_335 : zCv "java/lang/String" 335 yJ0_coder_7d493 cJ0_coder_7d493 1 (some .byte) 0 := ⟨zw_607, zw_608, zw_609, zw_53, zw_610, ⟨by decide +kernel, by decide +kernel, by decide +kernel⟩, by decide⟩
theorem zk_J0_492 : zCv "java/lang/String" 492 yJ0_isLatin1_aae02 cJ0_isLatin1_aae02 1 (some .boolean) 0 := ⟨zw_621, zw_622, zw_623, zw_53, zw_624, ⟨by decide +kernel, by decide +kernel, by decide +kernel⟩, by decide⟩
theorem zk_J0_505 : zCv "java/lang/String" 505 yJ0_length_8abf5 cJ0_length_8abf5 1 (some .int) 0 := ⟨zw_625, zw_604, zw_605, zw_53, zw_606, ⟨by decide +kernel, by decide +kernel, by decide +kernel⟩, by decide⟩
theorem zk_J0_633 : zCv "java/lang/String" 633 yJ0_indexOf_7cf53 cJ0_indexOf_7cf53 3 (some .int) 2 := ⟨zw_617, zw_618, zw_619, zw_53, zw_620, ⟨by decide +kernel, by decide +kernel, by decide +kernel⟩, by decide⟩
theorem zk_J0_637 : zCs "java/lang/String" 637 yJ1_indexOf_4cfef cJ1_indexOf_4cfef 4 (some .int) 4 := ⟨zw_626, zw_627, zw_54, zw_628, ⟨by decide +kernel, by decide +kernel, by decide +kernel⟩, by decide⟩
theorem zk_J0_640 : zCs "java/lang/String" 640 yJ2_indexOf_4cfef cJ2_indexOf_4cfef 4 (some .int) 4 := ⟨zw_637, zw_638, zw_55, zw_639, ⟨by decide +kernel, by decide +kernel, by decide +kernel⟩, by decide⟩
theorem zk_J0_1062 : zCs "java/lang/String" 1062 yJ3_checkFromToIndex_8c36e cJ3_checkFromToIndex_8c36e 4 (some .int) 4 := ⟨zw_657, zw_658, zw_56, zw_659, ⟨by decide +kernel, by decide +kernel, by decide +kernel⟩, by decide⟩
theorem zk_J1_38 : zCs "java/lang/StringLatin1" 38 yJ9_min_7cf53 cJ9_min_7cf53 2 (some .int) 2 := ⟨zw_633, zw_586, zw_51, zw_587, ⟨by decide +kernel, by decide +kernel, by decide +kernel⟩, by decide⟩
theorem zk_J1_88 : zCs "java/lang/StringLatin1" 88 yJ1_canEncode_9a6ad cJ1_canEncode_9a6ad 1 (some .boolean) 1 := ⟨zw_629, zw_630, zw_54, zw_631, ⟨by decide +kernel, by decide +kernel, by decide +kernel⟩, by decide⟩
theorem zk_J1_92 : zCs "java/lang/StringLatin1" 92 yJ9_max_7cf53 cJ9_max_7cf53 2 (some .int) 2 := ⟨zw_632, zw_469, zw_51, zw_470, ⟨by decide +kernel, by decide +kernel, by decide +kernel⟩, by decide⟩
theorem zk_J1_95 : zCs "java/lang/StringLatin1" 95 yJ1_indexOfChar_4cfef cJ1_indexOfChar_4cfef 6 (some .int) 4 := ⟨zw_634, zw_635, zw_54, zw_636, ⟨by decide +kernel, by decide +kernel, by decide +kernel⟩, by decide⟩
theorem zk_J2_48 : zCs "java/lang/StringUTF16" 48 yJ2_length_9d52b cJ2_length_9d52b 1 (some .int) 1 := ⟨zw_649, zw_650, zw_55, zw_651, ⟨by decide +kernel, by decide +kernel, by decide +kernel⟩, by decide⟩
theorem zk_J2_71 : zCs "java/lang/StringUTF16" 71 yJ2_getChar_3b067 cJ2_getChar_3b067 2 (some .char) 2 := ⟨zw_663, zw_664, zw_55, zw_665, ⟨by decide +kernel, by decide +kernel, by decide +kernel⟩, by decide⟩
theorem zk_J2_96 : zCs "java/lang/StringUTF16" 96 yJ2_checkBoundsBeginEnd_d044e cJ2_checkBoundsBeginEnd_d044e 3 none 3 := ⟨zw_646, zw_647, zw_55, zw_648, ⟨by decide +kernel, by decide +kernel, by decide +kernel⟩, by decide⟩
theorem zk_J2_157 : zCs "java/lang/StringUTF16" 157 yJ11_highSurrogate_5068e cJ11_highSurrogate_5068e 1 (some .char) 1 := ⟨zw_678, zw_679, zw_57, zw_680, ⟨by decide +kernel, by decide +kernel, by decide +kernel⟩, by decide⟩
theorem zk_J2_161 : zCs "java/lang/StringUTF16" 161 yJ11_lowSurrogate_5068e cJ11_lowSurrogate_5068e 1 (some .char) 1 := ⟨zw_682, zw_683, zw_57, zw_684, ⟨by decide +kernel, by decide +kernel, by decide +kernel⟩, by decide⟩
theorem zk_J2_164 : zCs "java/lang/StringUTF16" 164 yJ11_isValidCodePoint_9a6ad cJ11_isValidCodePoint_9a6ad 2 (some .boolean) 1 := ⟨zw_675, zw_676, zw_57, zw_677, ⟨by decide +kernel, by decide +kernel, by decide +kernel⟩, by decide⟩
theorem zk_J2_183 : zCs "java/lang/StringUTF16" 183 yJ9_min_7cf53 cJ9_min_7cf53 2 (some .int) 2 := ⟨zw_641, zw_586, zw_51, zw_587, ⟨by decide +kernel, by decide +kernel, by decide +kernel⟩, by decide⟩
theorem zk_J2_224 : zCs "java/lang/StringUTF16" 224 yJ9_max_7cf53 cJ9_max_7cf53 2 (some .int) 2 := ⟨zw_640, zw_469, zw_51, zw_470, ⟨by decide +kernel, by decide +kernel, by decide +kernel⟩, by decide⟩
theorem zk_J2_228 : zCs "java/lang/StringUTF16" 228 yJ2_indexOfChar_4cfef cJ2_indexOfChar_4cfef 4 (some .int) 4 := ⟨zw_643, zw_644, zw_55, zw_645, ⟨by decide +kernel, by decide +kernel, by decide +kernel⟩, by decide⟩
theorem zk_J2_232 : zCs "java/lang/StringUTF16" 232 yJ2_indexOfSupplementary_4cfef cJ2_indexOfSupplementary_4cfef 7 (some .int) 4 := ⟨zw_672, zw_673, zw_55, zw_674, ⟨by decide +kernel, by decide +kernel, by decide +kernel⟩, by decide⟩
theorem zk_J2_241 : zCs "java/lang/StringUTF16" 241 yJ0_checkBoundsBeginEnd_23922 cJ0_checkBoundsBeginEnd_23922 3 none 3 := ⟨zw_652, zw_653, zw_53, zw_654, ⟨by decide +kernel, by decide +kernel, by decide +kernel⟩, by decide⟩
theorem zk_J2_244 : zCs "java/lang/StringUTF16" 244 yJ2_indexOfCharUnsafe_4cfef cJ2_indexOfCharUnsafe_4cfef 5 (some .int) 4 := ⟨zw_660, zw_661, zw_55, zw_662, ⟨by decide +kernel, by decide +kernel, by decide +kernel⟩, by decide⟩
end
