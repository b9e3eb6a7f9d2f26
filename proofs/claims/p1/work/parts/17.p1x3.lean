set_option maxRecDepth 100000 in
set_option maxHeartbeats 4000000 in
theorem p_X9_deed (d : Nat) (a1 a2 a3 a4 : Int32) : ZM (d + 4) yX9_deed cX9_deed 5 (some .int) [zr 0 0, zi a1, zi a2, zi a3, zi a4] z0 (fun r g => r = some (zi (if (1 ≤ a1.toInt ∧ a1.toInt ≤ 63) ∧ (0 ≤ a2.toInt ∧ a2.toInt ≤ 63) ∧ (0 ≤ a3.toInt ∧ a3.toInt ≤ 5) ∧ (0 ≤ a4.toInt ∧ a4.toInt ≤ 99) then 0 else -1)) ∧ zKeep g) := by
  refine ZM.intro (by decide +kernel) (Nat.le_of_ble_eq_true rfl) ?_
  intro X C hr hn
  show Z X 0 [some (zr 0 0), some (zi a1), some (zi a2), some (zi a3), some (zi a4)] [] z0
  refine z_iload_n (pc := 0) C dX9_deed_0 rfl ?_
  refine z_iconst (pc := 1) (v := 1) C dX9_deed_1 (by decide) ?_
  refine z_icmp_lt (pc := 2) 36 C dX9_deed_2 (by decide) (fun h2 => ?_) (fun h2 => ?_)
  · skip
    refine z_iconst (pc := 36) (v := -1) C dX9_deed_36 (by decide) ?_
    exact z_iret (pc := 37) C hr dX9_deed_37 (⟨by congr 2; first | (rw [if_neg (by simp only [z32lt, z32le, z32eq, Int32.reduceToInt, Int32.toInt_zero, Int32.toInt_one] at *; omega)]; done) | (rw [if_pos (by simp only [z32lt, z32le, z32eq, Int32.reduceToInt, Int32.toInt_zero, Int32.toInt_one] at *; omega)] <;> simp [zup, z0, zfill]), by repeat (first | exact zk0 | refine zKeep.up ?_ (by decide) | refine zKeep.fill ?_ (by decide))⟩)
  · skip
    refine z_iload_n (pc := 5) C dX9_deed_5 rfl ?_
    refine z_bipush (pc := 6) (v := 63) C dX9_deed_6 (by decide) ?_
    refine z_icmp_gt (pc := 8) 36 C dX9_deed_8 (by decide) (fun h8 => ?_) (fun h8 => ?_)
    · skip
      refine z_iconst (pc := 36) (v := -1) C dX9_deed_36 (by decide) ?_
      exact z_iret (pc := 37) C hr dX9_deed_37 (⟨by congr 2; first | (rw [if_neg (by simp only [z32lt, z32le, z32eq, Int32.reduceToInt, Int32.toInt_zero, Int32.toInt_one] at *; omega)]; done) | (rw [if_pos (by simp only [z32lt, z32le, z32eq, Int32.reduceToInt, Int32.toInt_zero, Int32.toInt_one] at *; omega)] <;> simp [zup, z0, zfill]), by repeat (first | exact zk0 | refine zKeep.up ?_ (by decide) | refine zKeep.fill ?_ (by decide))⟩)
    · skip
      refine z_iload_n (pc := 11) C dX9_deed_11 rfl ?_
      refine z_if_lt (pc := 12) 36 C dX9_deed_12 (by decide) (fun h12 => ?_) (fun h12 => ?_)
      · skip
        refine z_iconst (pc := 36) (v := -1) C dX9_deed_36 (by decide) ?_
        exact z_iret (pc := 37) C hr dX9_deed_37 (⟨by congr 2; first | (rw [if_neg (by simp only [z32lt, z32le, z32eq, Int32.reduceToInt, Int32.toInt_zero, Int32.toInt_one] at *; omega)]; done) | (rw [if_pos (by simp only [z32lt, z32le, z32eq, Int32.reduceToInt, Int32.toInt_zero, Int32.toInt_one] at *; omega)] <;> simp [zup, z0, zfill]), by repeat (first | exact zk0 | refine zKeep.up ?_ (by decide) | refine zKeep.fill ?_ (by decide))⟩)
      · skip
        refine z_iload_n (pc := 15) C dX9_deed_15 rfl ?_
        refine z_bipush (pc := 16) (v := 63) C dX9_deed_16 (by decide) ?_
        refine z_icmp_gt (pc := 18) 36 C dX9_deed_18 (by decide) (fun h18 => ?_) (fun h18 => ?_)
        · skip
          refine z_iconst (pc := 36) (v := -1) C dX9_deed_36 (by decide) ?_
          exact z_iret (pc := 37) C hr dX9_deed_37 (⟨by congr 2; first | (rw [if_neg (by simp only [z32lt, z32le, z32eq, Int32.reduceToInt, Int32.toInt_zero, Int32.toInt_one] at *; omega)]; done) | (rw [if_pos (by simp only [z32lt, z32le, z32eq, Int32.reduceToInt, Int32.toInt_zero, Int32.toInt_one] at *; omega)] <;> simp [zup, z0, zfill]), by repeat (first | exact zk0 | refine zKeep.up ?_ (by decide) | refine zKeep.fill ?_ (by decide))⟩)
        · skip
          refine z_iload_n (pc := 21) C dX9_deed_21 rfl ?_
          refine z_callSb (pc := 22) C zk_X9_46 (m_X9_isLand _ _ _) rfl rfl (Nat.le_of_ble_eq_true rfl) dX9_deed_22 (fun h22 => ?_) (fun h22 => ?_)
          · skip
            refine z_if_eq (pc := 25) 36 C dX9_deed_25 (by decide) (fun h25 => absurd h25 (by decide)) (fun h25 => ?_)
            refine z_iload (pc := 28) C dX9_deed_28 rfl ?_
            refine z_callSb (pc := 30) C zk_X9_68 (m_X9_isYear _ _ _) rfl rfl (Nat.le_of_ble_eq_true rfl) dX9_deed_30 (fun h30 => ?_) (fun h30 => ?_)
            · skip
              refine z_if_ne (pc := 33) 38 C dX9_deed_33 (by decide) (fun h33 => ?_) (fun h33 => absurd h33 (by decide))
              refine z_aload_n (pc := 38) C dX9_deed_38 rfl ?_
              refine z_getR (pc := 39) C zf_X9_10 rfl rfl (by decide) dX9_deed_39 ?_
              refine z_getI (pc := 42) C zf_X9_71 rfl rfl (by decide) dX9_deed_42 ?_
              refine z_bipush (pc := 45) (v := 8) C dX9_deed_45 (by decide) ?_
              refine z_icmp_lt (pc := 47) 53 C dX9_deed_47 (by decide) (fun h47 => ?_) (fun h47 => absurd (by decide) h47)
              refine z_aload_n (pc := 53) C dX9_deed_53 rfl ?_
              refine z_getR (pc := 54) C zf_X9_10 rfl rfl (by decide) dX9_deed_54 ?_
              refine z_getR (pc := 57) C zf_X9_74 rfl rfl (by decide) dX9_deed_57 ?_
              refine z_aload_n (pc := 60) C dX9_deed_60 rfl ?_
              refine z_getR (pc := 61) C zf_X9_10 rfl rfl (by decide) dX9_deed_61 ?_
              refine z_getI (pc := 64) C zf_X9_71 rfl rfl (by decide) dX9_deed_64 ?_
              refine z_aald (pc := 67) C rfl ⟨rfl, by decide⟩ (by decide) (by unfold vp_in; decide) dX9_deed_67 ?_
              refine z_iload_n (pc := 68) C dX9_deed_68 rfl ?_
              refine z_iload_n (pc := 69) C dX9_deed_69 rfl ?_
              refine z_iload_n (pc := 70) C dX9_deed_70 rfl ?_
              refine z_iload (pc := 71) C dX9_deed_71 rfl ?_
              refine z_callVx (pc := 73) C zk_X9_78 (m_X1_tell _ _ _ (by decide) _ _ _ _) rfl rfl (by decide) rfl rfl (Nat.le_of_ble_eq_true rfl) dX9_deed_73 ?_
              simp only [Option.toList, List.cons_append, List.nil_append]
              refine z_aload_n (pc := 76) C dX9_deed_76 rfl ?_
              refine z_getR (pc := 77) C zf_X9_10 rfl rfl (by decide) dX9_deed_77 ?_
              refine z_callV (pc := 80) C zk_X9_83 (p_X8_takeDeed _ _ rfl rfl) rfl rfl (by decide) rfl rfl (Nat.le_of_ble_eq_true rfl) dX9_deed_80 (fun r80 g80 q80 => ?_)
              obtain ⟨rfl, hk80⟩ := q80
              simp only [Option.toList, List.cons_append, List.nil_append]
              exact z_iret (pc := 83) C hr dX9_deed_83 (⟨by congr 2; first | (rw [if_neg (by simp only [z32lt, z32le, z32eq, Int32.reduceToInt, Int32.toInt_zero, Int32.toInt_one] at *; omega)]; done) | (rw [if_pos (by simp only [z32lt, z32le, z32eq, Int32.reduceToInt, Int32.toInt_zero, Int32.toInt_one] at *; omega)] <;> simp [zup, z0, zfill]), hk80 (by repeat (first | exact zk0 | refine zKeep.up ?_ (by decide) | refine zKeep.fill ?_ (by decide)))⟩)
            · skip
              refine z_if_ne (pc := 33) 38 C dX9_deed_33 (by decide) (fun h33 => absurd (by decide) h33) (fun h33 => ?_)
              refine z_iconst (pc := 36) (v := -1) C dX9_deed_36 (by decide) ?_
              exact z_iret (pc := 37) C hr dX9_deed_37 (⟨by congr 2; first | (rw [if_neg (by simp only [z32lt, z32le, z32eq, Int32.reduceToInt, Int32.toInt_zero, Int32.toInt_one] at *; omega)]; done) | (rw [if_pos (by simp only [z32lt, z32le, z32eq, Int32.reduceToInt, Int32.toInt_zero, Int32.toInt_one] at *; omega)] <;> simp [zup, z0, zfill]), by repeat (first | exact zk0 | refine zKeep.up ?_ (by decide) | refine zKeep.fill ?_ (by decide))⟩)
          · skip
            refine z_if_eq (pc := 25) 36 C dX9_deed_25 (by decide) (fun h25 => ?_) (fun h25 => absurd (by decide) h25)
            refine z_iconst (pc := 36) (v := -1) C dX9_deed_36 (by decide) ?_
            exact z_iret (pc := 37) C hr dX9_deed_37 (⟨by congr 2; first | (rw [if_neg (by simp only [z32lt, z32le, z32eq, Int32.reduceToInt, Int32.toInt_zero, Int32.toInt_one] at *; omega)]; done) | (rw [if_pos (by simp only [z32lt, z32le, z32eq, Int32.reduceToInt, Int32.toInt_zero, Int32.toInt_one] at *; omega)] <;> simp [zup, z0, zfill]), by repeat (first | exact zk0 | refine zKeep.up ?_ (by decide) | refine zKeep.fill ?_ (by decide))⟩)

set_option maxRecDepth 100000 in
set_option maxHeartbeats 4000000 in
theorem p_X9_addPaper (d : Nat) (a1 a2 a3 a4 a5 : Int32) : ZM (d + 1) yX9_addPaper cX9_addPaper 7 (some .int) [zr 0 0, zi a1, zi a2, zi a3, zi a4, zi a5] z0 (fun r g => ((((0 ≤ a1.toInt ∧ a1.toInt ≤ 5) ∧ (0 ≤ a2.toInt ∧ a2.toInt ≤ 5) ∧ ¬ a1.toInt = a2.toInt ∧ (0 ≤ a3.toInt ∧ a3.toInt ≤ 31) ∧ (0 ≤ a4.toInt ∧ a4.toInt ≤ 99) ∧ (0 ≤ a5.toInt ∧ a5.toInt ≤ 7)) ∧ r = some (zi 0)) ∨ (¬ ((0 ≤ a1.toInt ∧ a1.toInt ≤ 5) ∧ (0 ≤ a2.toInt ∧ a2.toInt ≤ 5) ∧ ¬ a1.toInt = a2.toInt ∧ (0 ≤ a3.toInt ∧ a3.toInt ≤ 31) ∧ (0 ≤ a4.toInt ∧ a4.toInt ≤ 99) ∧ (0 ≤ a5.toInt ∧ a5.toInt ≤ 7)) ∧ r = some (zi (-1)))) ∧ zKeep g) := by
  refine ZM.intro (by decide +kernel) (Nat.le_of_ble_eq_true rfl) ?_
  intro X C hr hn
  show Z X 0 [some (zr 0 0), some (zi a1), some (zi a2), some (zi a3), some (zi a4), some (zi a5), none] [] z0
  refine z_iload_n (pc := 0) C dX9_addPaper_0 rfl ?_
  refine z_callSb (pc := 1) C zk_X9_46 (m_X9_isLand _ _ _) rfl rfl (Nat.le_of_ble_eq_true rfl) dX9_addPaper_1 (fun h1 => ?_) (fun h1 => ?_)
  · skip
    refine z_if_eq (pc := 4) 49 C dX9_addPaper_4 (by decide) (fun h4 => absurd h4 (by decide)) (fun h4 => ?_)
    refine z_iload_n (pc := 7) C dX9_addPaper_7 rfl ?_
    refine z_callSb (pc := 8) C zk_X9_46 (m_X9_isLand _ _ _) rfl rfl (Nat.le_of_ble_eq_true rfl) dX9_addPaper_8 (fun h8 => ?_) (fun h8 => ?_)
    · skip
      refine z_if_eq (pc := 11) 49 C dX9_addPaper_11 (by decide) (fun h11 => absurd h11 (by decide)) (fun h11 => ?_)
      refine z_iload_n (pc := 14) C dX9_addPaper_14 rfl ?_
      refine z_iload_n (pc := 15) C dX9_addPaper_15 rfl ?_
      refine z_icmp_eq (pc := 16) 49 C dX9_addPaper_16 (by decide) (fun h16 => ?_) (fun h16 => ?_)
      · skip
        refine z_iconst (pc := 49) (v := -1) C dX9_addPaper_49 (by decide) ?_
        exact z_iret (pc := 50) C hr dX9_addPaper_50 (⟨by first | (refine Or.inr ⟨by simp only [z32lt, z32le, z32eq, Int32.reduceToInt, Int32.toInt_zero, Int32.toInt_one] at *; omega, rfl⟩; done) | (refine Or.inl ⟨by simp only [z32lt, z32le, z32eq, Int32.reduceToInt, Int32.toInt_zero, Int32.toInt_one] at *; omega, by simp [zup, z0]⟩; done), by repeat (first | exact zk0 | refine zKeep.up ?_ (by decide) | refine zKeep.fill ?_ (by decide))⟩)
      · skip
        refine z_iload_n (pc := 19) C dX9_addPaper_19 rfl ?_
        refine z_if_lt (pc := 20) 49 C dX9_addPaper_20 (by decide) (fun h20 => ?_) (fun h20 => ?_)
        · skip
          refine z_iconst (pc := 49) (v := -1) C dX9_addPaper_49 (by decide) ?_
          exact z_iret (pc := 50) C hr dX9_addPaper_50 (⟨by first | (refine Or.inr ⟨by simp only [z32lt, z32le, z32eq, Int32.reduceToInt, Int32.toInt_zero, Int32.toInt_one] at *; omega, rfl⟩; done) | (refine Or.inl ⟨by simp only [z32lt, z32le, z32eq, Int32.reduceToInt, Int32.toInt_zero, Int32.toInt_one] at *; omega, by simp [zup, z0]⟩; done), by repeat (first | exact zk0 | refine zKeep.up ?_ (by decide) | refine zKeep.fill ?_ (by decide))⟩)
        · skip
          refine z_iload_n (pc := 23) C dX9_addPaper_23 rfl ?_
          refine z_bipush (pc := 24) (v := 31) C dX9_addPaper_24 (by decide) ?_
          refine z_icmp_gt (pc := 26) 49 C dX9_addPaper_26 (by decide) (fun h26 => ?_) (fun h26 => ?_)
          · skip
            refine z_iconst (pc := 49) (v := -1) C dX9_addPaper_49 (by decide) ?_
            exact z_iret (pc := 50) C hr dX9_addPaper_50 (⟨by first | (refine Or.inr ⟨by simp only [z32lt, z32le, z32eq, Int32.reduceToInt, Int32.toInt_zero, Int32.toInt_one] at *; omega, rfl⟩; done) | (refine Or.inl ⟨by simp only [z32lt, z32le, z32eq, Int32.reduceToInt, Int32.toInt_zero, Int32.toInt_one] at *; omega, by simp [zup, z0]⟩; done), by repeat (first | exact zk0 | refine zKeep.up ?_ (by decide) | refine zKeep.fill ?_ (by decide))⟩)
          · skip
            refine z_iload (pc := 29) C dX9_addPaper_29 rfl ?_
            refine z_callSb (pc := 31) C zk_X9_68 (m_X9_isYear _ _ _) rfl rfl (Nat.le_of_ble_eq_true rfl) dX9_addPaper_31 (fun h31 => ?_) (fun h31 => ?_)
            · skip
              refine z_if_eq (pc := 34) 49 C dX9_addPaper_34 (by decide) (fun h34 => absurd h34 (by decide)) (fun h34 => ?_)
              refine z_iload (pc := 37) C dX9_addPaper_37 rfl ?_
              refine z_if_lt (pc := 39) 49 C dX9_addPaper_39 (by decide) (fun h39 => ?_) (fun h39 => ?_)
              · skip
                refine z_iconst (pc := 49) (v := -1) C dX9_addPaper_49 (by decide) ?_
                exact z_iret (pc := 50) C hr dX9_addPaper_50 (⟨by first | (refine Or.inr ⟨by simp only [z32lt, z32le, z32eq, Int32.reduceToInt, Int32.toInt_zero, Int32.toInt_one] at *; omega, rfl⟩; done) | (refine Or.inl ⟨by simp only [z32lt, z32le, z32eq, Int32.reduceToInt, Int32.toInt_zero, Int32.toInt_one] at *; omega, by simp [zup, z0]⟩; done), by repeat (first | exact zk0 | refine zKeep.up ?_ (by decide) | refine zKeep.fill ?_ (by decide))⟩)
              · skip
                refine z_iload (pc := 42) C dX9_addPaper_42 rfl ?_
                refine z_bipush (pc := 44) (v := 7) C dX9_addPaper_44 (by decide) ?_
                refine z_icmp_le (pc := 46) 51 C dX9_addPaper_46 (by decide) (fun h46 => ?_) (fun h46 => ?_)
                · skip
                  refine z_aload_n (pc := 51) C dX9_addPaper_51 rfl ?_
                  refine z_getR (pc := 52) C zf_X9_10 rfl rfl (by decide) dX9_addPaper_52 ?_
                  refine z_getI (pc := 55) C zf_X9_119 rfl rfl (by decide) dX9_addPaper_55 ?_
                  refine z_bipush (pc := 58) (v := 12) C dX9_addPaper_58 (by decide) ?_
                  refine z_icmp_lt (pc := 60) 66 C dX9_addPaper_60 (by decide) (fun h60 => ?_) (fun h60 => absurd (by decide) h60)
                  refine z_aload_n (pc := 66) C dX9_addPaper_66 rfl ?_
                  refine z_getR (pc := 67) C zf_X9_10 rfl rfl (by decide) dX9_addPaper_67 ?_
                  refine z_getR (pc := 70) C zf_X9_90 rfl rfl (by decide) dX9_addPaper_70 ?_
                  refine z_aload_n (pc := 73) C dX9_addPaper_73 rfl ?_
                  refine z_getR (pc := 74) C zf_X9_10 rfl rfl (by decide) dX9_addPaper_74 ?_
                  refine z_getI (pc := 77) C zf_X9_119 rfl rfl (by decide) dX9_addPaper_77 ?_
                  refine z_aald (pc := 80) C rfl ⟨rfl, by decide⟩ (by decide) (by unfold vp_in; decide) dX9_addPaper_80 ?_
                  refine z_astore (pc := 81) C dX9_addPaper_81 (by rw [hn]; decide) rfl ?_
                  refine z_aload (pc := 83) C dX9_addPaper_83 rfl ?_
                  refine z_iload_n (pc := 85) C dX9_addPaper_85 rfl ?_
                  refine z_iload_n (pc := 86) C dX9_addPaper_86 rfl ?_
                  refine z_callVx (pc := 87) C zk_X9_342 (m_X4_lead _ _ _ (by decide) _ _) rfl rfl (by decide) rfl rfl (Nat.le_of_ble_eq_true rfl) dX9_addPaper_87 ?_
                  simp only [Option.toList, List.cons_append, List.nil_append]
                  refine z_aload (pc := 90) C dX9_addPaper_90 rfl ?_
                  refine z_iload_n (pc := 92) C dX9_addPaper_92 rfl ?_
                  refine z_iload (pc := 93) C dX9_addPaper_93 rfl ?_
                  refine z_iload (pc := 95) C dX9_addPaper_95 rfl ?_
                  refine z_callVx (pc := 97) C zk_X9_345 (m_X4_rule _ _ _ (by decide) _ _ _) rfl rfl (by decide) rfl rfl (Nat.le_of_ble_eq_true rfl) dX9_addPaper_97 ?_
                  simp only [Option.toList, List.cons_append, List.nil_append]
                  refine z_aload_n (pc := 100) C dX9_addPaper_100 rfl ?_
                  refine z_getR (pc := 101) C zf_X9_10 rfl rfl (by decide) dX9_addPaper_101 ?_
                  refine z_callVx (pc := 104) C zk_X9_132 (m_X8_takePaper _ _) rfl rfl (by decide) rfl rfl (Nat.le_of_ble_eq_true rfl) dX9_addPaper_104 ?_
                  simp only [Option.toList, List.cons_append, List.nil_append]
                  exact z_iret (pc := 107) C hr dX9_addPaper_107 (⟨by first | (refine Or.inr ⟨by simp only [z32lt, z32le, z32eq, Int32.reduceToInt, Int32.toInt_zero, Int32.toInt_one] at *; omega, rfl⟩; done) | (refine Or.inl ⟨by simp only [z32lt, z32le, z32eq, Int32.reduceToInt, Int32.toInt_zero, Int32.toInt_one] at *; omega, by simp [zup, z0]⟩; done), by repeat (first | exact zk0 | refine zKeep.up ?_ (by decide) | refine zKeep.fill ?_ (by decide))⟩)
                · skip
                  refine z_iconst (pc := 49) (v := -1) C dX9_addPaper_49 (by decide) ?_
                  exact z_iret (pc := 50) C hr dX9_addPaper_50 (⟨by first | (refine Or.inr ⟨by simp only [z32lt, z32le, z32eq, Int32.reduceToInt, Int32.toInt_zero, Int32.toInt_one] at *; omega, rfl⟩; done) | (refine Or.inl ⟨by simp only [z32lt, z32le, z32eq, Int32.reduceToInt, Int32.toInt_zero, Int32.toInt_one] at *; omega, by simp [zup, z0]⟩; done), by repeat (first | exact zk0 | refine zKeep.up ?_ (by decide) | refine zKeep.fill ?_ (by decide))⟩)
            · skip
              refine z_if_eq (pc := 34) 49 C dX9_addPaper_34 (by decide) (fun h34 => ?_) (fun h34 => absurd (by decide) h34)
              refine z_iconst (pc := 49) (v := -1) C dX9_addPaper_49 (by decide) ?_
              exact z_iret (pc := 50) C hr dX9_addPaper_50 (⟨by first | (refine Or.inr ⟨by simp only [z32lt, z32le, z32eq, Int32.reduceToInt, Int32.toInt_zero, Int32.toInt_one] at *; omega, rfl⟩; done) | (refine Or.inl ⟨by simp only [z32lt, z32le, z32eq, Int32.reduceToInt, Int32.toInt_zero, Int32.toInt_one] at *; omega, by simp [zup, z0]⟩; done), by repeat (first | exact zk0 | refine zKeep.up ?_ (by decide) | refine zKeep.fill ?_ (by decide))⟩)
    · skip
      refine z_if_eq (pc := 11) 49 C dX9_addPaper_11 (by decide) (fun h11 => ?_) (fun h11 => absurd (by decide) h11)
      refine z_iconst (pc := 49) (v := -1) C dX9_addPaper_49 (by decide) ?_
      exact z_iret (pc := 50) C hr dX9_addPaper_50 (⟨by first | (refine Or.inr ⟨by simp only [z32lt, z32le, z32eq, Int32.reduceToInt, Int32.toInt_zero, Int32.toInt_one] at *; omega, rfl⟩; done) | (refine Or.inl ⟨by simp only [z32lt, z32le, z32eq, Int32.reduceToInt, Int32.toInt_zero, Int32.toInt_one] at *; omega, by simp [zup, z0]⟩; done), by repeat (first | exact zk0 | refine zKeep.up ?_ (by decide) | refine zKeep.fill ?_ (by decide))⟩)
  · skip
    refine z_if_eq (pc := 4) 49 C dX9_addPaper_4 (by decide) (fun h4 => ?_) (fun h4 => absurd (by decide) h4)
    refine z_iconst (pc := 49) (v := -1) C dX9_addPaper_49 (by decide) ?_
    exact z_iret (pc := 50) C hr dX9_addPaper_50 (⟨by first | (refine Or.inr ⟨by simp only [z32lt, z32le, z32eq, Int32.reduceToInt, Int32.toInt_zero, Int32.toInt_one] at *; omega, rfl⟩; done) | (refine Or.inl ⟨by simp only [z32lt, z32le, z32eq, Int32.reduceToInt, Int32.toInt_zero, Int32.toInt_one] at *; omega, by simp [zup, z0]⟩; done), by repeat (first | exact zk0 | refine zKeep.up ?_ (by decide) | refine zKeep.fill ?_ (by decide))⟩)

set_option maxRecDepth 100000 in
set_option maxHeartbeats 4000000 in
theorem p_X9_years (d : Nat) (a1 a2 a3 a4 a5 a6 : Int32) : ZM (d + 2) yX9_years cX9_years 8 (some .int) [zr 0 0, zi a1, zi a2, zi a3, zi a4, zi a5, zi a6] z0 (fun r g => r = some (zi (if ((0 ≤ a1.toInt ∧ a1.toInt ≤ 5) ∧ (0 ≤ a2.toInt ∧ a2.toInt ≤ 5) ∧ ¬ a1.toInt = a2.toInt ∧ (0 ≤ a4.toInt ∧ a4.toInt ≤ 31) ∧ (0 ≤ a5.toInt ∧ a5.toInt ≤ 99) ∧ (0 ≤ a6.toInt ∧ a6.toInt ≤ 7)) ∧ (1 ≤ a3.toInt ∧ a3.toInt ≤ 40) then 0 else -1)) ∧ zKeep g) := by
  refine ZM.intro (by decide +kernel) (Nat.le_of_ble_eq_true rfl) ?_
  intro X C hr hn
  show Z X 0 [some (zr 0 0), some (zi a1), some (zi a2), some (zi a3), some (zi a4), some (zi a5), some (zi a6), none] [] z0
  refine z_iload_n (pc := 0) C dX9_years_0 rfl ?_
  refine z_iconst (pc := 1) (v := 1) C dX9_years_1 (by decide) ?_
  refine z_icmp_lt (pc := 2) 11 C dX9_years_2 (by decide) (fun h2 => ?_) (fun h2 => ?_)
  · skip
    refine z_iconst (pc := 11) (v := -1) C dX9_years_11 (by decide) ?_
    exact z_iret (pc := 12) C hr dX9_years_12 (⟨by congr 2; first | (rw [if_neg (by simp only [z32lt, z32le, z32eq, Int32.reduceToInt, Int32.toInt_zero, Int32.toInt_one] at *; omega)]; done) | (rw [if_pos (by simp only [z32lt, z32le, z32eq, Int32.reduceToInt, Int32.toInt_zero, Int32.toInt_one] at *; omega)] <;> simp [zup, z0, zfill]), by repeat (first | exact zk0 | refine zKeep.up ?_ (by decide) | refine zKeep.fill ?_ (by decide))⟩)
  · skip
    refine z_iload_n (pc := 5) C dX9_years_5 rfl ?_
    refine z_bipush (pc := 6) (v := 40) C dX9_years_6 (by decide) ?_
    refine z_icmp_le (pc := 8) 13 C dX9_years_8 (by decide) (fun h8 => ?_) (fun h8 => ?_)
    · skip
      refine z_aload_n (pc := 13) C dX9_years_13 rfl ?_
      refine z_iload_n (pc := 14) C dX9_years_14 rfl ?_
      refine z_iload_n (pc := 15) C dX9_years_15 rfl ?_
      refine z_iload (pc := 16) C dX9_years_16 rfl ?_
      refine z_iload (pc := 18) C dX9_years_18 rfl ?_
      refine z_iload (pc := 20) C dX9_years_20 rfl ?_
      refine z_callV (pc := 22) C zk_X9_86 (p_X9_addPaper _ _ _ _ _ _) rfl rfl (by decide) rfl rfl (Nat.le_of_ble_eq_true rfl) dX9_years_22 (fun r22 g22 q22 => ?_)
      obtain ⟨⟨hg22, rfl⟩ | ⟨hg22, rfl⟩, hk22⟩ := q22
      · skip
        simp only [Option.toList, List.cons_append, List.nil_append]
        refine z_istore (pc := 25) C dX9_years_25 (by rw [hn]; decide) rfl ?_
        refine z_iload (pc := 27) C dX9_years_27 rfl ?_
        refine z_if_lt (pc := 29) 48 C dX9_years_29 (by decide) (fun h29 => absurd h29 (by decide)) (fun h29 => ?_)
        refine z_aload_n (pc := 32) C dX9_years_32 rfl ?_
        refine z_getR (pc := 33) C zf_X9_10 rfl rfl (by decide) dX9_years_33 ?_
        refine z_getR (pc := 36) C zf_X9_90 rfl rfl (by decide) dX9_years_36 ?_
        refine z_iload (pc := 39) C dX9_years_39 rfl ?_
        refine z_aald (pc := 41) C rfl ⟨rfl, by decide⟩ (by decide) (by unfold vp_in; decide) dX9_years_41 ?_
        refine z_iconst (pc := 42) (v := 0) C dX9_years_42 (by decide) ?_
        refine z_iload_n (pc := 43) C dX9_years_43 rfl ?_
        refine z_iconst (pc := 44) (v := 0) C dX9_years_44 (by decide) ?_
        refine z_callVx (pc := 45) C zk_X9_94 (m_X4_become _ _ _ (by decide) _ _ _) rfl rfl (by decide) rfl rfl (Nat.le_of_ble_eq_true rfl) dX9_years_45 ?_
        simp only [Option.toList, List.cons_append, List.nil_append]
        refine z_iload (pc := 48) C dX9_years_48 rfl ?_
        exact z_iret (pc := 50) C hr dX9_years_50 (⟨by congr 2; first | (rw [if_neg (by simp only [z32lt, z32le, z32eq, Int32.reduceToInt, Int32.toInt_zero, Int32.toInt_one] at *; omega)]; done) | (rw [if_pos (by simp only [z32lt, z32le, z32eq, Int32.reduceToInt, Int32.toInt_zero, Int32.toInt_one] at *; omega)] <;> simp [zup, z0, zfill]), by repeat (first | exact hk22 | refine zKeep.up ?_ (by decide) | refine zKeep.fill ?_ (by decide))⟩)
      · skip
        simp only [Option.toList, List.cons_append, List.nil_append]
        refine z_istore (pc := 25) C dX9_years_25 (by rw [hn]; decide) rfl ?_
        refine z_iload (pc := 27) C dX9_years_27 rfl ?_
        refine z_if_lt (pc := 29) 48 C dX9_years_29 (by decide) (fun h29 => ?_) (fun h29 => absurd (by decide) h29)
        refine z_iload (pc := 48) C dX9_years_48 rfl ?_
        exact z_iret (pc := 50) C hr dX9_years_50 (⟨by congr 2; first | (rw [if_neg (by simp only [z32lt, z32le, z32eq, Int32.reduceToInt, Int32.toInt_zero, Int32.toInt_one] at *; omega)]; done) | (rw [if_pos (by simp only [z32lt, z32le, z32eq, Int32.reduceToInt, Int32.toInt_zero, Int32.toInt_one] at *; omega)] <;> simp [zup, z0, zfill]), by repeat (first | exact hk22 | refine zKeep.up ?_ (by decide) | refine zKeep.fill ?_ (by decide))⟩)
    · skip
      refine z_iconst (pc := 11) (v := -1) C dX9_years_11 (by decide) ?_
      exact z_iret (pc := 12) C hr dX9_years_12 (⟨by congr 2; first | (rw [if_neg (by simp only [z32lt, z32le, z32eq, Int32.reduceToInt, Int32.toInt_zero, Int32.toInt_one] at *; omega)]; done) | (rw [if_pos (by simp only [z32lt, z32le, z32eq, Int32.reduceToInt, Int32.toInt_zero, Int32.toInt_one] at *; omega)] <;> simp [zup, z0, zfill]), by repeat (first | exact zk0 | refine zKeep.up ?_ (by decide) | refine zKeep.fill ?_ (by decide))⟩)

set_option maxRecDepth 100000 in
set_option maxHeartbeats 4000000 in
theorem p_X9_custom (d : Nat) (a1 a2 a3 a4 a5 : Int32) : ZM (d + 2) yX9_custom cX9_custom 7 (some .int) [zr 0 0, zi a1, zi a2, zi a3, zi a4, zi a5] z0 (fun r g => r = some (zi (if (0 ≤ a1.toInt ∧ a1.toInt ≤ 5) ∧ (0 ≤ a2.toInt ∧ a2.toInt ≤ 5) ∧ ¬ a1.toInt = a2.toInt ∧ (0 ≤ a3.toInt ∧ a3.toInt ≤ 31) ∧ (0 ≤ a4.toInt ∧ a4.toInt ≤ 99) ∧ (0 ≤ a5.toInt ∧ a5.toInt ≤ 7) then 0 else -1)) ∧ zKeep g) := by
  refine ZM.intro (by decide +kernel) (Nat.le_of_ble_eq_true rfl) ?_
  intro X C hr hn
  show Z X 0 [some (zr 0 0), some (zi a1), some (zi a2), some (zi a3), some (zi a4), some (zi a5), none] [] z0
  refine z_aload_n (pc := 0) C dX9_custom_0 rfl ?_
  refine z_iload_n (pc := 1) C dX9_custom_1 rfl ?_
  refine z_iload_n (pc := 2) C dX9_custom_2 rfl ?_
  refine z_iload_n (pc := 3) C dX9_custom_3 rfl ?_
  refine z_iload (pc := 4) C dX9_custom_4 rfl ?_
  refine z_iload (pc := 6) C dX9_custom_6 rfl ?_
  refine z_callV (pc := 8) C zk_X9_86 (p_X9_addPaper _ _ _ _ _ _) rfl rfl (by decide) rfl rfl (Nat.le_of_ble_eq_true rfl) dX9_custom_8 (fun r8 g8 q8 => ?_)
  obtain ⟨⟨hg8, rfl⟩ | ⟨hg8, rfl⟩, hk8⟩ := q8
  · skip
    simp only [Option.toList, List.cons_append, List.nil_append]
    refine z_istore (pc := 11) C dX9_custom_11 (by rw [hn]; decide) rfl ?_
    refine z_iload (pc := 13) C dX9_custom_13 rfl ?_
    refine z_if_lt (pc := 15) 34 C dX9_custom_15 (by decide) (fun h15 => absurd h15 (by decide)) (fun h15 => ?_)
    refine z_aload_n (pc := 18) C dX9_custom_18 rfl ?_
    refine z_getR (pc := 19) C zf_X9_10 rfl rfl (by decide) dX9_custom_19 ?_
    refine z_getR (pc := 22) C zf_X9_90 rfl rfl (by decide) dX9_custom_22 ?_
    refine z_iload (pc := 25) C dX9_custom_25 rfl ?_
    refine z_aald (pc := 27) C rfl ⟨rfl, by decide⟩ (by decide) (by unfold vp_in; decide) dX9_custom_27 ?_
    refine z_iconst (pc := 28) (v := 2) C dX9_custom_28 (by decide) ?_
    refine z_iconst (pc := 29) (v := 1) C dX9_custom_29 (by decide) ?_
    refine z_iconst (pc := 30) (v := 0) C dX9_custom_30 (by decide) ?_
    refine z_callVx (pc := 31) C zk_X9_94 (m_X4_become _ _ _ (by decide) _ _ _) rfl rfl (by decide) rfl rfl (Nat.le_of_ble_eq_true rfl) dX9_custom_31 ?_
    simp only [Option.toList, List.cons_append, List.nil_append]
    refine z_iload (pc := 34) C dX9_custom_34 rfl ?_
    exact z_iret (pc := 36) C hr dX9_custom_36 (⟨by congr 2; first | (rw [if_neg (by simp only [z32lt, z32le, z32eq, Int32.reduceToInt, Int32.toInt_zero, Int32.toInt_one] at *; omega)]; done) | (rw [if_pos (by simp only [z32lt, z32le, z32eq, Int32.reduceToInt, Int32.toInt_zero, Int32.toInt_one] at *; omega)] <;> simp [zup, z0, zfill]), by repeat (first | exact hk8 | refine zKeep.up ?_ (by decide) | refine zKeep.fill ?_ (by decide))⟩)
  · skip
    simp only [Option.toList, List.cons_append, List.nil_append]
    refine z_istore (pc := 11) C dX9_custom_11 (by rw [hn]; decide) rfl ?_
    refine z_iload (pc := 13) C dX9_custom_13 rfl ?_
    refine z_if_lt (pc := 15) 34 C dX9_custom_15 (by decide) (fun h15 => ?_) (fun h15 => absurd (by decide) h15)
    refine z_iload (pc := 34) C dX9_custom_34 rfl ?_
    exact z_iret (pc := 36) C hr dX9_custom_36 (⟨by congr 2; first | (rw [if_neg (by simp only [z32lt, z32le, z32eq, Int32.reduceToInt, Int32.toInt_zero, Int32.toInt_one] at *; omega)]; done) | (rw [if_pos (by simp only [z32lt, z32le, z32eq, Int32.reduceToInt, Int32.toInt_zero, Int32.toInt_one] at *; omega)] <;> simp [zup, z0, zfill]), by repeat (first | exact hk8 | refine zKeep.up ?_ (by decide) | refine zKeep.fill ?_ (by decide))⟩)

set_option maxRecDepth 100000 in
set_option maxHeartbeats 4000000 in
theorem p_X8_crimesOf (d : Nat) (f : zM) (v : Int32) (h0 : f 1 0 5 = 0) : ZM d yX8_crimesOf cX8_crimesOf 4 (some .int) [zr 1 0, zi v] f (fun r g => r = some (zi 0) ∧ g = f) := by
  refine ZM.intro (by decide +kernel) (Nat.le_of_ble_eq_true rfl) ?_
  intro X C hr hn
  show Z X 0 [some (zr 1 0), some (zi v), none, none] [] f
  refine z_iconst (pc := 0) (v := 0) C dX8_crimesOf_0 (by decide) ?_
  refine z_istore_n (pc := 1) C dX8_crimesOf_1 (by rw [hn]; decide) rfl ?_
  refine z_iconst (pc := 2) (v := 0) C dX8_crimesOf_2 (by decide) ?_
  refine z_istore_n (pc := 3) C dX8_crimesOf_3 (by rw [hn]; decide) rfl ?_
  refine z_iload_n (pc := 4) C dX8_crimesOf_4 rfl ?_
  refine z_aload_n (pc := 5) C dX8_crimesOf_5 rfl ?_
  refine z_getI (pc := 6) C zf_X8_46 rfl rfl (by decide) dX8_crimesOf_6 ?_
  refine z_icmp_ge (pc := 9) 41 C dX8_crimesOf_9 (by decide) (fun h9 => ?_) (fun h9 => absurd (by rw [h0]; decide) h9)
  refine z_iload_n (pc := 41) C dX8_crimesOf_41 rfl ?_
  exact z_iret (pc := 42) C hr dX8_crimesOf_42 (⟨rfl, rfl⟩)

set_option maxRecDepth 100000 in
set_option maxHeartbeats 4000000 in
theorem p_X9_named (d : Nat) (a1 a2 a3 a4 a5 a6 : Int32) : ZM (d + 1) yX9_named cX9_named 8 (some .int) [zr 0 0, zi a1, zi a2, zi a3, zi a4, zi a5, zi a6] z0 (fun r g => r = some (zi (-1)) ∧ zKeep g) := by
  refine ZM.intro (by decide +kernel) (Nat.le_of_ble_eq_true rfl) ?_
  intro X C hr hn
  show Z X 0 [some (zr 0 0), some (zi a1), some (zi a2), some (zi a3), some (zi a4), some (zi a5), some (zi a6), none] [] z0
  refine z_iload_n (pc := 0) C dX9_named_0 rfl ?_
  refine z_callSb (pc := 1) C zk_X9_46 (m_X9_isLand _ _ _) rfl rfl (Nat.le_of_ble_eq_true rfl) dX9_named_1 (fun h1 => ?_) (fun h1 => ?_)
  · skip
    refine z_if_eq (pc := 4) 26 C dX9_named_4 (by decide) (fun h4 => absurd h4 (by decide)) (fun h4 => ?_)
    refine z_iload_n (pc := 7) C dX9_named_7 rfl ?_
    refine z_if_eq (pc := 8) 26 C dX9_named_8 (by decide) (fun h8 => ?_) (fun h8 => ?_)
    · skip
      refine z_iconst (pc := 26) (v := -1) C dX9_named_26 (by decide) ?_
      exact z_iret (pc := 27) C hr dX9_named_27 (⟨by simp [zup, z0, zfill], by repeat (first | exact zk0 | refine zKeep.up ?_ (by decide) | refine zKeep.fill ?_ (by decide))⟩)
    · skip
      refine z_iload_n (pc := 11) C dX9_named_11 rfl ?_
      refine z_aload_n (pc := 12) C dX9_named_12 rfl ?_
      refine z_getR (pc := 13) C zf_X9_10 rfl rfl (by decide) dX9_named_13 ?_
      refine z_iload_n (pc := 16) C dX9_named_16 rfl ?_
      refine z_callVx (pc := 17) C zk_X9_100 (p_X8_crimesOf _ _ _ rfl) rfl rfl (by decide) rfl rfl (Nat.le_of_ble_eq_true rfl) dX9_named_17 ?_
      simp only [Option.toList, List.cons_append, List.nil_append]
      refine z_iconst (pc := 20) (v := -1) C dX9_named_20 (by decide) ?_
      refine z_ixor (pc := 21) C dX9_named_21 ?_
      refine z_iand (pc := 22) C dX9_named_22 ?_
      refine z_if_eq (pc := 23) 28 C dX9_named_23 (by decide) (fun h23 => absurd h23 (by simpa using h8)) (fun h23 => ?_)
      refine z_iconst (pc := 26) (v := -1) C dX9_named_26 (by decide) ?_
      exact z_iret (pc := 27) C hr dX9_named_27 (⟨by simp [zup, z0, zfill], by repeat (first | exact zk0 | refine zKeep.up ?_ (by decide) | refine zKeep.fill ?_ (by decide))⟩)
  · skip
    refine z_if_eq (pc := 4) 26 C dX9_named_4 (by decide) (fun h4 => ?_) (fun h4 => absurd (by decide) h4)
    refine z_iconst (pc := 26) (v := -1) C dX9_named_26 (by decide) ?_
    exact z_iret (pc := 27) C hr dX9_named_27 (⟨by simp [zup, z0, zfill], by repeat (first | exact zk0 | refine zKeep.up ?_ (by decide) | refine zKeep.fill ?_ (by decide))⟩)

set_option maxRecDepth 100000 in
set_option maxHeartbeats 4000000 in
theorem p_X9_crimeOf (d : Nat) (a1 a2 : Int32) : ZM d yX9_crimeOf cX9_crimeOf 4 (some .int) [zr 0 0, zi a1, zi a2] z0 (fun r g => r = some (zi (-1)) ∧ zKeep g) := by
  refine ZM.intro (by decide +kernel) (Nat.le_of_ble_eq_true rfl) ?_
  intro X C hr hn
  show Z X 0 [some (zr 0 0), some (zi a1), some (zi a2), none] [] z0
  refine z_iload_n (pc := 0) C dX9_crimeOf_0 rfl ?_
  refine z_if_lt (pc := 1) 15 C dX9_crimeOf_1 (by decide) (fun h1 => ?_) (fun h1 => ?_)
  · skip
    refine z_iconst (pc := 15) (v := -1) C dX9_crimeOf_15 (by decide) ?_
    exact z_iret (pc := 16) C hr dX9_crimeOf_16 (⟨by simp [zup, z0, zfill], by repeat (first | exact zk0 | refine zKeep.up ?_ (by decide) | refine zKeep.fill ?_ (by decide))⟩)
  · skip
    refine z_iload_n (pc := 4) C dX9_crimeOf_4 rfl ?_
    refine z_aload_n (pc := 5) C dX9_crimeOf_5 rfl ?_
    refine z_getR (pc := 6) C zf_X9_10 rfl rfl (by decide) dX9_crimeOf_6 ?_
    refine z_getI (pc := 9) C zf_X9_50 rfl rfl (by decide) dX9_crimeOf_9 ?_
    refine z_icmp_lt (pc := 12) 17 C dX9_crimeOf_12 (by decide) (fun h12 => absurd h12 (by simp only [z32lt, z32le, z32eq, Int32.reduceToInt, Int32.toInt_zero, z0] at *; omega)) (fun h12 => ?_)
    refine z_iconst (pc := 15) (v := -1) C dX9_crimeOf_15 (by decide) ?_
    exact z_iret (pc := 16) C hr dX9_crimeOf_16 (⟨by simp [zup, z0, zfill], by repeat (first | exact zk0 | refine zKeep.up ?_ (by decide) | refine zKeep.fill ?_ (by decide))⟩)

set_option maxRecDepth 100000 in
set_option maxHeartbeats 4000000 in
theorem p_X9_paper (d : Nat) (a1 a2 : Int32) : ZM (d + 1) yX9_paper cX9_paper 4 (some .int) [zr 0 0, zi a1, zi a2] z0 (fun r g => r = some (zi (-1)) ∧ zKeep g) := by
  refine ZM.intro (by decide +kernel) (Nat.le_of_ble_eq_true rfl) ?_
  intro X C hr hn
  show Z X 0 [some (zr 0 0), some (zi a1), some (zi a2), none] [] z0
  refine z_aload_n (pc := 0) C dX9_paper_0 rfl ?_
  refine z_iload_n (pc := 1) C dX9_paper_1 rfl ?_
  refine z_callVx (pc := 2) C zk_X9_153 (p_X9_isPaper _ _) rfl rfl (by decide) rfl rfl (Nat.le_of_ble_eq_true rfl) dX9_paper_2 ?_
  simp only [Option.toList, List.cons_append, List.nil_append]
  refine z_if_ne (pc := 5) 10 C dX9_paper_5 (by decide) (fun h5 => absurd (by decide) h5) (fun h5 => ?_)
  refine z_iconst (pc := 8) (v := -1) C dX9_paper_8 (by decide) ?_
  exact z_iret (pc := 9) C hr dX9_paper_9 (⟨by simp [zup, z0, zfill], by repeat (first | exact zk0 | refine zKeep.up ?_ (by decide) | refine zKeep.fill ?_ (by decide))⟩)

set_option maxRecDepth 100000 in
set_option maxHeartbeats 4000000 in
theorem p_X9_bars (d : Nat) (a1 a2 : Int32) : ZM (d + 1) yX9_bars cX9_bars 4 (some .int) [zr 0 0, zi a1, zi a2] z0 (fun r g => r = some (zi (-1)) ∧ zKeep g) := by
  refine ZM.intro (by decide +kernel) (Nat.le_of_ble_eq_true rfl) ?_
  intro X C hr hn
  show Z X 0 [some (zr 0 0), some (zi a1), some (zi a2), none] [] z0
  refine z_aload_n (pc := 0) C dX9_bars_0 rfl ?_
  refine z_iload_n (pc := 1) C dX9_bars_1 rfl ?_
  refine z_callVx (pc := 2) C zk_X9_153 (p_X9_isPaper _ _) rfl rfl (by decide) rfl rfl (Nat.le_of_ble_eq_true rfl) dX9_bars_2 ?_
  simp only [Option.toList, List.cons_append, List.nil_append]
  refine z_if_eq (pc := 5) 18 C dX9_bars_5 (by decide) (fun h5 => ?_) (fun h5 => absurd (by decide) h5)
  refine z_iconst (pc := 18) (v := -1) C dX9_bars_18 (by decide) ?_
  exact z_iret (pc := 19) C hr dX9_bars_19 (⟨by simp [zup, z0, zfill], by repeat (first | exact zk0 | refine zKeep.up ?_ (by decide) | refine zKeep.fill ?_ (by decide))⟩)

set_option maxRecDepth 100000 in
set_option maxHeartbeats 4000000 in
theorem p_X9_covers (d : Nat) (a1 : Int32) : ZM (d + 1) yX9_covers cX9_covers 2 (some .int) [zr 0 0, zi a1] z0 (fun r g => r = some (zi (-1)) ∧ zKeep g) := by
  refine ZM.intro (by decide +kernel) (Nat.le_of_ble_eq_true rfl) ?_
  intro X C hr hn
  show Z X 0 [some (zr 0 0), some (zi a1)] [] z0
  refine z_aload_n (pc := 0) C dX9_covers_0 rfl ?_
  refine z_iload_n (pc := 1) C dX9_covers_1 rfl ?_
  refine z_callVx (pc := 2) C zk_X9_153 (p_X9_isPaper _ _) rfl rfl (by decide) rfl rfl (Nat.le_of_ble_eq_true rfl) dX9_covers_2 ?_
  simp only [Option.toList, List.cons_append, List.nil_append]
  refine z_if_eq (pc := 5) 27 C dX9_covers_5 (by decide) (fun h5 => ?_) (fun h5 => absurd (by decide) h5)
  refine z_iconst (pc := 27) (v := -1) C dX9_covers_27 (by decide) ?_
  exact z_iret (pc := 28) C hr dX9_covers_28 (⟨by simp [zup, z0, zfill], by repeat (first | exact zk0 | refine zKeep.up ?_ (by decide) | refine zKeep.fill ?_ (by decide))⟩)

set_option maxRecDepth 100000 in
set_option maxHeartbeats 4000000 in
theorem p_X9_lets (d : Nat) (a1 : Int32) : ZM (d + 1) yX9_lets cX9_lets 3 (some .int) [zr 0 0, zi a1] z0 (fun r g => r = some (zi (-1)) ∧ zKeep g) := by
  refine ZM.intro (by decide +kernel) (Nat.le_of_ble_eq_true rfl) ?_
  intro X C hr hn
  show Z X 0 [some (zr 0 0), some (zi a1), none] [] z0
  refine z_aload_n (pc := 0) C dX9_lets_0 rfl ?_
  refine z_iload_n (pc := 1) C dX9_lets_1 rfl ?_
  refine z_callVx (pc := 2) C zk_X9_153 (p_X9_isPaper _ _) rfl rfl (by decide) rfl rfl (Nat.le_of_ble_eq_true rfl) dX9_lets_2 ?_
  simp only [Option.toList, List.cons_append, List.nil_append]
  refine z_if_ne (pc := 5) 10 C dX9_lets_5 (by decide) (fun h5 => absurd (by decide) h5) (fun h5 => ?_)
  refine z_iconst (pc := 8) (v := -1) C dX9_lets_8 (by decide) ?_
  exact z_iret (pc := 9) C hr dX9_lets_9 (⟨by simp [zup, z0, zfill], by repeat (first | exact zk0 | refine zKeep.up ?_ (by decide) | refine zKeep.fill ?_ (by decide))⟩)

set_option maxRecDepth 100000 in
set_option maxHeartbeats 4000000 in
theorem p_X9_barred (d : Nat) (a1 a2 : Int32) : ZM (d + 1) yX9_barred cX9_barred 3 (some .int) [zr 0 0, zi a1, zi a2] z0 (fun r g => r = some (zi (-1)) ∧ zKeep g) := by
  refine ZM.intro (by decide +kernel) (Nat.le_of_ble_eq_true rfl) ?_
  intro X C hr hn
  show Z X 0 [some (zr 0 0), some (zi a1), some (zi a2)] [] z0
  refine z_aload_n (pc := 0) C dX9_barred_0 rfl ?_
  refine z_iload_n (pc := 1) C dX9_barred_1 rfl ?_
  refine z_callVx (pc := 2) C zk_X9_153 (p_X9_isPaper _ _) rfl rfl (by decide) rfl rfl (Nat.le_of_ble_eq_true rfl) dX9_barred_2 ?_
  simp only [Option.toList, List.cons_append, List.nil_append]
  refine z_if_eq (pc := 5) 44 C dX9_barred_5 (by decide) (fun h5 => ?_) (fun h5 => absurd (by decide) h5)
  refine z_iconst (pc := 44) (v := -1) C dX9_barred_44 (by decide) ?_
  exact z_iret (pc := 45) C hr dX9_barred_45 (⟨by simp [zup, z0, zfill], by repeat (first | exact zk0 | refine zKeep.up ?_ (by decide) | refine zKeep.fill ?_ (by decide))⟩)

set_option maxRecDepth 100000 in
set_option maxHeartbeats 4000000 in
theorem p_X9_matches (d : Nat) (a1 a2 a3 : Int32) : ZM (d + 1) yX9_matches cX9_matches 5 (some .int) [zr 0 0, zi a1, zi a2, zi a3] z0 (fun r g => r = some (zi (-1)) ∧ zKeep g) := by
  refine ZM.intro (by decide +kernel) (Nat.le_of_ble_eq_true rfl) ?_
  intro X C hr hn
  show Z X 0 [some (zr 0 0), some (zi a1), some (zi a2), some (zi a3), none] [] z0
  refine z_aload_n (pc := 0) C dX9_matches_0 rfl ?_
  refine z_iload_n (pc := 1) C dX9_matches_1 rfl ?_
  refine z_callVx (pc := 2) C zk_X9_179 (p_X9_isDeed _ _) rfl rfl (by decide) rfl rfl (Nat.le_of_ble_eq_true rfl) dX9_matches_2 ?_
  simp only [Option.toList, List.cons_append, List.nil_append]
  refine z_if_eq (pc := 5) 24 C dX9_matches_5 (by decide) (fun h5 => ?_) (fun h5 => absurd (by decide) h5)
  refine z_iconst (pc := 24) (v := -1) C dX9_matches_24 (by decide) ?_
  exact z_iret (pc := 25) C hr dX9_matches_25 (⟨by simp [zup, z0, zfill], by repeat (first | exact zk0 | refine zKeep.up ?_ (by decide) | refine zKeep.fill ?_ (by decide))⟩)

set_option maxRecDepth 100000 in
set_option maxHeartbeats 4000000 in
theorem p_X9_yearsOf (d : Nat) (a1 a2 a3 : Int32) : ZM (d + 1) yX9_yearsOf cX9_yearsOf 5 (some .int) [zr 0 0, zi a1, zi a2, zi a3] z0 (fun r g => r = some (zi (-1)) ∧ zKeep g) := by
  refine ZM.intro (by decide +kernel) (Nat.le_of_ble_eq_true rfl) ?_
  intro X C hr hn
  show Z X 0 [some (zr 0 0), some (zi a1), some (zi a2), some (zi a3), none] [] z0
  refine z_aload_n (pc := 0) C dX9_yearsOf_0 rfl ?_
  refine z_iload_n (pc := 1) C dX9_yearsOf_1 rfl ?_
  refine z_callVx (pc := 2) C zk_X9_179 (p_X9_isDeed _ _) rfl rfl (by decide) rfl rfl (Nat.le_of_ble_eq_true rfl) dX9_yearsOf_2 ?_
  simp only [Option.toList, List.cons_append, List.nil_append]
  refine z_if_eq (pc := 5) 24 C dX9_yearsOf_5 (by decide) (fun h5 => ?_) (fun h5 => absurd (by decide) h5)
  refine z_iconst (pc := 24) (v := -1) C dX9_yearsOf_24 (by decide) ?_
  exact z_iret (pc := 25) C hr dX9_yearsOf_25 (⟨by simp [zup, z0, zfill], by repeat (first | exact zk0 | refine zKeep.up ?_ (by decide) | refine zKeep.fill ?_ (by decide))⟩)

set_option maxRecDepth 100000 in
set_option maxHeartbeats 4000000 in
theorem p_X9_shows (d : Nat) (a1 a2 a3 a4 : Int32) : ZM (d + 1) yX9_shows cX9_shows 8 (some .int) [zr 0 0, zi a1, zi a2, zi a3, zi a4] z0 (fun r g => r = some (zi (-1)) ∧ zKeep g) := by
  refine ZM.intro (by decide +kernel) (Nat.le_of_ble_eq_true rfl) ?_
  intro X C hr hn
  show Z X 0 [some (zr 0 0), some (zi a1), some (zi a2), some (zi a3), some (zi a4), none, none, none] [] z0
  refine z_aload_n (pc := 0) C dX9_shows_0 rfl ?_
  refine z_iload_n (pc := 1) C dX9_shows_1 rfl ?_
  refine z_callVx (pc := 2) C zk_X9_179 (p_X9_isDeed _ _) rfl rfl (by decide) rfl rfl (Nat.le_of_ble_eq_true rfl) dX9_shows_2 ?_
  simp only [Option.toList, List.cons_append, List.nil_append]
  refine z_if_eq (pc := 5) 22 C dX9_shows_5 (by decide) (fun h5 => ?_) (fun h5 => absurd (by decide) h5)
  refine z_iconst (pc := 22) (v := -1) C dX9_shows_22 (by decide) ?_
  exact z_iret (pc := 23) C hr dX9_shows_23 (⟨by simp [zup, z0, zfill], by repeat (first | exact zk0 | refine zKeep.up ?_ (by decide) | refine zKeep.fill ?_ (by decide))⟩)

set_option maxRecDepth 100000 in
set_option maxHeartbeats 4000000 in
theorem p_X9_judged (d : Nat) (a1 a2 : Int32) : ZM (d + 1) yX9_judged cX9_judged 4 (some .int) [zr 0 0, zi a1, zi a2] z0 (fun r g => r = some (zi (-1)) ∧ zKeep g) := by
  refine ZM.intro (by decide +kernel) (Nat.le_of_ble_eq_true rfl) ?_
  intro X C hr hn
  show Z X 0 [some (zr 0 0), some (zi a1), some (zi a2), none] [] z0
  refine z_aload_n (pc := 0) C dX9_judged_0 rfl ?_
  refine z_iload_n (pc := 1) C dX9_judged_1 rfl ?_
  refine z_callVx (pc := 2) C zk_X9_179 (p_X9_isDeed _ _) rfl rfl (by decide) rfl rfl (Nat.le_of_ble_eq_true rfl) dX9_judged_2 ?_
  simp only [Option.toList, List.cons_append, List.nil_append]
  refine z_if_ne (pc := 5) 10 C dX9_judged_5 (by decide) (fun h5 => absurd (by decide) h5) (fun h5 => ?_)
  refine z_iconst (pc := 8) (v := -1) C dX9_judged_8 (by decide) ?_
  exact z_iret (pc := 9) C hr dX9_judged_9 (⟨by simp [zup, z0, zfill], by repeat (first | exact zk0 | refine zKeep.up ?_ (by decide) | refine zKeep.fill ?_ (by decide))⟩)

set_option maxRecDepth 100000 in
set_option maxHeartbeats 4000000 in
theorem p_X9_count (d : Nat) (a1 : Int32) : ZM d yX9_count cX9_count 2 (some .int) [zr 0 0, zi a1] z0 (fun r g => r = some (zi (if 0 ≤ a1.toInt ∧ a1.toInt ≤ 4 then 0 else -1)) ∧ zKeep g) := by
  refine ZM.intro (by decide +kernel) (Nat.le_of_ble_eq_true rfl) ?_
  intro X C hr hn
  show Z X 0 [some (zr 0 0), some (zi a1)] [] z0
  refine z_iload_n (pc := 0) C dX9_count_0 rfl ?_
  by_cases hsw : a1.toInt < 0 ∨ 4 < a1.toInt
  · skip
    refine z_tabOut (pc := 1) 79 C dX9_count_1 hsw (by decide) ?_
    refine z_iconst (pc := 79) (v := -1) C dX9_count_79 (by decide) ?_
    exact z_iret (pc := 80) C hr dX9_count_80 (⟨by first | rfl | (congr 2; rw [if_neg (by omega)]), by repeat (first | exact zk0 | refine zKeep.up ?_ (by decide) | refine zKeep.fill ?_ (by decide))⟩)
  · skip
    rcases (show a1.toInt = 0 ∨ a1.toInt = 1 ∨ a1.toInt = 2 ∨ a1.toInt = 3 ∨ a1.toInt = 4 by omega) with hsv | hsv | hsv | hsv | hsv
    · skip
      obtain rfl : a1 = 0 := (z32eq a1 0).mpr (by rw [hsv]; decide)
      refine z_tabIn (pc := 1) 36 C dX9_count_1 (by decide) (by decide) rfl (by decide) ?_
      refine z_aload_n (pc := 36) C dX9_count_36 rfl ?_
      refine z_getR (pc := 37) C zf_X9_10 rfl rfl (by decide) dX9_count_37 ?_
      refine z_getI (pc := 40) C zf_X9_50 rfl rfl (by decide) dX9_count_40 ?_
      exact z_iret (pc := 43) C hr dX9_count_43 (⟨by first | rfl | (congr 2; rw [if_neg (by omega)]), by repeat (first | exact zk0 | refine zKeep.up ?_ (by decide) | refine zKeep.fill ?_ (by decide))⟩)
    · skip
      obtain rfl : a1 = 1 := (z32eq a1 1).mpr (by rw [hsv]; decide)
      refine z_tabIn (pc := 1) 44 C dX9_count_1 (by decide) (by decide) rfl (by decide) ?_
      refine z_aload_n (pc := 44) C dX9_count_44 rfl ?_
      refine z_getR (pc := 45) C zf_X9_10 rfl rfl (by decide) dX9_count_45 ?_
      refine z_getI (pc := 48) C zf_X9_71 rfl rfl (by decide) dX9_count_48 ?_
      exact z_iret (pc := 51) C hr dX9_count_51 (⟨by first | rfl | (congr 2; rw [if_neg (by omega)]), by repeat (first | exact zk0 | refine zKeep.up ?_ (by decide) | refine zKeep.fill ?_ (by decide))⟩)
    · skip
      obtain rfl : a1 = 2 := (z32eq a1 2).mpr (by rw [hsv]; decide)
      refine z_tabIn (pc := 1) 52 C dX9_count_1 (by decide) (by decide) rfl (by decide) ?_
      refine z_aload_n (pc := 52) C dX9_count_52 rfl ?_
      refine z_getR (pc := 53) C zf_X9_10 rfl rfl (by decide) dX9_count_53 ?_
      refine z_getI (pc := 56) C zf_X9_119 rfl rfl (by decide) dX9_count_56 ?_
      exact z_iret (pc := 59) C hr dX9_count_59 (⟨by first | rfl | (congr 2; rw [if_neg (by omega)]), by repeat (first | exact zk0 | refine zKeep.up ?_ (by decide) | refine zKeep.fill ?_ (by decide))⟩)
    · skip
      obtain rfl : a1 = 3 := (z32eq a1 3).mpr (by rw [hsv]; decide)
      refine z_tabIn (pc := 1) 60 C dX9_count_1 (by decide) (by decide) rfl (by decide) ?_
      refine z_aload_n (pc := 60) C dX9_count_60 rfl ?_
      refine z_getR (pc := 61) C zf_X9_10 rfl rfl (by decide) dX9_count_61 ?_
      refine z_getI (pc := 64) C zf_X9_217 rfl rfl (by decide) dX9_count_64 ?_
      exact z_iret (pc := 67) C hr dX9_count_67 (⟨by first | rfl | (congr 2; rw [if_neg (by omega)]), by repeat (first | exact zk0 | refine zKeep.up ?_ (by decide) | refine zKeep.fill ?_ (by decide))⟩)
    · skip
      obtain rfl : a1 = 4 := (z32eq a1 4).mpr (by rw [hsv]; decide)
      refine z_tabIn (pc := 1) 68 C dX9_count_1 (by decide) (by decide) rfl (by decide) ?_
      refine z_aload_n (pc := 68) C dX9_count_68 rfl ?_
      refine z_getR (pc := 69) C zf_X9_10 rfl rfl (by decide) dX9_count_69 ?_
      refine z_getR (pc := 72) C zf_X9_220 rfl rfl (by decide) dX9_count_72 ?_
      refine z_getI (pc := 75) C zf_X9_224 rfl rfl (by decide) dX9_count_75 ?_
      exact z_iret (pc := 78) C hr dX9_count_78 (⟨by first | rfl | (congr 2; rw [if_neg (by omega)]), by repeat (first | exact zk0 | refine zKeep.up ?_ (by decide) | refine zKeep.fill ?_ (by decide))⟩)

set_option maxRecDepth 100000 in
set_option maxHeartbeats 4000000 in
theorem p_X9_man (d : Nat) (a1 a2 : Int32) : ZM (d + 1) yX9_man cX9_man 4 (some .int) [zr 0 0, zi a1, zi a2] z0 (fun r g => r = some (zi (if (a1.toInt = 0 ∧ 0 ≤ a2.toInt ∧ a2.toInt ≤ 5) ∨ (a1.toInt = 1 ∧ 0 ≤ a2.toInt ∧ a2.toInt ≤ 5) ∨ (a1.toInt = 2 ∧ 0 ≤ a2.toInt ∧ a2.toInt ≤ 99) then 0 else -1)) ∧ zKeep g) := by
  refine ZM.intro (by decide +kernel) (Nat.le_of_ble_eq_true rfl) ?_
  intro X C hr hn
  show Z X 0 [some (zr 0 0), some (zi a1), some (zi a2), none] [] z0
  refine z_iload_n (pc := 0) C dX9_man_0 rfl ?_
  refine z_if_ne (pc := 1) 36 C dX9_man_1 (by decide) (fun h1 => ?_) (fun h1 => ?_)
  · skip
    refine z_iload_n (pc := 36) C dX9_man_36 rfl ?_
    refine z_iconst (pc := 37) (v := 1) C dX9_man_37 (by decide) ?_
    refine z_icmp_ne (pc := 38) 73 C dX9_man_38 (by decide) (fun h38 => ?_) (fun h38 => ?_)
    · skip
      refine z_iload_n (pc := 73) C dX9_man_73 rfl ?_
      refine z_iconst (pc := 74) (v := 2) C dX9_man_74 (by decide) ?_
      refine z_icmp_ne (pc := 75) 110 C dX9_man_75 (by decide) (fun h75 => ?_) (fun h75 => ?_)
      · skip
        refine z_iconst (pc := 110) (v := -1) C dX9_man_110 (by decide) ?_
        refine z_istore_n (pc := 111) C dX9_man_111 (by rw [hn]; decide) rfl ?_
        refine z_iload_n (pc := 112) C dX9_man_112 rfl ?_
        exact z_iret (pc := 113) C hr dX9_man_113 (⟨by congr 2; first | (rw [if_neg (by simp only [z32lt, z32le, z32eq, Int32.reduceToInt, Int32.toInt_zero, Int32.toInt_one] at *; omega)]; done) | (rw [if_pos (by simp only [z32lt, z32le, z32eq, Int32.reduceToInt, Int32.toInt_zero, Int32.toInt_one] at *; omega)] <;> simp [zup, z0, zfill]), by repeat (first | exact zk0 | refine zKeep.up ?_ (by decide) | refine zKeep.fill ?_ (by decide))⟩)
      · skip
        refine z_iload_n (pc := 78) C dX9_man_78 rfl ?_
        refine z_callSb (pc := 79) C zk_X9_68 (m_X9_isYear _ _ _) rfl rfl (Nat.le_of_ble_eq_true rfl) dX9_man_79 (fun h79 => ?_) (fun h79 => ?_)
        · skip
          refine z_if_eq (pc := 82) 110 C dX9_man_82 (by decide) (fun h82 => absurd h82 (by decide)) (fun h82 => ?_)
          refine z_aload_n (pc := 85) C dX9_man_85 rfl ?_
          refine z_getR (pc := 86) C zf_X9_10 rfl rfl (by decide) dX9_man_86 ?_
          refine z_getR (pc := 89) C zf_X9_220 rfl rfl (by decide) dX9_man_89 ?_
          refine z_getI (pc := 92) C zf_X9_238 rfl rfl (by decide) dX9_man_92 ?_
          refine z_istore_n (pc := 95) C dX9_man_95 (by rw [hn]; decide) rfl ?_
          refine z_aload_n (pc := 96) C dX9_man_96 rfl ?_
          refine z_getR (pc := 97) C zf_X9_10 rfl rfl (by decide) dX9_man_97 ?_
          refine z_getR (pc := 100) C zf_X9_220 rfl rfl (by decide) dX9_man_100 ?_
          refine z_iload_n (pc := 103) C dX9_man_103 rfl ?_
          refine z_putI (pc := 104) C zf_X9_238 zp_3_2 rfl rfl (by decide) dX9_man_104 ?_
          refine z_goto (pc := 107) 112 C dX9_man_107 (by decide) ?_
          refine z_iload_n (pc := 112) C dX9_man_112 rfl ?_
          exact z_iret (pc := 113) C hr dX9_man_113 (⟨by congr 2; first | (rw [if_neg (by simp only [z32lt, z32le, z32eq, Int32.reduceToInt, Int32.toInt_zero, Int32.toInt_one] at *; omega)]; done) | (rw [if_pos (by simp only [z32lt, z32le, z32eq, Int32.reduceToInt, Int32.toInt_zero, Int32.toInt_one] at *; omega)] <;> simp [zup, z0, zfill]), by repeat (first | exact zk0 | refine zKeep.up ?_ (by decide) | refine zKeep.fill ?_ (by decide))⟩)
        · skip
          refine z_if_eq (pc := 82) 110 C dX9_man_82 (by decide) (fun h82 => ?_) (fun h82 => absurd (by decide) h82)
          refine z_iconst (pc := 110) (v := -1) C dX9_man_110 (by decide) ?_
          refine z_istore_n (pc := 111) C dX9_man_111 (by rw [hn]; decide) rfl ?_
          refine z_iload_n (pc := 112) C dX9_man_112 rfl ?_
          exact z_iret (pc := 113) C hr dX9_man_113 (⟨by congr 2; first | (rw [if_neg (by simp only [z32lt, z32le, z32eq, Int32.reduceToInt, Int32.toInt_zero, Int32.toInt_one] at *; omega)]; done) | (rw [if_pos (by simp only [z32lt, z32le, z32eq, Int32.reduceToInt, Int32.toInt_zero, Int32.toInt_one] at *; omega)] <;> simp [zup, z0, zfill]), by repeat (first | exact zk0 | refine zKeep.up ?_ (by decide) | refine zKeep.fill ?_ (by decide))⟩)
    · skip
      refine z_iload_n (pc := 41) C dX9_man_41 rfl ?_
      refine z_callSb (pc := 42) C zk_X9_46 (m_X9_isLand _ _ _) rfl rfl (Nat.le_of_ble_eq_true rfl) dX9_man_42 (fun h42 => ?_) (fun h42 => ?_)
      · skip
        refine z_if_eq (pc := 45) 73 C dX9_man_45 (by decide) (fun h45 => absurd h45 (by decide)) (fun h45 => ?_)
        refine z_aload_n (pc := 48) C dX9_man_48 rfl ?_
        refine z_getR (pc := 49) C zf_X9_10 rfl rfl (by decide) dX9_man_49 ?_
        refine z_getR (pc := 52) C zf_X9_220 rfl rfl (by decide) dX9_man_52 ?_
        refine z_getI (pc := 55) C zf_X9_232 rfl rfl (by decide) dX9_man_55 ?_
        refine z_istore_n (pc := 58) C dX9_man_58 (by rw [hn]; decide) rfl ?_
        refine z_aload_n (pc := 59) C dX9_man_59 rfl ?_
        refine z_getR (pc := 60) C zf_X9_10 rfl rfl (by decide) dX9_man_60 ?_
        refine z_getR (pc := 63) C zf_X9_220 rfl rfl (by decide) dX9_man_63 ?_
        refine z_iload_n (pc := 66) C dX9_man_66 rfl ?_
        refine z_callVx (pc := 67) C zk_X9_235 (m_X3_sit _ _ _ (by decide) _) rfl rfl (by decide) rfl rfl (Nat.le_of_ble_eq_true rfl) dX9_man_67 ?_
        simp only [Option.toList, List.cons_append, List.nil_append]
        refine z_goto (pc := 70) 112 C dX9_man_70 (by decide) ?_
        refine z_iload_n (pc := 112) C dX9_man_112 rfl ?_
        exact z_iret (pc := 113) C hr dX9_man_113 (⟨by congr 2; first | (rw [if_neg (by simp only [z32lt, z32le, z32eq, Int32.reduceToInt, Int32.toInt_zero, Int32.toInt_one] at *; omega)]; done) | (rw [if_pos (by simp only [z32lt, z32le, z32eq, Int32.reduceToInt, Int32.toInt_zero, Int32.toInt_one] at *; omega)] <;> simp [zup, z0, zfill]), by repeat (first | exact zk0 | refine zKeep.up ?_ (by decide) | refine zKeep.fill ?_ (by decide))⟩)
      · skip
        refine z_if_eq (pc := 45) 73 C dX9_man_45 (by decide) (fun h45 => ?_) (fun h45 => absurd (by decide) h45)
        refine z_iload_n (pc := 73) C dX9_man_73 rfl ?_
        refine z_iconst (pc := 74) (v := 2) C dX9_man_74 (by decide) ?_
        refine z_icmp_ne (pc := 75) 110 C dX9_man_75 (by decide) (fun h75 => ?_) (fun h75 => ?_)
        · skip
          refine z_iconst (pc := 110) (v := -1) C dX9_man_110 (by decide) ?_
          refine z_istore_n (pc := 111) C dX9_man_111 (by rw [hn]; decide) rfl ?_
          refine z_iload_n (pc := 112) C dX9_man_112 rfl ?_
          exact z_iret (pc := 113) C hr dX9_man_113 (⟨by congr 2; first | (rw [if_neg (by simp only [z32lt, z32le, z32eq, Int32.reduceToInt, Int32.toInt_zero, Int32.toInt_one] at *; omega)]; done) | (rw [if_pos (by simp only [z32lt, z32le, z32eq, Int32.reduceToInt, Int32.toInt_zero, Int32.toInt_one] at *; omega)] <;> simp [zup, z0, zfill]), by repeat (first | exact zk0 | refine zKeep.up ?_ (by decide) | refine zKeep.fill ?_ (by decide))⟩)
        · skip
          refine z_iload_n (pc := 78) C dX9_man_78 rfl ?_
          refine z_callSb (pc := 79) C zk_X9_68 (m_X9_isYear _ _ _) rfl rfl (Nat.le_of_ble_eq_true rfl) dX9_man_79 (fun h79 => ?_) (fun h79 => ?_)
          · skip
            refine z_if_eq (pc := 82) 110 C dX9_man_82 (by decide) (fun h82 => absurd h82 (by decide)) (fun h82 => ?_)
            refine z_aload_n (pc := 85) C dX9_man_85 rfl ?_
            refine z_getR (pc := 86) C zf_X9_10 rfl rfl (by decide) dX9_man_86 ?_
            refine z_getR (pc := 89) C zf_X9_220 rfl rfl (by decide) dX9_man_89 ?_
            refine z_getI (pc := 92) C zf_X9_238 rfl rfl (by decide) dX9_man_92 ?_
            refine z_istore_n (pc := 95) C dX9_man_95 (by rw [hn]; decide) rfl ?_
            refine z_aload_n (pc := 96) C dX9_man_96 rfl ?_
            refine z_getR (pc := 97) C zf_X9_10 rfl rfl (by decide) dX9_man_97 ?_
            refine z_getR (pc := 100) C zf_X9_220 rfl rfl (by decide) dX9_man_100 ?_
            refine z_iload_n (pc := 103) C dX9_man_103 rfl ?_
            refine z_putI (pc := 104) C zf_X9_238 zp_3_2 rfl rfl (by decide) dX9_man_104 ?_
            refine z_goto (pc := 107) 112 C dX9_man_107 (by decide) ?_
            refine z_iload_n (pc := 112) C dX9_man_112 rfl ?_
            exact z_iret (pc := 113) C hr dX9_man_113 (⟨by congr 2; first | (rw [if_neg (by simp only [z32lt, z32le, z32eq, Int32.reduceToInt, Int32.toInt_zero, Int32.toInt_one] at *; omega)]; done) | (rw [if_pos (by simp only [z32lt, z32le, z32eq, Int32.reduceToInt, Int32.toInt_zero, Int32.toInt_one] at *; omega)] <;> simp [zup, z0, zfill]), by repeat (first | exact zk0 | refine zKeep.up ?_ (by decide) | refine zKeep.fill ?_ (by decide))⟩)
          · skip
            refine z_if_eq (pc := 82) 110 C dX9_man_82 (by decide) (fun h82 => ?_) (fun h82 => absurd (by decide) h82)
            refine z_iconst (pc := 110) (v := -1) C dX9_man_110 (by decide) ?_
            refine z_istore_n (pc := 111) C dX9_man_111 (by rw [hn]; decide) rfl ?_
            refine z_iload_n (pc := 112) C dX9_man_112 rfl ?_
            exact z_iret (pc := 113) C hr dX9_man_113 (⟨by congr 2; first | (rw [if_neg (by simp only [z32lt, z32le, z32eq, Int32.reduceToInt, Int32.toInt_zero, Int32.toInt_one] at *; omega)]; done) | (rw [if_pos (by simp only [z32lt, z32le, z32eq, Int32.reduceToInt, Int32.toInt_zero, Int32.toInt_one] at *; omega)] <;> simp [zup, z0, zfill]), by repeat (first | exact zk0 | refine zKeep.up ?_ (by decide) | refine zKeep.fill ?_ (by decide))⟩)
  · skip
    refine z_iload_n (pc := 4) C dX9_man_4 rfl ?_
    refine z_callSb (pc := 5) C zk_X9_46 (m_X9_isLand _ _ _) rfl rfl (Nat.le_of_ble_eq_true rfl) dX9_man_5 (fun h5 => ?_) (fun h5 => ?_)
    · skip
      refine z_if_eq (pc := 8) 36 C dX9_man_8 (by decide) (fun h8 => absurd h8 (by decide)) (fun h8 => ?_)
      refine z_aload_n (pc := 11) C dX9_man_11 rfl ?_
      refine z_getR (pc := 12) C zf_X9_10 rfl rfl (by decide) dX9_man_12 ?_
      refine z_getR (pc := 15) C zf_X9_220 rfl rfl (by decide) dX9_man_15 ?_
      refine z_getI (pc := 18) C zf_X9_229 rfl rfl (by decide) dX9_man_18 ?_
      refine z_istore_n (pc := 21) C dX9_man_21 (by rw [hn]; decide) rfl ?_
      refine z_aload_n (pc := 22) C dX9_man_22 rfl ?_
      refine z_getR (pc := 23) C zf_X9_10 rfl rfl (by decide) dX9_man_23 ?_
      refine z_getR (pc := 26) C zf_X9_220 rfl rfl (by decide) dX9_man_26 ?_
      refine z_iload_n (pc := 29) C dX9_man_29 rfl ?_
      refine z_putI (pc := 30) C zf_X9_229 zp_3_0 rfl rfl (by decide) dX9_man_30 ?_
      refine z_goto (pc := 33) 112 C dX9_man_33 (by decide) ?_
      refine z_iload_n (pc := 112) C dX9_man_112 rfl ?_
      exact z_iret (pc := 113) C hr dX9_man_113 (⟨by congr 2; first | (rw [if_neg (by simp only [z32lt, z32le, z32eq, Int32.reduceToInt, Int32.toInt_zero, Int32.toInt_one] at *; omega)]; done) | (rw [if_pos (by simp only [z32lt, z32le, z32eq, Int32.reduceToInt, Int32.toInt_zero, Int32.toInt_one] at *; omega)] <;> simp [zup, z0, zfill]), by repeat (first | exact zk0 | refine zKeep.up ?_ (by decide) | refine zKeep.fill ?_ (by decide))⟩)
    · skip
      refine z_if_eq (pc := 8) 36 C dX9_man_8 (by decide) (fun h8 => ?_) (fun h8 => absurd (by decide) h8)
      refine z_iload_n (pc := 36) C dX9_man_36 rfl ?_
      refine z_iconst (pc := 37) (v := 1) C dX9_man_37 (by decide) ?_
      refine z_icmp_ne (pc := 38) 73 C dX9_man_38 (by decide) (fun h38 => ?_) (fun h38 => ?_)
      · skip
        refine z_iload_n (pc := 73) C dX9_man_73 rfl ?_
        refine z_iconst (pc := 74) (v := 2) C dX9_man_74 (by decide) ?_
        refine z_icmp_ne (pc := 75) 110 C dX9_man_75 (by decide) (fun h75 => ?_) (fun h75 => ?_)
        · skip
          refine z_iconst (pc := 110) (v := -1) C dX9_man_110 (by decide) ?_
          refine z_istore_n (pc := 111) C dX9_man_111 (by rw [hn]; decide) rfl ?_
          refine z_iload_n (pc := 112) C dX9_man_112 rfl ?_
          exact z_iret (pc := 113) C hr dX9_man_113 (⟨by congr 2; first | (rw [if_neg (by simp only [z32lt, z32le, z32eq, Int32.reduceToInt, Int32.toInt_zero, Int32.toInt_one] at *; omega)]; done) | (rw [if_pos (by simp only [z32lt, z32le, z32eq, Int32.reduceToInt, Int32.toInt_zero, Int32.toInt_one] at *; omega)] <;> simp [zup, z0, zfill]), by repeat (first | exact zk0 | refine zKeep.up ?_ (by decide) | refine zKeep.fill ?_ (by decide))⟩)
        · skip
          refine z_iload_n (pc := 78) C dX9_man_78 rfl ?_
          refine z_callSb (pc := 79) C zk_X9_68 (m_X9_isYear _ _ _) rfl rfl (Nat.le_of_ble_eq_true rfl) dX9_man_79 (fun h79 => ?_) (fun h79 => ?_)
          · skip
            refine z_if_eq (pc := 82) 110 C dX9_man_82 (by decide) (fun h82 => absurd h82 (by decide)) (fun h82 => ?_)
            refine z_aload_n (pc := 85) C dX9_man_85 rfl ?_
            refine z_getR (pc := 86) C zf_X9_10 rfl rfl (by decide) dX9_man_86 ?_
            refine z_getR (pc := 89) C zf_X9_220 rfl rfl (by decide) dX9_man_89 ?_
            refine z_getI (pc := 92) C zf_X9_238 rfl rfl (by decide) dX9_man_92 ?_
            refine z_istore_n (pc := 95) C dX9_man_95 (by rw [hn]; decide) rfl ?_
            refine z_aload_n (pc := 96) C dX9_man_96 rfl ?_
            refine z_getR (pc := 97) C zf_X9_10 rfl rfl (by decide) dX9_man_97 ?_
            refine z_getR (pc := 100) C zf_X9_220 rfl rfl (by decide) dX9_man_100 ?_
            refine z_iload_n (pc := 103) C dX9_man_103 rfl ?_
            refine z_putI (pc := 104) C zf_X9_238 zp_3_2 rfl rfl (by decide) dX9_man_104 ?_
            refine z_goto (pc := 107) 112 C dX9_man_107 (by decide) ?_
            refine z_iload_n (pc := 112) C dX9_man_112 rfl ?_
            exact z_iret (pc := 113) C hr dX9_man_113 (⟨by congr 2; first | (rw [if_neg (by simp only [z32lt, z32le, z32eq, Int32.reduceToInt, Int32.toInt_zero, Int32.toInt_one] at *; omega)]; done) | (rw [if_pos (by simp only [z32lt, z32le, z32eq, Int32.reduceToInt, Int32.toInt_zero, Int32.toInt_one] at *; omega)] <;> simp [zup, z0, zfill]), by repeat (first | exact zk0 | refine zKeep.up ?_ (by decide) | refine zKeep.fill ?_ (by decide))⟩)
          · skip
            refine z_if_eq (pc := 82) 110 C dX9_man_82 (by decide) (fun h82 => ?_) (fun h82 => absurd (by decide) h82)
            refine z_iconst (pc := 110) (v := -1) C dX9_man_110 (by decide) ?_
            refine z_istore_n (pc := 111) C dX9_man_111 (by rw [hn]; decide) rfl ?_
            refine z_iload_n (pc := 112) C dX9_man_112 rfl ?_
            exact z_iret (pc := 113) C hr dX9_man_113 (⟨by congr 2; first | (rw [if_neg (by simp only [z32lt, z32le, z32eq, Int32.reduceToInt, Int32.toInt_zero, Int32.toInt_one] at *; omega)]; done) | (rw [if_pos (by simp only [z32lt, z32le, z32eq, Int32.reduceToInt, Int32.toInt_zero, Int32.toInt_one] at *; omega)] <;> simp [zup, z0, zfill]), by repeat (first | exact zk0 | refine zKeep.up ?_ (by decide) | refine zKeep.fill ?_ (by decide))⟩)
      · skip
        refine z_iload_n (pc := 41) C dX9_man_41 rfl ?_
        refine z_callSb (pc := 42) C zk_X9_46 (m_X9_isLand _ _ _) rfl rfl (Nat.le_of_ble_eq_true rfl) dX9_man_42 (fun h42 => ?_) (fun h42 => ?_)
        · skip
          refine z_if_eq (pc := 45) 73 C dX9_man_45 (by decide) (fun h45 => absurd h45 (by decide)) (fun h45 => ?_)
          refine z_aload_n (pc := 48) C dX9_man_48 rfl ?_
          refine z_getR (pc := 49) C zf_X9_10 rfl rfl (by decide) dX9_man_49 ?_
          refine z_getR (pc := 52) C zf_X9_220 rfl rfl (by decide) dX9_man_52 ?_
          refine z_getI (pc := 55) C zf_X9_232 rfl rfl (by decide) dX9_man_55 ?_
          refine z_istore_n (pc := 58) C dX9_man_58 (by rw [hn]; decide) rfl ?_
          refine z_aload_n (pc := 59) C dX9_man_59 rfl ?_
          refine z_getR (pc := 60) C zf_X9_10 rfl rfl (by decide) dX9_man_60 ?_
          refine z_getR (pc := 63) C zf_X9_220 rfl rfl (by decide) dX9_man_63 ?_
          refine z_iload_n (pc := 66) C dX9_man_66 rfl ?_
          refine z_callVx (pc := 67) C zk_X9_235 (m_X3_sit _ _ _ (by decide) _) rfl rfl (by decide) rfl rfl (Nat.le_of_ble_eq_true rfl) dX9_man_67 ?_
          simp only [Option.toList, List.cons_append, List.nil_append]
          refine z_goto (pc := 70) 112 C dX9_man_70 (by decide) ?_
          refine z_iload_n (pc := 112) C dX9_man_112 rfl ?_
          exact z_iret (pc := 113) C hr dX9_man_113 (⟨by congr 2; first | (rw [if_neg (by simp only [z32lt, z32le, z32eq, Int32.reduceToInt, Int32.toInt_zero, Int32.toInt_one] at *; omega)]; done) | (rw [if_pos (by simp only [z32lt, z32le, z32eq, Int32.reduceToInt, Int32.toInt_zero, Int32.toInt_one] at *; omega)] <;> simp [zup, z0, zfill]), by repeat (first | exact zk0 | refine zKeep.up ?_ (by decide) | refine zKeep.fill ?_ (by decide))⟩)
        · skip
          refine z_if_eq (pc := 45) 73 C dX9_man_45 (by decide) (fun h45 => ?_) (fun h45 => absurd (by decide) h45)
          refine z_iload_n (pc := 73) C dX9_man_73 rfl ?_
          refine z_iconst (pc := 74) (v := 2) C dX9_man_74 (by decide) ?_
          refine z_icmp_ne (pc := 75) 110 C dX9_man_75 (by decide) (fun h75 => ?_) (fun h75 => ?_)
          · skip
            refine z_iconst (pc := 110) (v := -1) C dX9_man_110 (by decide) ?_
            refine z_istore_n (pc := 111) C dX9_man_111 (by rw [hn]; decide) rfl ?_
            refine z_iload_n (pc := 112) C dX9_man_112 rfl ?_
            exact z_iret (pc := 113) C hr dX9_man_113 (⟨by congr 2; first | (rw [if_neg (by simp only [z32lt, z32le, z32eq, Int32.reduceToInt, Int32.toInt_zero, Int32.toInt_one] at *; omega)]; done) | (rw [if_pos (by simp only [z32lt, z32le, z32eq, Int32.reduceToInt, Int32.toInt_zero, Int32.toInt_one] at *; omega)] <;> simp [zup, z0, zfill]), by repeat (first | exact zk0 | refine zKeep.up ?_ (by decide) | refine zKeep.fill ?_ (by decide))⟩)
          · skip
            refine z_iload_n (pc := 78) C dX9_man_78 rfl ?_
            refine z_callSb (pc := 79) C zk_X9_68 (m_X9_isYear _ _ _) rfl rfl (Nat.le_of_ble_eq_true rfl) dX9_man_79 (fun h79 => ?_) (fun h79 => ?_)
            · skip
              refine z_if_eq (pc := 82) 110 C dX9_man_82 (by decide) (fun h82 => absurd h82 (by decide)) (fun h82 => ?_)
              refine z_aload_n (pc := 85) C dX9_man_85 rfl ?_
              refine z_getR (pc := 86) C zf_X9_10 rfl rfl (by decide) dX9_man_86 ?_
              refine z_getR (pc := 89) C zf_X9_220 rfl rfl (by decide) dX9_man_89 ?_
              refine z_getI (pc := 92) C zf_X9_238 rfl rfl (by decide) dX9_man_92 ?_
              refine z_istore_n (pc := 95) C dX9_man_95 (by rw [hn]; decide) rfl ?_
              refine z_aload_n (pc := 96) C dX9_man_96 rfl ?_
              refine z_getR (pc := 97) C zf_X9_10 rfl rfl (by decide) dX9_man_97 ?_
              refine z_getR (pc := 100) C zf_X9_220 rfl rfl (by decide) dX9_man_100 ?_
              refine z_iload_n (pc := 103) C dX9_man_103 rfl ?_
              refine z_putI (pc := 104) C zf_X9_238 zp_3_2 rfl rfl (by decide) dX9_man_104 ?_
              refine z_goto (pc := 107) 112 C dX9_man_107 (by decide) ?_
              refine z_iload_n (pc := 112) C dX9_man_112 rfl ?_
              exact z_iret (pc := 113) C hr dX9_man_113 (⟨by congr 2; first | (rw [if_neg (by simp only [z32lt, z32le, z32eq, Int32.reduceToInt, Int32.toInt_zero, Int32.toInt_one] at *; omega)]; done) | (rw [if_pos (by simp only [z32lt, z32le, z32eq, Int32.reduceToInt, Int32.toInt_zero, Int32.toInt_one] at *; omega)] <;> simp [zup, z0, zfill]), by repeat (first | exact zk0 | refine zKeep.up ?_ (by decide) | refine zKeep.fill ?_ (by decide))⟩)
            · skip
              refine z_if_eq (pc := 82) 110 C dX9_man_82 (by decide) (fun h82 => ?_) (fun h82 => absurd (by decide) h82)
              refine z_iconst (pc := 110) (v := -1) C dX9_man_110 (by decide) ?_
              refine z_istore_n (pc := 111) C dX9_man_111 (by rw [hn]; decide) rfl ?_
              refine z_iload_n (pc := 112) C dX9_man_112 rfl ?_
              exact z_iret (pc := 113) C hr dX9_man_113 (⟨by congr 2; first | (rw [if_neg (by simp only [z32lt, z32le, z32eq, Int32.reduceToInt, Int32.toInt_zero, Int32.toInt_one] at *; omega)]; done) | (rw [if_pos (by simp only [z32lt, z32le, z32eq, Int32.reduceToInt, Int32.toInt_zero, Int32.toInt_one] at *; omega)] <;> simp [zup, z0, zfill]), by repeat (first | exact zk0 | refine zKeep.up ?_ (by decide) | refine zKeep.fill ?_ (by decide))⟩)

set_option maxRecDepth 100000 in
set_option maxHeartbeats 4000000 in
theorem p_X9_bound (d : Nat) (a1 : Int32) : ZM (d + 1) yX9_bound cX9_bound 2 (some .int) [zr 0 0, zi a1] z0 (fun r g => r = some (zi (if a1.toInt = 0 then 0 else if a1.toInt = 1 then -4 else if a1.toInt = 2 then 0 else if a1.toInt = 3 then 0 else -1)) ∧ zKeep g) := by
  refine ZM.intro (by decide +kernel) (Nat.le_of_ble_eq_true rfl) ?_
  intro X C hr hn
  show Z X 0 [some (zr 0 0), some (zi a1)] [] z0
  refine z_iload_n (pc := 0) C dX9_bound_0 rfl ?_
  by_cases hsw : a1.toInt < 0 ∨ 3 < a1.toInt
  · skip
    refine z_tabOut (pc := 1) 92 C dX9_bound_1 hsw (by decide) ?_
    refine z_iconst (pc := 92) (v := -1) C dX9_bound_92 (by decide) ?_
    exact z_iret (pc := 93) C hr dX9_bound_93 (⟨by first | rfl | (congr 2; rw [if_neg (by omega), if_neg (by omega), if_neg (by omega), if_neg (by omega)]), by repeat (first | exact zk0 | refine zKeep.up ?_ (by decide) | refine zKeep.fill ?_ (by decide))⟩)
  · skip
    rcases (show a1.toInt = 0 ∨ a1.toInt = 1 ∨ a1.toInt = 2 ∨ a1.toInt = 3 by omega) with hsv | hsv | hsv | hsv
    · skip
      obtain rfl : a1 = 0 := (z32eq a1 0).mpr (by rw [hsv]; decide)
      refine z_tabIn (pc := 1) 32 C dX9_bound_1 (by decide) (by decide) rfl (by decide) ?_
      refine z_aload_n (pc := 32) C dX9_bound_32 rfl ?_
      refine z_getR (pc := 33) C zf_X9_10 rfl rfl (by decide) dX9_bound_33 ?_
      refine z_getR (pc := 36) C zf_X9_220 rfl rfl (by decide) dX9_bound_36 ?_
      refine z_getI (pc := 39) C zf_X9_244 rfl rfl (by decide) dX9_bound_39 ?_
      refine z_if_eq (pc := 42) 49 C dX9_bound_42 (by decide) (fun h42 => ?_) (fun h42 => absurd (by decide) h42)
      refine z_iconst (pc := 49) (v := 0) C dX9_bound_49 (by decide) ?_
      exact z_iret (pc := 50) C hr dX9_bound_50 (⟨by first | rfl | (congr 2; rw [if_neg (by omega), if_neg (by omega), if_neg (by omega), if_neg (by omega)]), by repeat (first | exact zk0 | refine zKeep.up ?_ (by decide) | refine zKeep.fill ?_ (by decide))⟩)
    · skip
      obtain rfl : a1 = 1 := (z32eq a1 1).mpr (by rw [hsv]; decide)
      refine z_tabIn (pc := 1) 51 C dX9_bound_1 (by decide) (by decide) rfl (by decide) ?_
      refine z_aload_n (pc := 51) C dX9_bound_51 rfl ?_
      refine z_getR (pc := 52) C zf_X9_10 rfl rfl (by decide) dX9_bound_52 ?_
      refine z_getR (pc := 55) C zf_X9_220 rfl rfl (by decide) dX9_bound_55 ?_
      refine z_getI (pc := 58) C zf_X9_247 rfl rfl (by decide) dX9_bound_58 ?_
      exact z_iret (pc := 61) C hr dX9_bound_61 (⟨by first | rfl | (congr 2; rw [if_neg (by omega), if_neg (by omega), if_neg (by omega), if_neg (by omega)]), by repeat (first | exact zk0 | refine zKeep.up ?_ (by decide) | refine zKeep.fill ?_ (by decide))⟩)
    · skip
      obtain rfl : a1 = 2 := (z32eq a1 2).mpr (by rw [hsv]; decide)
      refine z_tabIn (pc := 1) 62 C dX9_bound_1 (by decide) (by decide) rfl (by decide) ?_
      refine z_aload_n (pc := 62) C dX9_bound_62 rfl ?_
      refine z_getR (pc := 63) C zf_X9_10 rfl rfl (by decide) dX9_bound_63 ?_
      refine z_getR (pc := 66) C zf_X9_220 rfl rfl (by decide) dX9_bound_66 ?_
      refine z_getI (pc := 69) C zf_X9_250 rfl rfl (by decide) dX9_bound_69 ?_
      refine z_aload_n (pc := 72) C dX9_bound_72 rfl ?_
      refine z_getR (pc := 73) C zf_X9_10 rfl rfl (by decide) dX9_bound_73 ?_
      refine z_callVx (pc := 76) C zk_X9_252 (m_X8_allDeeds _ _ 0 (by decide)) rfl rfl (by decide) rfl rfl (Nat.le_of_ble_eq_true rfl) dX9_bound_76 ?_
      simp only [Option.toList, List.cons_append, List.nil_append]
      refine z_iand (pc := 79) C dX9_bound_79 ?_
      exact z_iret (pc := 80) C hr dX9_bound_80 (⟨by first | rfl | (congr 2; rw [if_neg (by omega), if_neg (by omega), if_neg (by omega), if_neg (by omega)]), by repeat (first | exact zk0 | refine zKeep.up ?_ (by decide) | refine zKeep.fill ?_ (by decide))⟩)
    · skip
      obtain rfl : a1 = 3 := (z32eq a1 3).mpr (by rw [hsv]; decide)
      refine z_tabIn (pc := 1) 81 C dX9_bound_1 (by decide) (by decide) rfl (by decide) ?_
      refine z_aload_n (pc := 81) C dX9_bound_81 rfl ?_
      refine z_getR (pc := 82) C zf_X9_10 rfl rfl (by decide) dX9_bound_82 ?_
      refine z_getR (pc := 85) C zf_X9_220 rfl rfl (by decide) dX9_bound_85 ?_
      refine z_getI (pc := 88) C zf_X9_232 rfl rfl (by decide) dX9_bound_88 ?_
      exact z_iret (pc := 91) C hr dX9_bound_91 (⟨by first | rfl | (congr 2; rw [if_neg (by omega), if_neg (by omega), if_neg (by omega), if_neg (by omega)]), by repeat (first | exact zk0 | refine zKeep.up ?_ (by decide) | refine zKeep.fill ?_ (by decide))⟩)

set_option maxRecDepth 100000 in
set_option maxHeartbeats 4000000 in
theorem p_X9_send (d : Nat) (a1 : Int32) : ZM (d + 2) yX9_send cX9_send 3 (some .int) [zr 0 0, zi a1] z0 (fun r g => r = some (zi (-1)) ∧ zKeep g) := by
  refine ZM.intro (by decide +kernel) (Nat.le_of_ble_eq_true rfl) ?_
  intro X C hr hn
  show Z X 0 [some (zr 0 0), some (zi a1), none] [] z0
  refine z_aload_n (pc := 0) C dX9_send_0 rfl ?_
  refine z_iload_n (pc := 1) C dX9_send_1 rfl ?_
  refine z_callV (pc := 2) C zk_X9_269 (p_X9_lets _ _) rfl rfl (by decide) rfl rfl (Nat.le_of_ble_eq_true rfl) dX9_send_2 (fun r2 g2 q2 => ?_)
  obtain ⟨rfl, hk2⟩ := q2
  simp only [Option.toList, List.cons_append, List.nil_append]
  refine z_istore_n (pc := 5) C dX9_send_5 (by rw [hn]; decide) rfl ?_
  refine z_iload_n (pc := 6) C dX9_send_6 rfl ?_
  refine z_if_ge (pc := 7) 12 C dX9_send_7 (by decide) (fun h7 => absurd h7 (by decide)) (fun h7 => ?_)
  refine z_iload_n (pc := 10) C dX9_send_10 rfl ?_
  exact z_iret (pc := 11) C hr dX9_send_11 (⟨rfl, hk2⟩)

set_option maxRecDepth 100000 in
set_option maxHeartbeats 4000000 in
theorem p_X8_triedBy (d : Nat) (f : zM) (n : Nat) (hnn : n < 3) (h0 : f 1 0 6 = 0) : ZM d yX8_triedBy cX8_triedBy 4 (some .int) [zr 1 0, zr 6 n] f (fun r g => r = some (zi (0 &&& f 6 n 6)) ∧ g = f) := by
  refine ZM.intro (by decide +kernel) (Nat.le_of_ble_eq_true rfl) ?_
  intro X C hr hn
  show Z X 0 [some (zr 1 0), some (zr 6 n), none, none] [] f
  refine z_iconst (pc := 0) (v := 0) C dX8_triedBy_0 (by decide) ?_
  refine z_istore_n (pc := 1) C dX8_triedBy_1 (by rw [hn]; decide) rfl ?_
  refine z_iconst (pc := 2) (v := 0) C dX8_triedBy_2 (by decide) ?_
  refine z_istore_n (pc := 3) C dX8_triedBy_3 (by rw [hn]; decide) rfl ?_
  refine z_iload_n (pc := 4) C dX8_triedBy_4 rfl ?_
  refine z_aload_n (pc := 5) C dX8_triedBy_5 rfl ?_
  refine z_getI (pc := 6) C zf_X8_54 rfl rfl (by decide) dX8_triedBy_6 ?_
  refine z_icmp_ge (pc := 9) 56 C dX8_triedBy_9 (by decide) (fun h9 => ?_) (fun h9 => absurd (by rw [h0]; decide) h9)
  refine z_iload_n (pc := 56) C dX8_triedBy_56 rfl ?_
  refine z_aload_n (pc := 57) C dX8_triedBy_57 rfl ?_
  refine z_getI (pc := 58) C zf_X8_156 rfl rfl hnn dX8_triedBy_58 ?_
  refine z_iand (pc := 61) C dX8_triedBy_61 ?_
  exact z_iret (pc := 62) C hr dX8_triedBy_62 (⟨rfl, rfl⟩)

set_option maxRecDepth 100000 in
set_option maxHeartbeats 4000000 in
theorem p_X9_tried (d : Nat)  : ZM (d + 1) yX9_tried cX9_tried 1 (some .int) [zr 0 0] z0 (fun r g => r = some (zi (0)) ∧ zKeep g) := by
  refine ZM.intro (by decide +kernel) (Nat.le_of_ble_eq_true rfl) ?_
  intro X C hr hn
  show Z X 0 [some (zr 0 0)] [] z0
  refine z_aload_n (pc := 0) C dX9_tried_0 rfl ?_
  refine z_getR (pc := 1) C zf_X9_10 rfl rfl (by decide) dX9_tried_1 ?_
  refine z_aload_n (pc := 4) C dX9_tried_4 rfl ?_
  refine z_getR (pc := 5) C zf_X9_10 rfl rfl (by decide) dX9_tried_5 ?_
  refine z_getR (pc := 8) C zf_X9_220 rfl rfl (by decide) dX9_tried_8 ?_
  refine z_callVx (pc := 11) C zk_X9_276 (p_X8_triedBy _ _ 0 (by decide) rfl) rfl rfl (by decide) rfl rfl (Nat.le_of_ble_eq_true rfl) dX9_tried_11 ?_
  simp only [Option.toList, List.cons_append, List.nil_append]
  exact z_iret (pc := 14) C hr dX9_tried_14 (⟨by decide, by repeat (first | exact zk0 | refine zKeep.up ?_ (by decide) | refine zKeep.fill ?_ (by decide))⟩)

set_option maxRecDepth 100000 in
set_option maxHeartbeats 4000000 in
theorem p_X9_road (d : Nat) (a1 a2 a3 : Int32) : ZM (d + 1) yX9_road cX9_road 6 (some .int) [zr 0 0, zi a1, zi a2, zi a3] z0 (fun r g => r = some (zi (-1)) ∧ zKeep g) := by
  refine ZM.intro (by decide +kernel) (Nat.le_of_ble_eq_true rfl) ?_
  intro X C hr hn
  show Z X 0 [some (zr 0 0), some (zi a1), some (zi a2), some (zi a3), none, none] [] z0
  refine z_iload_n (pc := 0) C dX9_road_0 rfl ?_
  refine z_callSb (pc := 1) C zk_X9_46 (m_X9_isLand _ _ _) rfl rfl (Nat.le_of_ble_eq_true rfl) dX9_road_1 (fun h1 => ?_) (fun h1 => ?_)
  · skip
    refine z_if_eq (pc := 4) 20 C dX9_road_4 (by decide) (fun h4 => absurd h4 (by decide)) (fun h4 => ?_)
    refine z_aload_n (pc := 7) C dX9_road_7 rfl ?_
    refine z_iload_n (pc := 8) C dX9_road_8 rfl ?_
    refine z_callVx (pc := 9) C zk_X9_179 (p_X9_isDeed _ _) rfl rfl (by decide) rfl rfl (Nat.le_of_ble_eq_true rfl) dX9_road_9 ?_
    simp only [Option.toList, List.cons_append, List.nil_append]
    refine z_if_eq (pc := 12) 20 C dX9_road_12 (by decide) (fun h12 => ?_) (fun h12 => absurd (by decide) h12)
    refine z_iconst (pc := 20) (v := -1) C dX9_road_20 (by decide) ?_
    exact z_iret (pc := 21) C hr dX9_road_21 (⟨by simp [zup, z0, zfill], by repeat (first | exact zk0 | refine zKeep.up ?_ (by decide) | refine zKeep.fill ?_ (by decide))⟩)
  · skip
    refine z_if_eq (pc := 4) 20 C dX9_road_4 (by decide) (fun h4 => ?_) (fun h4 => absurd (by decide) h4)
    refine z_iconst (pc := 20) (v := -1) C dX9_road_20 (by decide) ?_
    exact z_iret (pc := 21) C hr dX9_road_21 (⟨by simp [zup, z0, zfill], by repeat (first | exact zk0 | refine zKeep.up ?_ (by decide) | refine zKeep.fill ?_ (by decide))⟩)

set_option maxRecDepth 100000 in
set_option maxHeartbeats 4000000 in
theorem p_X9_promises (d : Nat) (a1 a2 : Int32) : ZM (d + 1) yX9_promises cX9_promises 6 (some .int) [zr 0 0, zi a1, zi a2] z0 (fun r g => r = some (zi (-1)) ∧ zKeep g) := by
  refine ZM.intro (by decide +kernel) (Nat.le_of_ble_eq_true rfl) ?_
  intro X C hr hn
  show Z X 0 [some (zr 0 0), some (zi a1), some (zi a2), none, none, none] [] z0
  refine z_iload_n (pc := 0) C dX9_promises_0 rfl ?_
  refine z_callSb (pc := 1) C zk_X9_46 (m_X9_isLand _ _ _) rfl rfl (Nat.le_of_ble_eq_true rfl) dX9_promises_1 (fun h1 => ?_) (fun h1 => ?_)
  · skip
    refine z_if_eq (pc := 4) 15 C dX9_promises_4 (by decide) (fun h4 => absurd h4 (by decide)) (fun h4 => ?_)
    refine z_aload_n (pc := 7) C dX9_promises_7 rfl ?_
    refine z_iload_n (pc := 8) C dX9_promises_8 rfl ?_
    refine z_callVx (pc := 9) C zk_X9_179 (p_X9_isDeed _ _) rfl rfl (by decide) rfl rfl (Nat.le_of_ble_eq_true rfl) dX9_promises_9 ?_
    simp only [Option.toList, List.cons_append, List.nil_append]
    refine z_if_ne (pc := 12) 17 C dX9_promises_12 (by decide) (fun h12 => absurd (by decide) h12) (fun h12 => ?_)
    refine z_iconst (pc := 15) (v := -1) C dX9_promises_15 (by decide) ?_
    exact z_iret (pc := 16) C hr dX9_promises_16 (⟨by simp [zup, z0, zfill], by repeat (first | exact zk0 | refine zKeep.up ?_ (by decide) | refine zKeep.fill ?_ (by decide))⟩)
  · skip
    refine z_if_eq (pc := 4) 15 C dX9_promises_4 (by decide) (fun h4 => ?_) (fun h4 => absurd (by decide) h4)
    refine z_iconst (pc := 15) (v := -1) C dX9_promises_15 (by decide) ?_
    exact z_iret (pc := 16) C hr dX9_promises_16 (⟨by simp [zup, z0, zfill], by repeat (first | exact zk0 | refine zKeep.up ?_ (by decide) | refine zKeep.fill ?_ (by decide))⟩)

set_option maxRecDepth 100000 in
set_option maxHeartbeats 4000000 in
theorem p_X9_mended (d : Nat) (a1 a2 : Int32) : ZM (d + 1) yX9_mended cX9_mended 3 (some .int) [zr 0 0, zi a1, zi a2] z0 (fun r g => r = some (zi (-1)) ∧ zKeep g) := by
  refine ZM.intro (by decide +kernel) (Nat.le_of_ble_eq_true rfl) ?_
  intro X C hr hn
  show Z X 0 [some (zr 0 0), some (zi a1), some (zi a2)] [] z0
  refine z_iload_n (pc := 0) C dX9_mended_0 rfl ?_
  refine z_callSb (pc := 1) C zk_X9_46 (m_X9_isLand _ _ _) rfl rfl (Nat.le_of_ble_eq_true rfl) dX9_mended_1 (fun h1 => ?_) (fun h1 => ?_)
  · skip
    refine z_if_eq (pc := 4) 15 C dX9_mended_4 (by decide) (fun h4 => absurd h4 (by decide)) (fun h4 => ?_)
    refine z_aload_n (pc := 7) C dX9_mended_7 rfl ?_
    refine z_iload_n (pc := 8) C dX9_mended_8 rfl ?_
    refine z_callVx (pc := 9) C zk_X9_179 (p_X9_isDeed _ _) rfl rfl (by decide) rfl rfl (Nat.le_of_ble_eq_true rfl) dX9_mended_9 ?_
    simp only [Option.toList, List.cons_append, List.nil_append]
    refine z_if_ne (pc := 12) 17 C dX9_mended_12 (by decide) (fun h12 => absurd (by decide) h12) (fun h12 => ?_)
    refine z_iconst (pc := 15) (v := -1) C dX9_mended_15 (by decide) ?_
    exact z_iret (pc := 16) C hr dX9_mended_16 (⟨by simp [zup, z0, zfill], by repeat (first | exact zk0 | refine zKeep.up ?_ (by decide) | refine zKeep.fill ?_ (by decide))⟩)
  · skip
    refine z_if_eq (pc := 4) 15 C dX9_mended_4 (by decide) (fun h4 => ?_) (fun h4 => absurd (by decide) h4)
    refine z_iconst (pc := 15) (v := -1) C dX9_mended_15 (by decide) ?_
    exact z_iret (pc := 16) C hr dX9_mended_16 (⟨by simp [zup, z0, zfill], by repeat (first | exact zk0 | refine zKeep.up ?_ (by decide) | refine zKeep.fill ?_ (by decide))⟩)
