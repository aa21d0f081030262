/-! ===== links of methods, 2 ===== -/
theorem tb_obj : Cond.instanceMethod Lib.objectInit ∈ iv_T ∧ Cond.code Lib.objectInit ⟨#[0xb1]⟩ 1 none ∈ iv_T := ⟨tb_g (tb_1 (List.mem_of_getElem? (i := 35) rfl)) rfl, tb_g (tb_1 (List.mem_of_getElem? (i := 36) rfl)) rfl⟩
theorem tl_LentNames_3_1 : iv_OOK "LentNames" 3 := ⟨tb_g (tb_1 (List.mem_of_getElem? (i := 34) rfl)) rfl, tb_obj⟩
theorem tl_LentNames_11_1 : iv_LI "LentNames" 11 71 1 := by
  unfold iv_LI
  rw [tb_y71]
  exact ⟨Or.inr ⟨_, tb_1 (List.mem_of_getElem? (i := 39) rfl)⟩, tb_g (tb_1 (List.mem_of_getElem? (i := 40) rfl)) rfl, rfl, rfl, rfl, by decide, by decide +kernel⟩
theorem tl_LentNames_18_1 : iv_LI "LentNames" 18 83 1 := by
  unfold iv_LI
  rw [tb_y83]
  exact ⟨Or.inl (tb_g (tb_1 (List.mem_of_getElem? (i := 58) rfl)) rfl), tb_g (tb_1 (List.mem_of_getElem? (i := 59) rfl)) rfl, rfl, rfl, rfl, by decide, by decide +kernel⟩
theorem tl_LentNames_31_1 : iv_LI "LentNames" 31 3 2 := by
  unfold iv_LI
  rw [tb_y3]
  exact ⟨Or.inl (tb_g (tb_1 (List.mem_of_getElem? (i := 172) rfl)) rfl), tb_g (tb_1 (List.mem_of_getElem? (i := 173) rfl)) rfl, rfl, rfl, rfl, by decide, by decide +kernel⟩
theorem tl_LentNames_40_1 : iv_LI "LentNames" 40 0 1 := by
  unfold iv_LI
  rw [tb_y0]
  exact ⟨Or.inr ⟨_, tb_1 (List.mem_of_getElem? (i := 230) rfl)⟩, tb_g (tb_1 (List.mem_of_getElem? (i := 231) rfl)) rfl, rfl, rfl, rfl, by decide, by decide +kernel⟩
theorem tl_LentNames_47_1 : iv_LI "LentNames" 47 91 3 := by
  unfold iv_LI
  rw [tb_y91]
  exact ⟨Or.inl (tb_g (tb_2 (List.mem_of_getElem? (i := 5) rfl)) rfl), tb_g (tb_2 (List.mem_of_getElem? (i := 6) rfl)) rfl, rfl, rfl, rfl, by decide, by decide +kernel⟩
theorem tl_LentNames_60_1 : iv_LI "LentNames" 60 43 3 := by
  unfold iv_LI
  rw [tb_y43]
  exact ⟨Or.inl (tb_g (tb_2 (List.mem_of_getElem? (i := 18) rfl)) rfl), tb_g (tb_2 (List.mem_of_getElem? (i := 19) rfl)) rfl, rfl, rfl, rfl, by decide, by decide +kernel⟩
theorem tl_LentNames_69_1 : iv_LI "LentNames" 69 52 2 := by
  unfold iv_LI
  rw [tb_y52]
  exact ⟨Or.inl (tb_g (tb_2 (List.mem_of_getElem? (i := 31) rfl)) rfl), tb_g (tb_2 (List.mem_of_getElem? (i := 32) rfl)) rfl, rfl, rfl, rfl, by decide, by decide +kernel⟩
theorem tl_LentNames_78_1 : iv_LI "LentNames" 78 59 2 := by
  unfold iv_LI
  rw [tb_y59]
  exact ⟨Or.inl (tb_g (tb_2 (List.mem_of_getElem? (i := 119) rfl)) rfl), tb_g (tb_2 (List.mem_of_getElem? (i := 120) rfl)) rfl, rfl, rfl, rfl, by decide, by decide +kernel⟩
theorem tl_LentNames_188_2 : iv_LS "LentNames" 188 310 1 := by
  unfold iv_LS
  rw [tb_y310]
  exact ⟨tb_g (tb_3 (List.mem_of_getElem? (i := 177) rfl)) rfl, tb_g (tb_3 (List.mem_of_getElem? (i := 178) rfl)) rfl, by decide +kernel⟩
theorem tl_LentNames_Accounts_3_1 : iv_OOK "LentNames$Accounts" 3 := ⟨tb_g (tb_1 (List.mem_of_getElem? (i := 233) rfl)) rfl, tb_obj⟩
theorem tl_LentNames_Accounts_20_2 : iv_ACP "LentNames$Accounts" 20 := ⟨tb_g (tb_3 (List.mem_of_getElem? (i := 119) rfl)) rfl, tb_g (tb_3 (List.mem_of_getElem? (i := 121) rfl)) rfl, tb_g (tb_3 (List.mem_of_getElem? (i := 120) rfl)) rfl, tb_g (tb_1 (List.mem_of_getElem? (i := 15) rfl)) rfl⟩
theorem tl_LentNames_Calendar_3_1 : iv_OOK "LentNames$Calendar" 3 := ⟨tb_g (tb_1 (List.mem_of_getElem? (i := 175) rfl)) rfl, tb_obj⟩
theorem tl_LentNames_Calendar_68_2 : iv_LN "LentNames$Calendar" 68 148 2 := by
  unfold iv_LN
  rw [tb_y148]
  exact ⟨⟨_, tb_2 (List.mem_of_getElem? (i := 182) rfl)⟩, tb_g (tb_2 (List.mem_of_getElem? (i := 183) rfl)) rfl, rfl, by decide +kernel⟩
theorem tl_LentNames_Calendar_87_2 : iv_LN "LentNames$Calendar" 87 150 2 := by
  unfold iv_LN
  rw [tb_y150]
  exact ⟨⟨_, tb_3 (List.mem_of_getElem? (i := 13) rfl)⟩, tb_g (tb_3 (List.mem_of_getElem? (i := 14) rfl)) rfl, rfl, by decide +kernel⟩
theorem tl_LentNames_Calendar_97_2 : iv_LN "LentNames$Calendar" 97 149 2 := by
  unfold iv_LN
  rw [tb_y149]
  exact ⟨⟨_, tb_3 (List.mem_of_getElem? (i := 20) rfl)⟩, tb_g (tb_3 (List.mem_of_getElem? (i := 21) rfl)) rfl, rfl, by decide +kernel⟩
theorem tl_LentNames_Calendar_100_2 : iv_MAX "LentNames$Calendar" 100 := ⟨tb_g (tb_5 (List.mem_of_getElem? (i := 155) rfl)) rfl, tb_g (tb_5 (List.mem_of_getElem? (i := 156) rfl)) rfl, tb_g (tb_1 (List.mem_of_getElem? (i := 14) rfl)) rfl, tb_g (tb_5 (List.mem_of_getElem? (i := 157) rfl)) rfl⟩
theorem tl_LentNames_Custom_3_1 : iv_OOK "LentNames$Custom" 3 := ⟨tb_g (tb_1 (List.mem_of_getElem? (i := 90) rfl)) rfl, tb_obj⟩
theorem tl_LentNames_Custom_25_2 : iv_ACP "LentNames$Custom" 25 := ⟨tb_g (tb_3 (List.mem_of_getElem? (i := 160) rfl)) rfl, tb_g (tb_3 (List.mem_of_getElem? (i := 121) rfl)) rfl, tb_g (tb_3 (List.mem_of_getElem? (i := 120) rfl)) rfl, tb_g (tb_1 (List.mem_of_getElem? (i := 15) rfl)) rfl⟩
theorem tl_LentNames_CustomReader_3_1 : iv_OOK "LentNames$CustomReader" 3 := ⟨tb_g (tb_2 (List.mem_of_getElem? (i := 21) rfl)) rfl, tb_obj⟩
theorem tl_LentNames_PlanSearch_3_1 : iv_LI "LentNames$PlanSearch" 3 269 2 := by
  unfold iv_LI
  rw [tb_y269]
  exact ⟨Or.inl (tb_g (tb_2 (List.mem_of_getElem? (i := 34) rfl)) rfl), tb_g (tb_2 (List.mem_of_getElem? (i := 35) rfl)) rfl, rfl, rfl, rfl, by decide, by decide +kernel⟩
theorem tl_LentNames_PlanSearch_45_2 : iv_LN "LentNames$PlanSearch" 45 149 2 := by
  unfold iv_LN
  rw [tb_y149]
  exact ⟨⟨_, tb_6 (List.mem_of_getElem? (i := 94) rfl)⟩, tb_g (tb_3 (List.mem_of_getElem? (i := 21) rfl)) rfl, rfl, by decide +kernel⟩
theorem tl_LentNames_PlanSearch_48_2 : iv_LN "LentNames$PlanSearch" 48 148 2 := by
  unfold iv_LN
  rw [tb_y148]
  exact ⟨⟨_, tb_6 (List.mem_of_getElem? (i := 95) rfl)⟩, tb_g (tb_2 (List.mem_of_getElem? (i := 183) rfl)) rfl, rfl, by decide +kernel⟩
theorem tl_LentNames_PlanSearch_71_2 : iv_LN "LentNames$PlanSearch" 71 151 1 := by
  unfold iv_LN
  rw [tb_y151]
  exact ⟨⟨_, tb_6 (List.mem_of_getElem? (i := 106) rfl)⟩, tb_g (tb_5 (List.mem_of_getElem? (i := 97) rfl)) rfl, rfl, by decide +kernel⟩
theorem tl_LentNames_PlanSearch_75_2 : iv_LS "LentNames$PlanSearch" 75 310 1 := by
  unfold iv_LS
  rw [tb_y310]
  exact ⟨tb_g (tb_6 (List.mem_of_getElem? (i := 107) rfl)) rfl, tb_g (tb_3 (List.mem_of_getElem? (i := 178) rfl)) rfl, by decide +kernel⟩
theorem tl_LentNames_Search_3_1 : iv_OOK "LentNames$Search" 3 := ⟨tb_g (tb_2 (List.mem_of_getElem? (i := 37) rfl)) rfl, tb_obj⟩
theorem tl_LentNames_Search_49_2 : iv_ACP "LentNames$Search" 49 := ⟨tb_g (tb_6 (List.mem_of_getElem? (i := 54) rfl)) rfl, tb_g (tb_3 (List.mem_of_getElem? (i := 121) rfl)) rfl, tb_g (tb_3 (List.mem_of_getElem? (i := 120) rfl)) rfl, tb_g (tb_1 (List.mem_of_getElem? (i := 15) rfl)) rfl⟩
theorem tl_LentNames_Search_108_2 : iv_LN "LentNames$Search" 108 148 2 := by
  unfold iv_LN
  rw [tb_y148]
  exact ⟨⟨_, tb_6 (List.mem_of_getElem? (i := 127) rfl)⟩, tb_g (tb_2 (List.mem_of_getElem? (i := 183) rfl)) rfl, rfl, by decide +kernel⟩
theorem tl_LentNames_Search_119_2 : iv_LN "LentNames$Search" 119 149 2 := by
  unfold iv_LN
  rw [tb_y149]
  exact ⟨⟨_, tb_6 (List.mem_of_getElem? (i := 132) rfl)⟩, tb_g (tb_3 (List.mem_of_getElem? (i := 21) rfl)) rfl, rfl, by decide +kernel⟩
theorem tl_LentNames_SecretSearch_3_1 : iv_LI "LentNames$SecretSearch" 3 269 2 := by
  unfold iv_LI
  rw [tb_y269]
  exact ⟨Or.inl (tb_g (tb_2 (List.mem_of_getElem? (i := 122) rfl)) rfl), tb_g (tb_2 (List.mem_of_getElem? (i := 35) rfl)) rfl, rfl, rfl, rfl, by decide, by decide +kernel⟩
theorem tl_LentNames_SecretSearch_41_2 : iv_LN "LentNames$SecretSearch" 41 148 2 := by
  unfold iv_LN
  rw [tb_y148]
  exact ⟨⟨_, tb_6 (List.mem_of_getElem? (i := 68) rfl)⟩, tb_g (tb_2 (List.mem_of_getElem? (i := 183) rfl)) rfl, rfl, by decide +kernel⟩
theorem tl_LentNames_SecretSearch_63_2 : iv_LN "LentNames$SecretSearch" 63 149 2 := by
  unfold iv_LN
  rw [tb_y149]
  exact ⟨⟨_, tb_6 (List.mem_of_getElem? (i := 115) rfl)⟩, tb_g (tb_3 (List.mem_of_getElem? (i := 21) rfl)) rfl, rfl, by decide +kernel⟩
theorem tl_LentNames_Table_3_1 : iv_OOK "LentNames$Table" 3 := ⟨tb_g (tb_1 (List.mem_of_getElem? (i := 67) rfl)) rfl, tb_obj⟩
theorem tl_LentNames_Table_30_2 : iv_MIN "LentNames$Table" 30 := ⟨tb_g (tb_3 (List.mem_of_getElem? (i := 151) rfl)) rfl, tb_g (tb_3 (List.mem_of_getElem? (i := 152) rfl)) rfl, tb_g (tb_1 (List.mem_of_getElem? (i := 14) rfl)) rfl, tb_g (tb_3 (List.mem_of_getElem? (i := 153) rfl)) rfl⟩
theorem tl_LentNames_Table_36_2 : iv_ACP "LentNames$Table" 36 := ⟨tb_g (tb_3 (List.mem_of_getElem? (i := 154) rfl)) rfl, tb_g (tb_3 (List.mem_of_getElem? (i := 121) rfl)) rfl, tb_g (tb_3 (List.mem_of_getElem? (i := 120) rfl)) rfl, tb_g (tb_1 (List.mem_of_getElem? (i := 15) rfl)) rfl⟩
theorem tl_LentNames_Tape_3_1 : iv_OOK "LentNames$Tape" 3 := ⟨tb_g (tb_1 (List.mem_of_getElem? (i := 42) rfl)) rfl, tb_obj⟩
theorem tl_LentNames_Town_3_1 : iv_OOK "LentNames$Town" 3 := ⟨tb_g (tb_1 (List.mem_of_getElem? (i := 61) rfl)) rfl, tb_obj⟩
theorem tl_LentNames_Town_11_1 : iv_LI "LentNames$Town" 11 65 3 := by
  unfold iv_LI
  rw [tb_y65]
  exact ⟨Or.inl (tb_g (tb_1 (List.mem_of_getElem? (i := 64) rfl)) rfl), tb_g (tb_1 (List.mem_of_getElem? (i := 65) rfl)) rfl, rfl, rfl, rfl, by decide, by decide +kernel⟩
theorem tl_LentNames_Town_38_1 : iv_LI "LentNames$Town" 38 34 1 := by
  unfold iv_LI
  rw [tb_y34]
  exact ⟨Or.inr ⟨_, tb_1 (List.mem_of_getElem? (i := 87) rfl)⟩, tb_g (tb_1 (List.mem_of_getElem? (i := 88) rfl)) rfl, rfl, rfl, rfl, by decide, by decide +kernel⟩
theorem tl_LentNames_Town_51_2 : iv_ACP "LentNames$Town" 51 := ⟨tb_g (tb_3 (List.mem_of_getElem? (i := 155) rfl)) rfl, tb_g (tb_3 (List.mem_of_getElem? (i := 121) rfl)) rfl, tb_g (tb_3 (List.mem_of_getElem? (i := 120) rfl)) rfl, tb_g (tb_1 (List.mem_of_getElem? (i := 15) rfl)) rfl⟩
theorem tl_LentNames_TownReader_3_1 : iv_OOK "LentNames$TownReader" 3 := ⟨tb_g (tb_2 (List.mem_of_getElem? (i := 8) rfl)) rfl, tb_obj⟩
theorem tl_LentNames_TownReader_136_2 : iv_MIN "LentNames$TownReader" 136 := ⟨tb_g (tb_4 (List.mem_of_getElem? (i := 115) rfl)) rfl, tb_g (tb_3 (List.mem_of_getElem? (i := 152) rfl)) rfl, tb_g (tb_1 (List.mem_of_getElem? (i := 14) rfl)) rfl, tb_g (tb_3 (List.mem_of_getElem? (i := 153) rfl)) rfl⟩
theorem tl_LentNamesLaw_107_1 : iv_LI "LentNamesLaw" 107 103 1 := by
  unfold iv_LI
  rw [tb_y103]
  exact ⟨Or.inl (tb_g (tb_1 (List.mem_of_getElem? (i := 31) rfl)) rfl), tb_g (tb_1 (List.mem_of_getElem? (i := 32) rfl)) rfl, rfl, rfl, rfl, by decide, by decide +kernel⟩
theorem tl_LentNamesLaw_110_1 : iv_LI "LentNamesLaw" 110 154 1 := by
  unfold iv_LI
  rw [tb_y154]
  exact ⟨Or.inl (tb_g (tb_6 (List.mem_of_getElem? (i := 217) rfl)) rfl), tb_g (tb_6 (List.mem_of_getElem? (i := 218) rfl)) rfl, rfl, rfl, rfl, by decide, by decide +kernel⟩
theorem tl_LentNamesModel_7_1 : iv_OOK "LentNamesModel" 7 := ⟨tb_g (tb_6 (List.mem_of_getElem? (i := 220) rfl)) rfl, tb_obj⟩
theorem tl_LentNamesModel_162_2 : iv_MIN "LentNamesModel" 162 := ⟨tb_g (tb_7 (List.mem_of_getElem? (i := 189) rfl)) rfl, tb_g (tb_3 (List.mem_of_getElem? (i := 152) rfl)) rfl, tb_g (tb_1 (List.mem_of_getElem? (i := 14) rfl)) rfl, tb_g (tb_3 (List.mem_of_getElem? (i := 153) rfl)) rfl⟩
theorem tl_LentNamesModel_344_2 : iv_MAX "LentNamesModel" 344 := ⟨tb_g (tb_8 (List.mem_of_getElem? (i := 143) rfl)) rfl, tb_g (tb_5 (List.mem_of_getElem? (i := 156) rfl)) rfl, tb_g (tb_1 (List.mem_of_getElem? (i := 14) rfl)) rfl, tb_g (tb_5 (List.mem_of_getElem? (i := 157) rfl)) rfl⟩
theorem tl_LentNamesModel_374_2 : iv_LS "LentNamesModel" 374 310 1 := by
  unfold iv_LS
  rw [tb_y310]
  exact ⟨tb_g (tb_8 (List.mem_of_getElem? (i := 228) rfl)) rfl, tb_g (tb_3 (List.mem_of_getElem? (i := 178) rfl)) rfl, by decide +kernel⟩
