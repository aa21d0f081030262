/-! ===== the words of the tables, by their places ===== -/
theorem tb_0 : ∀ w ∈ tables_1, w ∈ lw_tbl := fun w h => List.mem_append_right _ h
theorem tb_1 {w : Cond} (h : w ∈ tables_1_1) : w ∈ lw_tbl := tb_0 w (List.mem_append_left _ h)
theorem tb_2 {w : Cond} (h : w ∈ tables_1_2) : w ∈ lw_tbl := tb_0 w (List.mem_append_right _ (List.mem_append_left _ h))
theorem tb_3 {w : Cond} (h : w ∈ tables_1_3) : w ∈ lw_tbl := tb_0 w (List.mem_append_right _ (List.mem_append_right _ (List.mem_append_left _ h)))
theorem tb_4 {w : Cond} (h : w ∈ tables_1_4) : w ∈ lw_tbl := tb_0 w (List.mem_append_right _ (List.mem_append_right _ (List.mem_append_right _ (List.mem_append_left _ h))))
theorem tb_5 {w : Cond} (h : w ∈ tables_1_5) : w ∈ lw_tbl := tb_0 w (List.mem_append_right _ (List.mem_append_right _ (List.mem_append_right _ (List.mem_append_right _ (List.mem_append_left _ h)))))
theorem tb_6 {w : Cond} (h : w ∈ tables_1_6) : w ∈ lw_tbl := tb_0 w (List.mem_append_right _ (List.mem_append_right _ (List.mem_append_right _ (List.mem_append_right _ (List.mem_append_right _ (List.mem_append_left _ h))))))
theorem tb_7 {w : Cond} (h : w ∈ tables_1_7) : w ∈ lw_tbl := tb_0 w (List.mem_append_right _ (List.mem_append_right _ (List.mem_append_right _ (List.mem_append_right _ (List.mem_append_right _ (List.mem_append_right _ (List.mem_append_left _ h)))))))
theorem tb_8 {w : Cond} (h : w ∈ tables_1_8) : w ∈ lw_tbl := tb_0 w (List.mem_append_right _ (List.mem_append_right _ (List.mem_append_right _ (List.mem_append_right _ (List.mem_append_right _ (List.mem_append_right _ (List.mem_append_right _ (List.mem_append_left _ h))))))))
theorem tb_9 {w : Cond} (h : w ∈ tables_1_9) : w ∈ lw_tbl := tb_0 w (List.mem_append_right _ (List.mem_append_right _ (List.mem_append_right _ (List.mem_append_right _ (List.mem_append_right _ (List.mem_append_right _ (List.mem_append_right _ (List.mem_append_right _ (h)))))))))
theorem tb_g {w : Cond} (h : w ∈ lw_tbl) (g : goodWord w = true) : w ∈ iv_T := List.mem_filter.mpr ⟨h, g⟩
theorem tb_y0 : pm_y 0 = (⟨"LentNames$Accounts", "<init>", "()V"⟩ : MethodName) := rfl
theorem tb_b0 : pm_b 0 = prog_2_method_1_code := rfl
theorem tb_m0 : iv_MW 0 ∈ iv_T := by
  rw [iv_MW0 (show pm_h 0 = [] from rfl), tb_y0, tb_b0, show (pg_i 0).1 = 1 from rfl, show pm_r 0 = (Option.none : Option Jvm.ClassFile.FieldType) from rfl]
  exact tb_g (tb_1 (List.mem_of_getElem? (i := 232) rfl)) rfl
theorem tb_y1 : pm_y 1 = (⟨"LentNames$Accounts", "settle", "(LLentNames$Town;LLentNames$Calendar;)V"⟩ : MethodName) := rfl
theorem tb_b1 : pm_b 1 = prog_2_method_2_code := rfl
theorem tb_m1 : iv_MW 1 ∈ iv_T := by
  rw [iv_MW0 (show pm_h 1 = [] from rfl), tb_y1, tb_b1, show (pg_i 1).1 = 5 from rfl, show pm_r 1 = (Option.none : Option Jvm.ClassFile.FieldType) from rfl]
  exact tb_g (tb_3 (List.mem_of_getElem? (i := 118) rfl)) rfl
theorem tb_y2 : pm_y 2 = (⟨"LentNames$Accounts", "settleDebt", "(III)V"⟩ : MethodName) := rfl
theorem tb_b2 : pm_b 2 = prog_2_method_3_code := rfl
theorem tb_m2 : iv_MW 2 ∈ iv_T := by
  rw [iv_MW0 (show pm_h 2 = [] from rfl), tb_y2, tb_b2, show (pg_i 2).1 = 4 from rfl, show pm_r 2 = (Option.none : Option Jvm.ClassFile.FieldType) from rfl]
  exact tb_g (tb_3 (List.mem_of_getElem? (i := 130) rfl)) rfl
theorem tb_y3 : pm_y 3 = (⟨"LentNames$Calendar", "<init>", "(LLentNames$Town;)V"⟩ : MethodName) := rfl
theorem tb_b3 : pm_b 3 = prog_3_method_1_code := rfl
theorem tb_m3 : iv_MW 3 ∈ iv_T := by
  rw [iv_MW0 (show pm_h 3 = [] from rfl), tb_y3, tb_b3, show (pg_i 3).1 = 2 from rfl, show pm_r 3 = (Option.none : Option Jvm.ClassFile.FieldType) from rfl]
  exact tb_g (tb_1 (List.mem_of_getElem? (i := 174) rfl)) rfl
theorem tb_y4 : pm_y 4 = (⟨"LentNames$Calendar", "live", "(LLentNames$Town;)V"⟩ : MethodName) := rfl
theorem tb_b4 : pm_b 4 = prog_3_method_2_code := rfl
theorem tb_m4 : iv_MW 4 ∈ iv_T := by
  rw [iv_MW0 (show pm_h 4 = [] from rfl), tb_y4, tb_b4, show (pg_i 4).1 = 3 from rfl, show pm_r 4 = (Option.none : Option Jvm.ClassFile.FieldType) from rfl]
  exact tb_g (tb_2 (List.mem_of_getElem? (i := 152) rfl)) rfl
theorem tb_y5 : pm_y 5 = (⟨"LentNames$Calendar", "bearerOf", "(II)I"⟩ : MethodName) := rfl
theorem tb_b5 : pm_b 5 = prog_3_method_3_code := rfl
theorem tb_m5 : iv_MW 5 ∈ iv_T := by
  rw [iv_MW0 (show pm_h 5 = [] from rfl), tb_y5, tb_b5, show (pg_i 5).1 = 3 from rfl, show pm_r 5 = (Option.some Jvm.ClassFile.FieldType.int) from rfl]
  exact tb_g (tb_3 (List.mem_of_getElem? (i := 100) rfl)) rfl
theorem tb_y6 : pm_y 6 = (⟨"LentNames$Calendar", "stateOf", "(II)I"⟩ : MethodName) := rfl
theorem tb_b6 : pm_b 6 = prog_3_method_4_code := rfl
theorem tb_m6 : iv_MW 6 ∈ iv_T := by
  rw [iv_MW0 (show pm_h 6 = [] from rfl), tb_y6, tb_b6, show (pg_i 6).1 = 3 from rfl, show pm_r 6 = (Option.some Jvm.ClassFile.FieldType.int) from rfl]
  exact tb_g (tb_5 (List.mem_of_getElem? (i := 66) rfl)) rfl
theorem tb_y7 : pm_y 7 = (⟨"LentNames$Calendar", "rowPlace", "(III)I"⟩ : MethodName) := rfl
theorem tb_b7 : pm_b 7 = prog_3_method_5_code := rfl
theorem tb_m7 : iv_MW 7 ∈ iv_T := by
  rw [iv_MW0 (show pm_h 7 = [] from rfl), tb_y7, tb_b7, show (pg_i 7).1 = 4 from rfl, show pm_r 7 = (Option.some Jvm.ClassFile.FieldType.int) from rfl]
  exact tb_g (tb_5 (List.mem_of_getElem? (i := 77) rfl)) rfl
theorem tb_y8 : pm_y 8 = (⟨"LentNames$Calendar", "namesOf", "(II)I"⟩ : MethodName) := rfl
theorem tb_b8 : pm_b 8 = prog_3_method_6_code := rfl
theorem tb_m8 : iv_MW 8 ∈ iv_T := by
  rw [iv_MW0 (show pm_h 8 = [] from rfl), tb_y8, tb_b8, show (pg_i 8).1 = 5 from rfl, show pm_r 8 = (Option.some Jvm.ClassFile.FieldType.int) from rfl]
  exact tb_g (tb_5 (List.mem_of_getElem? (i := 55) rfl)) rfl
theorem tb_y9 : pm_y 9 = (⟨"LentNames$Calendar", "namelessDays", "(I)I"⟩ : MethodName) := rfl
theorem tb_b9 : pm_b 9 = prog_3_method_7_code := rfl
theorem tb_m9 : iv_MW 9 ∈ iv_T := by
  rw [iv_MW0 (show pm_h 9 = [] from rfl), tb_y9, tb_b9, show (pg_i 9).1 = 4 from rfl, show pm_r 9 = (Option.some Jvm.ClassFile.FieldType.int) from rfl]
  exact tb_g (tb_5 (List.mem_of_getElem? (i := 88) rfl)) rfl
theorem tb_y10 : pm_y 10 = (⟨"LentNames$Calendar", "handsOf", "(I)I"⟩ : MethodName) := rfl
theorem tb_b10 : pm_b 10 = prog_3_method_8_code := rfl
theorem tb_m10 : iv_MW 10 ∈ iv_T := by
  rw [iv_MW0 (show pm_h 10 = [] from rfl), tb_y10, tb_b10, show (pg_i 10).1 = 4 from rfl, show pm_r 10 = (Option.some Jvm.ClassFile.FieldType.int) from rfl]
  exact tb_g (tb_3 (List.mem_of_getElem? (i := 96) rfl)) rfl
theorem tb_y11 : pm_y 11 = (⟨"LentNames$Calendar", "firstBorne", "(II)I"⟩ : MethodName) := rfl
theorem tb_b11 : pm_b 11 = prog_3_method_9_code := rfl
theorem tb_m11 : iv_MW 11 ∈ iv_T := by
  rw [iv_MW0 (show pm_h 11 = [] from rfl), tb_y11, tb_b11, show (pg_i 11).1 = 4 from rfl, show pm_r 11 = (Option.some Jvm.ClassFile.FieldType.int) from rfl]
  exact tb_g (tb_5 (List.mem_of_getElem? (i := 154) rfl)) rfl
theorem tb_y12 : pm_y 12 = (⟨"LentNames$Calendar", "payer", "(I)I"⟩ : MethodName) := rfl
theorem tb_b12 : pm_b 12 = prog_3_method_10_code := rfl
theorem tb_m12 : iv_MW 12 ∈ iv_T := by
  rw [iv_MW0 (show pm_h 12 = [] from rfl), tb_y12, tb_b12, show (pg_i 12).1 = 4 from rfl, show pm_r 12 = (Option.some Jvm.ClassFile.FieldType.int) from rfl]
  exact tb_g (tb_3 (List.mem_of_getElem? (i := 126) rfl)) rfl
theorem tb_y13 : pm_y 13 = (⟨"LentNames$Calendar", "agrees", "(I)Z"⟩ : MethodName) := rfl
theorem tb_b13 : pm_b 13 = prog_3_method_11_code := rfl
theorem tb_m13 : iv_MW 13 ∈ iv_T := by
  rw [iv_MW0 (show pm_h 13 = [] from rfl), tb_y13, tb_b13, show (pg_i 13).1 = 3 from rfl, show pm_r 13 = (Option.some Jvm.ClassFile.FieldType.boolean) from rfl]
  exact tb_g (tb_3 (List.mem_of_getElem? (i := 138) rfl)) rfl
theorem tb_y14 : pm_y 14 = (⟨"LentNames$Calendar", "refused", "()I"⟩ : MethodName) := rfl
theorem tb_b14 : pm_b 14 = prog_3_method_12_code := rfl
theorem tb_m14 : iv_MW 14 ∈ iv_T := by
  rw [iv_MW0 (show pm_h 14 = [] from rfl), tb_y14, tb_b14, show (pg_i 14).1 = 3 from rfl, show pm_r 14 = (Option.some Jvm.ClassFile.FieldType.int) from rfl]
  exact tb_g (tb_3 (List.mem_of_getElem? (i := 172) rfl)) rfl
theorem tb_y15 : pm_y 15 = (⟨"LentNames$Calendar", "isNoted", "(II)Z"⟩ : MethodName) := rfl
theorem tb_b15 : pm_b 15 = prog_3_method_13_code := rfl
theorem tb_m15 : iv_MW 15 ∈ iv_T := by
  rw [iv_MW0 (show pm_h 15 = [] from rfl), tb_y15, tb_b15, show (pg_i 15).1 = 3 from rfl, show pm_r 15 = (Option.some Jvm.ClassFile.FieldType.boolean) from rfl]
  exact tb_g (tb_3 (List.mem_of_getElem? (i := 104) rfl)) rfl
theorem tb_y16 : pm_y 16 = (⟨"LentNames$Calendar", "begin", "()V"⟩ : MethodName) := rfl
theorem tb_b16 : pm_b 16 = prog_3_method_14_code := rfl
theorem tb_m16 : iv_MW 16 ∈ iv_T := by
  rw [iv_MW0 (show pm_h 16 = [] from rfl), tb_y16, tb_b16, show (pg_i 16).1 = 2 from rfl, show pm_r 16 = (Option.none : Option Jvm.ClassFile.FieldType) from rfl]
  exact tb_g (tb_2 (List.mem_of_getElem? (i := 156) rfl)) rfl
theorem tb_y17 : pm_y 17 = (⟨"LentNames$Calendar", "endLoans", "(I)V"⟩ : MethodName) := rfl
theorem tb_b17 : pm_b 17 = prog_3_method_15_code := rfl
theorem tb_m17 : iv_MW 17 ∈ iv_T := by
  rw [iv_MW0 (show pm_h 17 = [] from rfl), tb_y17, tb_b17, show (pg_i 17).1 = 4 from rfl, show pm_r 17 = (Option.none : Option Jvm.ClassFile.FieldType) from rfl]
  exact tb_g (tb_2 (List.mem_of_getElem? (i := 173) rfl)) rfl
theorem tb_y18 : pm_y 18 = (⟨"LentNames$Calendar", "endFrom", "(III)V"⟩ : MethodName) := rfl
theorem tb_b18 : pm_b 18 = prog_3_method_16_code := rfl
theorem tb_m18 : iv_MW 18 ∈ iv_T := by
  rw [iv_MW0 (show pm_h 18 = [] from rfl), tb_y18, tb_b18, show (pg_i 18).1 = 5 from rfl, show pm_r 18 = (Option.none : Option Jvm.ClassFile.FieldType) from rfl]
  exact tb_g (tb_2 (List.mem_of_getElem? (i := 181) rfl)) rfl
theorem tb_y19 : pm_y 19 = (⟨"LentNames$Calendar", "holdCourt", "(I)V"⟩ : MethodName) := rfl
theorem tb_b19 : pm_b 19 = prog_3_method_17_code := rfl
theorem tb_m19 : iv_MW 19 ∈ iv_T := by
  rw [iv_MW0 (show pm_h 19 = [] from rfl), tb_y19, tb_b19, show (pg_i 19).1 = 4 from rfl, show pm_r 19 = (Option.none : Option Jvm.ClassFile.FieldType) from rfl]
  exact tb_g (tb_2 (List.mem_of_getElem? (i := 188) rfl)) rfl
theorem tb_y20 : pm_y 20 = (⟨"LentNames$Calendar", "chargePledges", "(I)V"⟩ : MethodName) := rfl
theorem tb_b20 : pm_b 20 = prog_3_method_18_code := rfl
theorem tb_m20 : iv_MW 20 ∈ iv_T := by
  rw [iv_MW0 (show pm_h 20 = [] from rfl), tb_y20, tb_b20, show (pg_i 20).1 = 5 from rfl, show pm_r 20 = (Option.none : Option Jvm.ClassFile.FieldType) from rfl]
  exact tb_g (tb_2 (List.mem_of_getElem? (i := 209) rfl)) rfl
theorem tb_y21 : pm_y 21 = (⟨"LentNames$Calendar", "lendNames", "(I)V"⟩ : MethodName) := rfl
theorem tb_b21 : pm_b 21 = prog_3_method_19_code := rfl
theorem tb_m21 : iv_MW 21 ∈ iv_T := by
  rw [iv_MW0 (show pm_h 21 = [] from rfl), tb_y21, tb_b21, show (pg_i 21).1 = 5 from rfl, show pm_r 21 = (Option.none : Option Jvm.ClassFile.FieldType) from rfl]
  exact tb_g (tb_2 (List.mem_of_getElem? (i := 213) rfl)) rfl
theorem tb_y22 : pm_y 22 = (⟨"LentNames$Calendar", "mayBegin", "(III)Z"⟩ : MethodName) := rfl
theorem tb_b22 : pm_b 22 = prog_3_method_20_code := rfl
theorem tb_m22 : iv_MW 22 ∈ iv_T := by
  rw [iv_MW0 (show pm_h 22 = [] from rfl), tb_y22, tb_b22, show (pg_i 22).1 = 6 from rfl, show pm_r 22 = (Option.some Jvm.ClassFile.FieldType.boolean) from rfl]
  exact tb_g (tb_2 (List.mem_of_getElem? (i := 217) rfl)) rfl
theorem tb_y23 : pm_y 23 = (⟨"LentNames$Calendar", "isLentOn", "(I)Z"⟩ : MethodName) := rfl
theorem tb_b23 : pm_b 23 = prog_3_method_21_code := rfl
theorem tb_m23 : iv_MW 23 ∈ iv_T := by
  rw [iv_MW0 (show pm_h 23 = [] from rfl), tb_y23, tb_b23, show (pg_i 23).1 = 2 from rfl, show pm_r 23 = (Option.some Jvm.ClassFile.FieldType.boolean) from rfl]
  exact tb_g (tb_2 (List.mem_of_getElem? (i := 221) rfl)) rfl
theorem tb_y24 : pm_y 24 = (⟨"LentNames$Calendar", "isGranted", "(III)Z"⟩ : MethodName) := rfl
theorem tb_b24 : pm_b 24 = prog_3_method_22_code := rfl
theorem tb_m24 : iv_MW 24 ∈ iv_T := by
  rw [iv_MW0 (show pm_h 24 = [] from rfl), tb_y24, tb_b24, show (pg_i 24).1 = 6 from rfl, show pm_r 24 = (Option.some Jvm.ClassFile.FieldType.boolean) from rfl]
  exact tb_g (tb_2 (List.mem_of_getElem? (i := 225) rfl)) rfl
theorem tb_y25 : pm_y 25 = (⟨"LentNames$Calendar", "borneNow", "(I)I"⟩ : MethodName) := rfl
theorem tb_b25 : pm_b 25 = prog_3_method_23_code := rfl
theorem tb_m25 : iv_MW 25 ∈ iv_T := by
  rw [iv_MW0 (show pm_h 25 = [] from rfl), tb_y25, tb_b25, show (pg_i 25).1 = 4 from rfl, show pm_r 25 = (Option.some Jvm.ClassFile.FieldType.int) from rfl]
  exact tb_g (tb_2 (List.mem_of_getElem? (i := 229) rfl)) rfl
theorem tb_y26 : pm_y 26 = (⟨"LentNames$Calendar", "note", "(I)V"⟩ : MethodName) := rfl
theorem tb_b26 : pm_b 26 = prog_3_method_24_code := rfl
theorem tb_m26 : iv_MW 26 ∈ iv_T := by
  rw [iv_MW0 (show pm_h 26 = [] from rfl), tb_y26, tb_b26, show (pg_i 26).1 = 5 from rfl, show pm_r 26 = (Option.none : Option Jvm.ClassFile.FieldType) from rfl]
  exact tb_g (tb_3 (List.mem_of_getElem? (i := 12) rfl)) rfl
theorem tb_y27 : pm_y 27 = (⟨"LentNames$Calendar", "noteRow", "(II)V"⟩ : MethodName) := rfl
theorem tb_b27 : pm_b 27 = prog_3_method_25_code := rfl
theorem tb_m27 : iv_MW 27 ∈ iv_T := by
  rw [iv_MW0 (show pm_h 27 = [] from rfl), tb_y27, tb_b27, show (pg_i 27).1 = 4 from rfl, show pm_r 27 = (Option.none : Option Jvm.ClassFile.FieldType) from rfl]
  exact tb_g (tb_3 (List.mem_of_getElem? (i := 26) rfl)) rfl
theorem tb_y28 : pm_y 28 = (⟨"LentNames$Calendar", "stateNow", "(II)I"⟩ : MethodName) := rfl
theorem tb_b28 : pm_b 28 = prog_3_method_26_code := rfl
theorem tb_m28 : iv_MW 28 ∈ iv_T := by
  rw [iv_MW0 (show pm_h 28 = [] from rfl), tb_y28, tb_b28, show (pg_i 28).1 = 3 from rfl, show pm_r 28 = (Option.some Jvm.ClassFile.FieldType.int) from rfl]
  exact tb_g (tb_3 (List.mem_of_getElem? (i := 19) rfl)) rfl
theorem tb_y29 : pm_y 29 = (⟨"LentNames$Calendar", "isBorneByRight", "(II)Z"⟩ : MethodName) := rfl
theorem tb_b29 : pm_b 29 = prog_3_method_27_code := rfl
theorem tb_m29 : iv_MW 29 ∈ iv_T := by
  rw [iv_MW0 (show pm_h 29 = [] from rfl), tb_y29, tb_b29, show (pg_i 29).1 = 3 from rfl, show pm_r 29 = (Option.some Jvm.ClassFile.FieldType.boolean) from rfl]
  exact tb_g (tb_2 (List.mem_of_getElem? (i := 192) rfl)) rfl
theorem tb_y30 : pm_y 30 = (⟨"LentNames$Calendar", "isOverdue", "(II)Z"⟩ : MethodName) := rfl
theorem tb_b30 : pm_b 30 = prog_3_method_28_code := rfl
theorem tb_m30 : iv_MW 30 ∈ iv_T := by
  rw [iv_MW0 (show pm_h 30 = [] from rfl), tb_y30, tb_b30, show (pg_i 30).1 = 4 from rfl, show pm_r 30 = (Option.some Jvm.ClassFile.FieldType.boolean) from rfl]
  exact tb_g (tb_2 (List.mem_of_getElem? (i := 205) rfl)) rfl
theorem tb_y31 : pm_y 31 = (⟨"LentNames$Calendar", "isAlive", "(II)Z"⟩ : MethodName) := rfl
theorem tb_b31 : pm_b 31 = prog_3_method_29_code := rfl
theorem tb_m31 : iv_MW 31 ∈ iv_T := by
  rw [iv_MW0 (show pm_h 31 = [] from rfl), tb_y31, tb_b31, show (pg_i 31).1 = 3 from rfl, show pm_r 31 = (Option.some Jvm.ClassFile.FieldType.boolean) from rfl]
  exact tb_g (tb_2 (List.mem_of_getElem? (i := 201) rfl)) rfl
theorem tb_y32 : pm_y 32 = (⟨"LentNames$Calendar", "lastOf", "(I)I"⟩ : MethodName) := rfl
theorem tb_b32 : pm_b 32 = prog_3_method_30_code := rfl
theorem tb_m32 : iv_MW 32 ∈ iv_T := by
  rw [iv_MW0 (show pm_h 32 = [] from rfl), tb_y32, tb_b32, show (pg_i 32).1 = 2 from rfl, show pm_r 32 = (Option.some Jvm.ClassFile.FieldType.int) from rfl]
  exact tb_g (tb_2 (List.mem_of_getElem? (i := 196) rfl)) rfl
theorem tb_y33 : pm_y 33 = (⟨"LentNames$Calendar", "loanAt", "(II)I"⟩ : MethodName) := rfl
theorem tb_b33 : pm_b 33 = prog_3_method_31_code := rfl
theorem tb_m33 : iv_MW 33 ∈ iv_T := by
  rw [iv_MW0 (show pm_h 33 = [] from rfl), tb_y33, tb_b33, show (pg_i 33).1 = 3 from rfl, show pm_r 33 = (Option.some Jvm.ClassFile.FieldType.int) from rfl]
  exact tb_g (tb_2 (List.mem_of_getElem? (i := 177) rfl)) rfl
theorem tb_y34 : pm_y 34 = (⟨"LentNames$Custom", "<init>", "()V"⟩ : MethodName) := rfl
theorem tb_b34 : pm_b 34 = prog_4_method_1_code := rfl
theorem tb_m34 : iv_MW 34 ∈ iv_T := by
  rw [iv_MW0 (show pm_h 34 = [] from rfl), tb_y34, tb_b34, show (pg_i 34).1 = 1 from rfl, show pm_r 34 = (Option.none : Option Jvm.ClassFile.FieldType) from rfl]
  exact tb_g (tb_1 (List.mem_of_getElem? (i := 89) rfl)) rfl
theorem tb_y35 : pm_y 35 = (⟨"LentNames$Custom", "clear", "()V"⟩ : MethodName) := rfl
theorem tb_b35 : pm_b 35 = prog_4_method_2_code := rfl
theorem tb_m35 : iv_MW 35 ∈ iv_T := by
  rw [iv_MW0 (show pm_h 35 = [] from rfl), tb_y35, tb_b35, show (pg_i 35).1 = 1 from rfl, show pm_r 35 = (Option.none : Option Jvm.ClassFile.FieldType) from rfl]
  exact tb_g (tb_5 (List.mem_of_getElem? (i := 187) rfl)) rfl
theorem tb_y36 : pm_y 36 = (⟨"LentNames$Custom", "append", "(I)Z"⟩ : MethodName) := rfl
theorem tb_b36 : pm_b 36 = prog_4_method_3_code := rfl
theorem tb_m36 : iv_MW 36 ∈ iv_T := by
  rw [iv_MW0 (show pm_h 36 = [] from rfl), tb_y36, tb_b36, show (pg_i 36).1 = 2 from rfl, show pm_r 36 = (Option.some Jvm.ClassFile.FieldType.boolean) from rfl]
  exact tb_g (tb_5 (List.mem_of_getElem? (i := 201) rfl)) rfl
theorem tb_y37 : pm_y 37 = (⟨"LentNames$Custom", "copyCode", "(LLentNames$Custom;)V"⟩ : MethodName) := rfl
theorem tb_b37 : pm_b 37 = prog_4_method_4_code := rfl
theorem tb_m37 : iv_MW 37 ∈ iv_T := by
  rw [iv_MW0 (show pm_h 37 = [] from rfl), tb_y37, tb_b37, show (pg_i 37).1 = 2 from rfl, show pm_r 37 = (Option.none : Option Jvm.ClassFile.FieldType) from rfl]
  exact tb_g (tb_3 (List.mem_of_getElem? (i := 159) rfl)) rfl
theorem tb_y38 : pm_y 38 = (⟨"LentNames$Custom", "grants", "([I)Z"⟩ : MethodName) := rfl
theorem tb_b38 : pm_b 38 = prog_4_method_5_code := rfl
theorem tb_m38 : iv_MW 38 ∈ iv_T := by
  rw [iv_MW0 (show pm_h 38 = [] from rfl), tb_y38, tb_b38, show (pg_i 38).1 = 4 from rfl, show pm_r 38 = (Option.some Jvm.ClassFile.FieldType.boolean) from rfl]
  exact tb_g (tb_2 (List.mem_of_getElem? (i := 233) rfl)) rfl
theorem tb_y39 : pm_y 39 = (⟨"LentNames$Custom", "work", "(I[I)V"⟩ : MethodName) := rfl
theorem tb_b39 : pm_b 39 = prog_4_method_6_code := rfl
theorem tb_m39 : iv_MW 39 ∈ iv_T := by
  rw [iv_MW0 (show pm_h 39 = [] from rfl), tb_y39, tb_b39, show (pg_i 39).1 = 5 from rfl, show pm_r 39 = (Option.none : Option Jvm.ClassFile.FieldType) from rfl]
  exact tb_g (tb_3 (List.mem_of_getElem? (i := 1) rfl)) rfl
theorem tb_y40 : pm_y 40 = (⟨"LentNames$Custom", "join", "(III)I"⟩ : MethodName) := rfl
theorem tb_b40 : pm_b 40 = prog_4_method_7_code := rfl
theorem tb_m40 : iv_MW 40 ∈ iv_T := by
  rw [iv_MW0 (show pm_h 40 = [] from rfl), tb_y40, tb_b40, show (pg_i 40).1 = 3 from rfl, show pm_r 40 = (Option.some Jvm.ClassFile.FieldType.int) from rfl]
  exact tb_g (tb_3 (List.mem_of_getElem? (i := 8) rfl)) rfl
theorem tb_y41 : pm_y 41 = (⟨"LentNames$Custom", "push", "(I)V"⟩ : MethodName) := rfl
theorem tb_b41 : pm_b 41 = prog_4_method_8_code := rfl
theorem tb_m41 : iv_MW 41 ∈ iv_T := by
  rw [iv_MW0 (show pm_h 41 = [] from rfl), tb_y41, tb_b41, show (pg_i 41).1 = 2 from rfl, show pm_r 41 = (Option.none : Option Jvm.ClassFile.FieldType) from rfl]
  exact tb_g (tb_3 (List.mem_of_getElem? (i := 5) rfl)) rfl
theorem tb_y42 : pm_y 42 = (⟨"LentNames$Custom", "pop", "()I"⟩ : MethodName) := rfl
theorem tb_b42 : pm_b 42 = prog_4_method_9_code := rfl
theorem tb_m42 : iv_MW 42 ∈ iv_T := by
  rw [iv_MW0 (show pm_h 42 = [] from rfl), tb_y42, tb_b42, show (pg_i 42).1 = 1 from rfl, show pm_r 42 = (Option.some Jvm.ClassFile.FieldType.int) from rfl]
  exact tb_g (tb_2 (List.mem_of_getElem? (i := 237) rfl)) rfl
theorem tb_y43 : pm_y 43 = (⟨"LentNames$CustomReader", "<init>", "(LLentNames$Tape;LLentNames$Custom;)V"⟩ : MethodName) := rfl
theorem tb_b43 : pm_b 43 = prog_5_method_1_code := rfl
theorem tb_m43 : iv_MW 43 ∈ iv_T := by
  rw [iv_MW0 (show pm_h 43 = [] from rfl), tb_y43, tb_b43, show (pg_i 43).1 = 3 from rfl, show pm_r 43 = (Option.none : Option Jvm.ClassFile.FieldType) from rfl]
  exact tb_g (tb_2 (List.mem_of_getElem? (i := 20) rfl)) rfl
theorem tb_y44 : pm_y 44 = (⟨"LentNames$CustomReader", "reads", "(LLentNames$Custom;)Z"⟩ : MethodName) := rfl
theorem tb_b44 : pm_b 44 = prog_5_method_2_code := rfl
theorem tb_m44 : iv_MW 44 ∈ iv_T := by
  rw [iv_MW0 (show pm_h 44 = [] from rfl), tb_y44, tb_b44, show (pg_i 44).1 = 3 from rfl, show pm_r 44 = (Option.some Jvm.ClassFile.FieldType.boolean) from rfl]
  exact tb_g (tb_5 (List.mem_of_getElem? (i := 183) rfl)) rfl
theorem tb_y45 : pm_y 45 = (⟨"LentNames$CustomReader", "readLine", "()Z"⟩ : MethodName) := rfl
theorem tb_b45 : pm_b 45 = prog_5_method_3_code := rfl
theorem tb_m45 : iv_MW 45 ∈ iv_T := by
  rw [iv_MW0 (show pm_h 45 = [] from rfl), tb_y45, tb_b45, show (pg_i 45).1 = 2 from rfl, show pm_r 45 = (Option.some Jvm.ClassFile.FieldType.boolean) from rfl]
  exact tb_g (tb_5 (List.mem_of_getElem? (i := 193) rfl)) rfl
theorem tb_y46 : pm_y 46 = (⟨"LentNames$CustomReader", "readCondition", "(I)Z"⟩ : MethodName) := rfl
theorem tb_b46 : pm_b 46 = prog_5_method_4_code := rfl
theorem tb_m46 : iv_MW 46 ∈ iv_T := by
  rw [iv_MW0 (show pm_h 46 = [] from rfl), tb_y46, tb_b46, show (pg_i 46).1 = 3 from rfl, show pm_r 46 = (Option.some Jvm.ClassFile.FieldType.boolean) from rfl]
  exact tb_g (tb_5 (List.mem_of_getElem? (i := 205) rfl)) rfl
theorem tb_y47 : pm_y 47 = (⟨"LentNames$CustomReader", "readAll", "(I)Z"⟩ : MethodName) := rfl
theorem tb_b47 : pm_b 47 = prog_5_method_5_code := rfl
theorem tb_m47 : iv_MW 47 ∈ iv_T := by
  rw [iv_MW0 (show pm_h 47 = [] from rfl), tb_y47, tb_b47, show (pg_i 47).1 = 3 from rfl, show pm_r 47 = (Option.some Jvm.ClassFile.FieldType.boolean) from rfl]
  exact tb_g (tb_5 (List.mem_of_getElem? (i := 209) rfl)) rfl
theorem tb_y48 : pm_y 48 = (⟨"LentNames$CustomReader", "readAtom", "(I)Z"⟩ : MethodName) := rfl
theorem tb_b48 : pm_b 48 = prog_5_method_6_code := rfl
theorem tb_m48 : iv_MW 48 ∈ iv_T := by
  rw [iv_MW0 (show pm_h 48 = [] from rfl), tb_y48, tb_b48, show (pg_i 48).1 = 2 from rfl, show pm_r 48 = (Option.some Jvm.ClassFile.FieldType.boolean) from rfl]
  exact tb_g (tb_5 (List.mem_of_getElem? (i := 213) rfl)) rfl
theorem tb_y49 : pm_y 49 = (⟨"LentNames$CustomReader", "readSum", "()Z"⟩ : MethodName) := rfl
theorem tb_b49 : pm_b 49 = prog_5_method_7_code := rfl
theorem tb_m49 : iv_MW 49 ∈ iv_T := by
  rw [iv_MW0 (show pm_h 49 = [] from rfl), tb_y49, tb_b49, show (pg_i 49).1 = 2 from rfl, show pm_r 49 = (Option.some Jvm.ClassFile.FieldType.boolean) from rfl]
  exact tb_g (tb_5 (List.mem_of_getElem? (i := 223) rfl)) rfl
theorem tb_y50 : pm_y 50 = (⟨"LentNames$CustomReader", "readPart", "()Z"⟩ : MethodName) := rfl
theorem tb_b50 : pm_b 50 = prog_5_method_8_code := rfl
theorem tb_m50 : iv_MW 50 ∈ iv_T := by
  rw [iv_MW0 (show pm_h 50 = [] from rfl), tb_y50, tb_b50, show (pg_i 50).1 = 3 from rfl, show pm_r 50 = (Option.some Jvm.ClassFile.FieldType.boolean) from rfl]
  exact tb_g (tb_5 (List.mem_of_getElem? (i := 227) rfl)) rfl
theorem tb_y51 : pm_y 51 = (⟨"LentNames$CustomReader", "askedWord", "(I)Ljava/lang/String;"⟩ : MethodName) := rfl
theorem tb_b51 : pm_b 51 = prog_5_method_9_code := rfl
theorem tb_m51 : iv_MW 51 ∈ iv_T := by
  rw [iv_MW0 (show pm_h 51 = [] from rfl), tb_y51, tb_b51, show (pg_i 51).1 = 1 from rfl, show pm_r 51 = (Option.some (Jvm.ClassFile.FieldType.object "java/lang/String")) from rfl]
  exact tb_g (tb_5 (List.mem_of_getElem? (i := 231) rfl)) rfl
theorem tb_y52 : pm_y 52 = (⟨"LentNames$PlanSearch", "<init>", "(LLentNames$Calendar;)V"⟩ : MethodName) := rfl
theorem tb_b52 : pm_b 52 = prog_6_method_1_code := rfl
theorem tb_m52 : iv_MW 52 ∈ iv_T := by
  rw [iv_MW0 (show pm_h 52 = [] from rfl), tb_y52, tb_b52, show (pg_i 52).1 = 2 from rfl, show pm_r 52 = (Option.none : Option Jvm.ClassFile.FieldType) from rfl]
  exact tb_g (tb_2 (List.mem_of_getElem? (i := 33) rfl)) rfl
theorem tb_y53 : pm_y 53 = (⟨"LentNames$PlanSearch", "most", "()I"⟩ : MethodName) := rfl
theorem tb_b53 : pm_b 53 = prog_6_method_2_code := rfl
theorem tb_m53 : iv_MW 53 ∈ iv_T := by
  rw [iv_MW0 (show pm_h 53 = [] from rfl), tb_y53, tb_b53, show (pg_i 53).1 = 1 from rfl, show pm_r 53 = (Option.some Jvm.ClassFile.FieldType.int) from rfl]
  exact tb_g (tb_6 (List.mem_of_getElem? (i := 75) rfl)) rfl
theorem tb_y54 : pm_y 54 = (⟨"LentNames$PlanSearch", "endsWithFirst", "()Z"⟩ : MethodName) := rfl
theorem tb_b54 : pm_b 54 = prog_6_method_3_code := rfl
theorem tb_m54 : iv_MW 54 ∈ iv_T := by
  rw [iv_MW0 (show pm_h 54 = [] from rfl), tb_y54, tb_b54, show (pg_i 54).1 = 1 from rfl, show pm_r 54 = (Option.some Jvm.ClassFile.FieldType.boolean) from rfl]
  exact tb_g (tb_6 (List.mem_of_getElem? (i := 142) rfl)) rfl
theorem tb_y55 : pm_y 55 = (⟨"LentNames$PlanSearch", "setEnds", "()V"⟩ : MethodName) := rfl
theorem tb_b55 : pm_b 55 = prog_6_method_4_code := rfl
theorem tb_m55 : iv_MW 55 ∈ iv_T := by
  rw [iv_MW0 (show pm_h 55 = [] from rfl), tb_y55, tb_b55, show (pg_i 55).1 = 2 from rfl, show pm_r 55 = (Option.none : Option Jvm.ClassFile.FieldType) from rfl]
  exact tb_g (tb_6 (List.mem_of_getElem? (i := 60) rfl)) rfl
theorem tb_y56 : pm_y 56 = (⟨"LentNames$PlanSearch", "lacks", "()Z"⟩ : MethodName) := rfl
theorem tb_b56 : pm_b 56 = prog_6_method_5_code := rfl
theorem tb_m56 : iv_MW 56 ∈ iv_T := by
  rw [iv_MW0 (show pm_h 56 = [] from rfl), tb_y56, tb_b56, show (pg_i 56).1 = 1 from rfl, show pm_r 56 = (Option.some Jvm.ClassFile.FieldType.boolean) from rfl]
  exact tb_g (tb_6 (List.mem_of_getElem? (i := 88) rfl)) rfl
theorem tb_y57 : pm_y 57 = (⟨"LentNames$PlanSearch", "lacksWish", "()Z"⟩ : MethodName) := rfl
theorem tb_b57 : pm_b 57 = prog_6_method_6_code := rfl
theorem tb_m57 : iv_MW 57 ∈ iv_T := by
  rw [iv_MW0 (show pm_h 57 = [] from rfl), tb_y57, tb_b57, show (pg_i 57).1 = 5 from rfl, show pm_r 57 = (Option.some Jvm.ClassFile.FieldType.boolean) from rfl]
  exact tb_g (tb_6 (List.mem_of_getElem? (i := 92) rfl)) rfl
theorem tb_y58 : pm_y 58 = (⟨"LentNames$PlanSearch", "lacksName", "()Z"⟩ : MethodName) := rfl
theorem tb_b58 : pm_b 58 = prog_6_method_7_code := rfl
theorem tb_m58 : iv_MW 58 ∈ iv_T := by
  rw [iv_MW0 (show pm_h 58 = [] from rfl), tb_y58, tb_b58, show (pg_i 58).1 = 4 from rfl, show pm_r 58 = (Option.some Jvm.ClassFile.FieldType.boolean) from rfl]
  exact tb_g (tb_6 (List.mem_of_getElem? (i := 105) rfl)) rfl
theorem tb_y59 : pm_y 59 = (⟨"LentNames$SecretSearch", "<init>", "(LLentNames$Calendar;)V"⟩ : MethodName) := rfl
theorem tb_b59 : pm_b 59 = prog_8_method_1_code := rfl
theorem tb_m59 : iv_MW 59 ∈ iv_T := by
  rw [iv_MW0 (show pm_h 59 = [] from rfl), tb_y59, tb_b59, show (pg_i 59).1 = 2 from rfl, show pm_r 59 = (Option.none : Option Jvm.ClassFile.FieldType) from rfl]
  exact tb_g (tb_2 (List.mem_of_getElem? (i := 121) rfl)) rfl
theorem tb_y60 : pm_y 60 = (⟨"LentNames$SecretSearch", "most", "()I"⟩ : MethodName) := rfl
theorem tb_b60 : pm_b 60 = prog_8_method_2_code := rfl
theorem tb_m60 : iv_MW 60 ∈ iv_T := by
  rw [iv_MW0 (show pm_h 60 = [] from rfl), tb_y60, tb_b60, show (pg_i 60).1 = 1 from rfl, show pm_r 60 = (Option.some Jvm.ClassFile.FieldType.int) from rfl]
  exact tb_g (tb_6 (List.mem_of_getElem? (i := 78) rfl)) rfl
theorem tb_y61 : pm_y 61 = (⟨"LentNames$SecretSearch", "endsWithFirst", "()Z"⟩ : MethodName) := rfl
theorem tb_b61 : pm_b 61 = prog_8_method_3_code := rfl
theorem tb_m61 : iv_MW 61 ∈ iv_T := by
  rw [iv_MW0 (show pm_h 61 = [] from rfl), tb_y61, tb_b61, show (pg_i 61).1 = 1 from rfl, show pm_r 61 = (Option.some Jvm.ClassFile.FieldType.boolean) from rfl]
  exact tb_g (tb_6 (List.mem_of_getElem? (i := 145) rfl)) rfl
theorem tb_y62 : pm_y 62 = (⟨"LentNames$SecretSearch", "setEnds", "()V"⟩ : MethodName) := rfl
theorem tb_b62 : pm_b 62 = prog_8_method_4_code := rfl
theorem tb_m62 : iv_MW 62 ∈ iv_T := by
  rw [iv_MW0 (show pm_h 62 = [] from rfl), tb_y62, tb_b62, show (pg_i 62).1 = 3 from rfl, show pm_r 62 = (Option.none : Option Jvm.ClassFile.FieldType) from rfl]
  exact tb_g (tb_6 (List.mem_of_getElem? (i := 63) rfl)) rfl
theorem tb_y63 : pm_y 63 = (⟨"LentNames$SecretSearch", "lacks", "()Z"⟩ : MethodName) := rfl
theorem tb_b63 : pm_b 63 = prog_8_method_5_code := rfl
theorem tb_m63 : iv_MW 63 ∈ iv_T := by
  rw [iv_MW0 (show pm_h 63 = [] from rfl), tb_y63, tb_b63, show (pg_i 63).1 = 3 from rfl, show pm_r 63 = (Option.some Jvm.ClassFile.FieldType.boolean) from rfl]
  exact tb_g (tb_6 (List.mem_of_getElem? (i := 110) rfl)) rfl
theorem tb_y64 : pm_y 64 = (⟨"LentNames$SecretSearch", "isMet", "(I)Z"⟩ : MethodName) := rfl
theorem tb_b64 : pm_b 64 = prog_8_method_6_code := rfl
theorem tb_m64 : iv_MW 64 ∈ iv_T := by
  rw [iv_MW0 (show pm_h 64 = [] from rfl), tb_y64, tb_b64, show (pg_i 64).1 = 5 from rfl, show pm_r 64 = (Option.some Jvm.ClassFile.FieldType.boolean) from rfl]
  exact tb_g (tb_6 (List.mem_of_getElem? (i := 114) rfl)) rfl
theorem tb_y65 : pm_y 65 = (⟨"LentNames$Table", "<init>", "(II)V"⟩ : MethodName) := rfl
theorem tb_b65 : pm_b 65 = prog_9_method_1_code := rfl
theorem tb_m65 : iv_MW 65 ∈ iv_T := by
  rw [iv_MW0 (show pm_h 65 = [] from rfl), tb_y65, tb_b65, show (pg_i 65).1 = 3 from rfl, show pm_r 65 = (Option.none : Option Jvm.ClassFile.FieldType) from rfl]
  exact tb_g (tb_1 (List.mem_of_getElem? (i := 66) rfl)) rfl
theorem tb_y66 : pm_y 66 = (⟨"LentNames$Table", "isFull", "()Z"⟩ : MethodName) := rfl
theorem tb_b66 : pm_b 66 = prog_9_method_2_code := rfl
theorem tb_m66 : iv_MW 66 ∈ iv_T := by
  rw [iv_MW0 (show pm_h 66 = [] from rfl), tb_y66, tb_b66, show (pg_i 66).1 = 1 from rfl, show pm_r 66 = (Option.some Jvm.ClassFile.FieldType.boolean) from rfl]
  exact tb_g (tb_4 (List.mem_of_getElem? (i := 36) rfl)) rfl
theorem tb_y67 : pm_y 67 = (⟨"LentNames$Table", "addRow", "()I"⟩ : MethodName) := rfl
theorem tb_b67 : pm_b 67 = prog_9_method_3_code := rfl
theorem tb_m67 : iv_MW 67 ∈ iv_T := by
  rw [iv_MW0 (show pm_h 67 = [] from rfl), tb_y67, tb_b67, show (pg_i 67).1 = 2 from rfl, show pm_r 67 = (Option.some Jvm.ClassFile.FieldType.int) from rfl]
  exact tb_g (tb_4 (List.mem_of_getElem? (i := 49) rfl)) rfl
theorem tb_y68 : pm_y 68 = (⟨"LentNames$Table", "at", "(II)I"⟩ : MethodName) := rfl
theorem tb_b68 : pm_b 68 = prog_9_method_4_code := rfl
theorem tb_m68 : iv_MW 68 ∈ iv_T := by
  rw [iv_MW0 (show pm_h 68 = [] from rfl), tb_y68, tb_b68, show (pg_i 68).1 = 4 from rfl, show pm_r 68 = (Option.some Jvm.ClassFile.FieldType.int) from rfl]
  exact tb_g (tb_2 (List.mem_of_getElem? (i := 164) rfl)) rfl
theorem tb_y69 : pm_y 69 = (⟨"LentNames$Table", "put", "(III)V"⟩ : MethodName) := rfl
theorem tb_b69 : pm_b 69 = prog_9_method_5_code := rfl
theorem tb_m69 : iv_MW 69 ∈ iv_T := by
  rw [iv_MW0 (show pm_h 69 = [] from rfl), tb_y69, tb_b69, show (pg_i 69).1 = 5 from rfl, show pm_r 69 = (Option.none : Option Jvm.ClassFile.FieldType) from rfl]
  exact tb_g (tb_4 (List.mem_of_getElem? (i := 54) rfl)) rfl
theorem tb_y70 : pm_y 70 = (⟨"LentNames$Table", "copyRows", "(LLentNames$Table;)V"⟩ : MethodName) := rfl
theorem tb_b70 : pm_b 70 = prog_9_method_6_code := rfl
theorem tb_m70 : iv_MW 70 ∈ iv_T := by
  rw [iv_MW0 (show pm_h 70 = [] from rfl), tb_y70, tb_b70, show (pg_i 70).1 = 2 from rfl, show pm_r 70 = (Option.none : Option Jvm.ClassFile.FieldType) from rfl]
  exact tb_g (tb_3 (List.mem_of_getElem? (i := 150) rfl)) rfl
theorem tb_y71 : pm_y 71 = (⟨"LentNames$Tape", "<init>", "()V"⟩ : MethodName) := rfl
theorem tb_b71 : pm_b 71 = prog_10_method_1_code := rfl
theorem tb_m71 : iv_MW 71 ∈ iv_T := by
  rw [iv_MW0 (show pm_h 71 = [] from rfl), tb_y71, tb_b71, show (pg_i 71).1 = 1 from rfl, show pm_r 71 = (Option.none : Option Jvm.ClassFile.FieldType) from rfl]
  exact tb_g (tb_1 (List.mem_of_getElem? (i := 41) rfl)) rfl
theorem tb_y72 : pm_y 72 = (⟨"LentNames$Tape", "append", "(I)V"⟩ : MethodName) := rfl
theorem tb_b72 : pm_b 72 = prog_10_method_2_code := rfl
theorem tb_m72 : iv_MW 72 ∈ iv_T := by
  rw [iv_MW0 (show pm_h 72 = [] from rfl), tb_y72, tb_b72, show (pg_i 72).1 = 3 from rfl, show pm_r 72 = (Option.none : Option Jvm.ClassFile.FieldType) from rfl]
  exact tb_g (tb_3 (List.mem_of_getElem? (i := 80) rfl)) rfl
theorem tb_y73 : pm_y 73 = (⟨"LentNames$Tape", "rewind", "()V"⟩ : MethodName) := rfl
theorem tb_b73 : pm_b 73 = prog_10_method_3_code := rfl
theorem tb_m73 : iv_MW 73 ∈ iv_T := by
  rw [iv_MW0 (show pm_h 73 = [] from rfl), tb_y73, tb_b73, show (pg_i 73).1 = 1 from rfl, show pm_r 73 = (Option.none : Option Jvm.ClassFile.FieldType) from rfl]
  exact tb_g (tb_3 (List.mem_of_getElem? (i := 207) rfl)) rfl
theorem tb_y74 : pm_y 74 = (⟨"LentNames$Tape", "isOver", "()Z"⟩ : MethodName) := rfl
theorem tb_b74 : pm_b 74 = prog_10_method_4_code := rfl
theorem tb_m74 : iv_MW 74 ∈ iv_T := by
  rw [iv_MW0 (show pm_h 74 = [] from rfl), tb_y74, tb_b74, show (pg_i 74).1 = 1 from rfl, show pm_r 74 = (Option.some Jvm.ClassFile.FieldType.boolean) from rfl]
  exact tb_g (tb_3 (List.mem_of_getElem? (i := 215) rfl)) rfl
theorem tb_y75 : pm_y 75 = (⟨"LentNames$Tape", "isSign", "(C)Z"⟩ : MethodName) := rfl
theorem tb_b75 : pm_b 75 = prog_10_method_5_code := rfl
theorem tb_m75 : iv_MW 75 ∈ iv_T := by
  rw [iv_MW0 (show pm_h 75 = [] from rfl), tb_y75, tb_b75, show (pg_i 75).1 = 2 from rfl, show pm_r 75 = (Option.some Jvm.ClassFile.FieldType.boolean) from rfl]
  exact tb_g (tb_4 (List.mem_of_getElem? (i := 128) rfl)) rfl
theorem tb_y76 : pm_y 76 = (⟨"LentNames$Tape", "takesSign", "(C)Z"⟩ : MethodName) := rfl
theorem tb_b76 : pm_b 76 = prog_10_method_6_code := rfl
theorem tb_m76 : iv_MW 76 ∈ iv_T := by
  rw [iv_MW0 (show pm_h 76 = [] from rfl), tb_y76, tb_b76, show (pg_i 76).1 = 2 from rfl, show pm_r 76 = (Option.some Jvm.ClassFile.FieldType.boolean) from rfl]
  exact tb_g (tb_4 (List.mem_of_getElem? (i := 124) rfl)) rfl
theorem tb_y77 : pm_y 77 = (⟨"LentNames$Tape", "isWord", "(Ljava/lang/String;)Z"⟩ : MethodName) := rfl
theorem tb_b77 : pm_b 77 = prog_10_method_7_code := rfl
theorem tb_m77 : iv_MW 77 ∈ iv_T := by
  rw [iv_MW0 (show pm_h 77 = [] from rfl), tb_y77, tb_b77, show (pg_i 77).1 = 4 from rfl, show pm_r 77 = (Option.some Jvm.ClassFile.FieldType.boolean) from rfl]
  exact tb_g (tb_3 (List.mem_of_getElem? (i := 224) rfl)) rfl
theorem tb_y78 : pm_y 78 = (⟨"LentNames$Tape", "takesWord", "(Ljava/lang/String;)Z"⟩ : MethodName) := rfl
theorem tb_b78 : pm_b 78 = prog_10_method_8_code := rfl
theorem tb_m78 : iv_MW 78 ∈ iv_T := by
  rw [iv_MW0 (show pm_h 78 = [] from rfl), tb_y78, tb_b78, show (pg_i 78).1 = 2 from rfl, show pm_r 78 = (Option.some Jvm.ClassFile.FieldType.boolean) from rfl]
  exact tb_g (tb_4 (List.mem_of_getElem? (i := 40) rfl)) rfl
theorem tb_y79 : pm_y 79 = (⟨"LentNames$Tape", "takesNumber", "(II)I"⟩ : MethodName) := rfl
theorem tb_b79 : pm_b 79 = prog_10_method_9_code := rfl
theorem tb_m79 : iv_MW 79 ∈ iv_T := by
  rw [iv_MW0 (show pm_h 79 = [] from rfl), tb_y79, tb_b79, show (pg_i 79).1 = 5 from rfl, show pm_r 79 = (Option.some Jvm.ClassFile.FieldType.int) from rfl]
  exact tb_g (tb_4 (List.mem_of_getElem? (i := 62) rfl)) rfl
theorem tb_y80 : pm_y 80 = (⟨"LentNames$Tape", "moveTo", "(I)V"⟩ : MethodName) := rfl
theorem tb_b80 : pm_b 80 = prog_10_method_10_code := rfl
theorem tb_m80 : iv_MW 80 ∈ iv_T := by
  rw [iv_MW0 (show pm_h 80 = [] from rfl), tb_y80, tb_b80, show (pg_i 80).1 = 2 from rfl, show pm_r 80 = (Option.none : Option Jvm.ClassFile.FieldType) from rfl]
  exact tb_g (tb_3 (List.mem_of_getElem? (i := 211) rfl)) rfl
theorem tb_y81 : pm_y 81 = (⟨"LentNames$Tape", "byteAt", "(I)I"⟩ : MethodName) := rfl
theorem tb_b81 : pm_b 81 = prog_10_method_11_code := rfl
theorem tb_m81 : iv_MW 81 ∈ iv_T := by
  rw [iv_MW0 (show pm_h 81 = [] from rfl), tb_y81, tb_b81, show (pg_i 81).1 = 2 from rfl, show pm_r 81 = (Option.some Jvm.ClassFile.FieldType.int) from rfl]
  exact tb_g (tb_4 (List.mem_of_getElem? (i := 66) rfl)) rfl
theorem tb_y82 : pm_y 82 = (⟨"LentNames$Tape", "isDigit", "(I)Z"⟩ : MethodName) := rfl
theorem tb_b82 : pm_b 82 = prog_10_method_12_code := rfl
theorem tb_m82 : iv_MW 82 ∈ iv_T := by
  rw [iv_MW0 (show pm_h 82 = [] from rfl), tb_y82, tb_b82, show (pg_i 82).1 = 1 from rfl, show pm_r 82 = (Option.some Jvm.ClassFile.FieldType.boolean) from rfl]
  exact tb_g (tb_4 (List.mem_of_getElem? (i := 69) rfl)) rfl
theorem tb_y83 : pm_y 83 = (⟨"LentNames$Town", "<init>", "()V"⟩ : MethodName) := rfl
theorem tb_b83 : pm_b 83 = prog_11_method_1_code := rfl
theorem tb_m83 : iv_MW 83 ∈ iv_T := by
  rw [iv_MW0 (show pm_h 83 = [] from rfl), tb_y83, tb_b83, show (pg_i 83).1 = 2 from rfl, show pm_r 83 = (Option.none : Option Jvm.ClassFile.FieldType) from rfl]
  exact tb_g (tb_1 (List.mem_of_getElem? (i := 60) rfl)) rfl
theorem tb_y84 : pm_y 84 = (⟨"LentNames$Town", "copy", "(LLentNames$Town;)V"⟩ : MethodName) := rfl
theorem tb_b84 : pm_b 84 = prog_11_method_2_code := rfl
theorem tb_m84 : iv_MW 84 ∈ iv_T := by
  rw [iv_MW0 (show pm_h 84 = [] from rfl), tb_y84, tb_b84, show (pg_i 84).1 = 2 from rfl, show pm_r 84 = (Option.none : Option Jvm.ClassFile.FieldType) from rfl]
  exact tb_g (tb_3 (List.mem_of_getElem? (i := 146) rfl)) rfl
theorem tb_y85 : pm_y 85 = (⟨"LentNames$Town", "rightDay", "(I)I"⟩ : MethodName) := rfl
theorem tb_b85 : pm_b 85 = prog_11_method_3_code := rfl
theorem tb_m85 : iv_MW 85 ∈ iv_T := by
  rw [iv_MW0 (show pm_h 85 = [] from rfl), tb_y85, tb_b85, show (pg_i 85).1 = 2 from rfl, show pm_r 85 = (Option.some Jvm.ClassFile.FieldType.int) from rfl]
  exact tb_g (tb_2 (List.mem_of_getElem? (i := 160) rfl)) rfl
theorem tb_y86 : pm_y 86 = (⟨"LentNames$Town", "lastDay", "(I)I"⟩ : MethodName) := rfl
theorem tb_b86 : pm_b 86 = prog_11_method_4_code := rfl
theorem tb_m86 : iv_MW 86 ∈ iv_T := by
  rw [iv_MW0 (show pm_h 86 = [] from rfl), tb_y86, tb_b86, show (pg_i 86).1 = 2 from rfl, show pm_r 86 = (Option.some Jvm.ClassFile.FieldType.int) from rfl]
  exact tb_g (tb_2 (List.mem_of_getElem? (i := 168) rfl)) rfl
theorem tb_y87 : pm_y 87 = (⟨"LentNames$Town", "knownBy", "(I)I"⟩ : MethodName) := rfl
theorem tb_b87 : pm_b 87 = prog_11_method_5_code := rfl
theorem tb_m87 : iv_MW 87 ∈ iv_T := by
  rw [iv_MW0 (show pm_h 87 = [] from rfl), tb_y87, tb_b87, show (pg_i 87).1 = 4 from rfl, show pm_r 87 = (Option.some Jvm.ClassFile.FieldType.int) from rfl]
  exact tb_g (tb_6 (List.mem_of_getElem? (i := 67) rfl)) rfl
theorem tb_y88 : pm_y 88 = (⟨"LentNames$Town", "dying", "()I"⟩ : MethodName) := rfl
theorem tb_b88 : pm_b 88 = prog_11_method_6_code := rfl
theorem tb_m88 : iv_MW 88 ∈ iv_T := by
  rw [iv_MW0 (show pm_h 88 = [] from rfl), tb_y88, tb_b88, show (pg_i 88).1 = 3 from rfl, show pm_r 88 = (Option.some Jvm.ClassFile.FieldType.int) from rfl]
  exact tb_g (tb_3 (List.mem_of_getElem? (i := 176) rfl)) rfl
theorem tb_y89 : pm_y 89 = (⟨"LentNames$Town", "wishes", "()I"⟩ : MethodName) := rfl
theorem tb_b89 : pm_b 89 = prog_11_method_7_code := rfl
theorem tb_m89 : iv_MW 89 ∈ iv_T := by
  rw [iv_MW0 (show pm_h 89 = [] from rfl), tb_y89, tb_b89, show (pg_i 89).1 = 3 from rfl, show pm_r 89 = (Option.some Jvm.ClassFile.FieldType.int) from rfl]
  exact tb_g (tb_3 (List.mem_of_getElem? (i := 186) rfl)) rfl
theorem tb_y90 : pm_y 90 = (⟨"LentNames$Town", "coins", "()I"⟩ : MethodName) := rfl
theorem tb_b90 : pm_b 90 = prog_11_method_8_code := rfl
theorem tb_m90 : iv_MW 90 ∈ iv_T := by
  rw [iv_MW0 (show pm_h 90 = [] from rfl), tb_y90, tb_b90, show (pg_i 90).1 = 3 from rfl, show pm_r 90 = (Option.some Jvm.ClassFile.FieldType.int) from rfl]
  exact tb_g (tb_3 (List.mem_of_getElem? (i := 190) rfl)) rfl
theorem tb_y91 : pm_y 91 = (⟨"LentNames$TownReader", "<init>", "(LLentNames$Tape;LLentNames$Town;)V"⟩ : MethodName) := rfl
theorem tb_b91 : pm_b 91 = prog_12_method_1_code := rfl
theorem tb_m91 : iv_MW 91 ∈ iv_T := by
  rw [iv_MW0 (show pm_h 91 = [] from rfl), tb_y91, tb_b91, show (pg_i 91).1 = 3 from rfl, show pm_r 91 = (Option.none : Option Jvm.ClassFile.FieldType) from rfl]
  exact tb_g (tb_2 (List.mem_of_getElem? (i := 7) rfl)) rfl
theorem tb_y92 : pm_y 92 = (⟨"LentNames$TownReader", "reads", "(LLentNames$Town;)Z"⟩ : MethodName) := rfl
theorem tb_b92 : pm_b 92 = prog_12_method_2_code := rfl
theorem tb_m92 : iv_MW 92 ∈ iv_T := by
  rw [iv_MW0 (show pm_h 92 = [] from rfl), tb_y92, tb_b92, show (pg_i 92).1 = 3 from rfl, show pm_r 92 = (Option.some Jvm.ClassFile.FieldType.boolean) from rfl]
  exact tb_g (tb_3 (List.mem_of_getElem? (i := 203) rfl)) rfl
theorem tb_y93 : pm_y 93 = (⟨"LentNames$TownReader", "readLine", "()Z"⟩ : MethodName) := rfl
theorem tb_b93 : pm_b 93 = prog_12_method_3_code := rfl
theorem tb_m93 : iv_MW 93 ∈ iv_T := by
  rw [iv_MW0 (show pm_h 93 = [] from rfl), tb_y93, tb_b93, show (pg_i 93).1 = 1 from rfl, show pm_r 93 = (Option.some Jvm.ClassFile.FieldType.boolean) from rfl]
  exact tb_g (tb_3 (List.mem_of_getElem? (i := 219) rfl)) rfl
theorem tb_y94 : pm_y 94 = (⟨"LentNames$TownReader", "readLoan", "()Z"⟩ : MethodName) := rfl
theorem tb_b94 : pm_b 94 = prog_12_method_4_code := rfl
theorem tb_m94 : iv_MW 94 ∈ iv_T := by
  rw [iv_MW0 (show pm_h 94 = [] from rfl), tb_y94, tb_b94, show (pg_i 94).1 = 2 from rfl, show pm_r 94 = (Option.some Jvm.ClassFile.FieldType.boolean) from rfl]
  exact tb_g (tb_4 (List.mem_of_getElem? (i := 45) rfl)) rfl
theorem tb_y95 : pm_y 95 = (⟨"LentNames$TownReader", "readLate", "()Z"⟩ : MethodName) := rfl
theorem tb_b95 : pm_b 95 = prog_12_method_5_code := rfl
theorem tb_m95 : iv_MW 95 ∈ iv_T := by
  rw [iv_MW0 (show pm_h 95 = [] from rfl), tb_y95, tb_b95, show (pg_i 95).1 = 2 from rfl, show pm_r 95 = (Option.some Jvm.ClassFile.FieldType.boolean) from rfl]
  exact tb_g (tb_4 (List.mem_of_getElem? (i := 108) rfl)) rfl
theorem tb_y96 : pm_y 96 = (⟨"LentNames$TownReader", "readDeath", "()Z"⟩ : MethodName) := rfl
theorem tb_b96 : pm_b 96 = prog_12_method_6_code := rfl
theorem tb_m96 : iv_MW 96 ∈ iv_T := by
  rw [iv_MW0 (show pm_h 96 = [] from rfl), tb_y96, tb_b96, show (pg_i 96).1 = 3 from rfl, show pm_r 96 = (Option.some Jvm.ClassFile.FieldType.boolean) from rfl]
  exact tb_g (tb_4 (List.mem_of_getElem? (i := 114) rfl)) rfl
theorem tb_y97 : pm_y 97 = (⟨"LentNames$TownReader", "readCourt", "()Z"⟩ : MethodName) := rfl
theorem tb_b97 : pm_b 97 = prog_12_method_7_code := rfl
theorem tb_m97 : iv_MW 97 ∈ iv_T := by
  rw [iv_MW0 (show pm_h 97 = [] from rfl), tb_y97, tb_b97, show (pg_i 97).1 = 2 from rfl, show pm_r 97 = (Option.some Jvm.ClassFile.FieldType.boolean) from rfl]
  exact tb_g (tb_4 (List.mem_of_getElem? (i := 120) rfl)) rfl
theorem tb_y98 : pm_y 98 = (⟨"LentNames$TownReader", "readLetter", "()Z"⟩ : MethodName) := rfl
theorem tb_b98 : pm_b 98 = prog_12_method_8_code := rfl
theorem tb_m98 : iv_MW 98 ∈ iv_T := by
  rw [iv_MW0 (show pm_h 98 = [] from rfl), tb_y98, tb_b98, show (pg_i 98).1 = 2 from rfl, show pm_r 98 = (Option.some Jvm.ClassFile.FieldType.boolean) from rfl]
  exact tb_g (tb_4 (List.mem_of_getElem? (i := 80) rfl)) rfl
theorem tb_y99 : pm_y 99 = (⟨"LentNames$TownReader", "readDebt", "()Z"⟩ : MethodName) := rfl
theorem tb_b99 : pm_b 99 = prog_12_method_9_code := rfl
theorem tb_m99 : iv_MW 99 ∈ iv_T := by
  rw [iv_MW0 (show pm_h 99 = [] from rfl), tb_y99, tb_b99, show (pg_i 99).1 = 3 from rfl, show pm_r 99 = (Option.some Jvm.ClassFile.FieldType.boolean) from rfl]
  exact tb_g (tb_4 (List.mem_of_getElem? (i := 87) rfl)) rfl
theorem tb_y100 : pm_y 100 = (⟨"LentNames$TownReader", "readSighting", "()Z"⟩ : MethodName) := rfl
theorem tb_b100 : pm_b 100 = prog_12_method_10_code := rfl
theorem tb_m100 : iv_MW 100 ∈ iv_T := by
  rw [iv_MW0 (show pm_h 100 = [] from rfl), tb_y100, tb_b100, show (pg_i 100).1 = 2 from rfl, show pm_r 100 = (Option.some Jvm.ClassFile.FieldType.boolean) from rfl]
  exact tb_g (tb_4 (List.mem_of_getElem? (i := 96) rfl)) rfl
theorem tb_y101 : pm_y 101 = (⟨"LentNames$TownReader", "readBodies", "(I)Z"⟩ : MethodName) := rfl
theorem tb_b101 : pm_b 101 = prog_12_method_11_code := rfl
theorem tb_m101 : iv_MW 101 ∈ iv_T := by
  rw [iv_MW0 (show pm_h 101 = [] from rfl), tb_y101, tb_b101, show (pg_i 101).1 = 5 from rfl, show pm_r 101 = (Option.some Jvm.ClassFile.FieldType.boolean) from rfl]
  exact tb_g (tb_4 (List.mem_of_getElem? (i := 101) rfl)) rfl
theorem tb_y102 : pm_y 102 = (⟨"LentNames$TownReader", "readInto", "(LLentNames$Table;IIII)Z"⟩ : MethodName) := rfl
theorem tb_b102 : pm_b 102 = prog_12_method_12_code := rfl
theorem tb_m102 : iv_MW 102 ∈ iv_T := by
  rw [iv_MW0 (show pm_h 102 = [] from rfl), tb_y102, tb_b102, show (pg_i 102).1 = 7 from rfl, show pm_r 102 = (Option.some Jvm.ClassFile.FieldType.boolean) from rfl]
  exact tb_g (tb_4 (List.mem_of_getElem? (i := 58) rfl)) rfl
theorem tb_y103 : pm_y 103 = (⟨"LentNames", "<init>", "()V"⟩ : MethodName) := rfl
theorem tb_b103 : pm_b 103 = prog_1_method_1_code := rfl
theorem tb_m103 : iv_MW 103 ∈ iv_T := by
  rw [iv_MW0 (show pm_h 103 = [] from rfl), tb_y103, tb_b103, show (pg_i 103).1 = 1 from rfl, show pm_r 103 = (Option.none : Option Jvm.ClassFile.FieldType) from rfl]
  exact tb_g (tb_1 (List.mem_of_getElem? (i := 33) rfl)) rfl
theorem tb_y104 : pm_y 104 = (⟨"LentNames", "feed", "(IIIII)I"⟩ : MethodName) := rfl
theorem tb_b104 : pm_b 104 = prog_1_method_2_code := rfl
theorem tb_m104 : iv_MW 104 ∈ iv_T := by
  rw [iv_MW0 (show pm_h 104 = [] from rfl), tb_y104, tb_b104, show (pg_i 104).1 = 6 from rfl, show pm_r 104 = (Option.some Jvm.ClassFile.FieldType.int) from rfl]
  exact tb_g (tb_3 (List.mem_of_getElem? (i := 76) rfl)) rfl
theorem tb_y105 : pm_y 105 = (⟨"LentNames", "end", "(I)Z"⟩ : MethodName) := rfl
theorem tb_b105 : pm_b 105 = prog_1_method_3_code := rfl
theorem tb_m105 : iv_MW 105 ∈ iv_T := by
  rw [iv_MW0 (show pm_h 105 = [] from rfl), tb_y105, tb_b105, show (pg_i 105).1 = 2 from rfl, show pm_r 105 = (Option.some Jvm.ClassFile.FieldType.boolean) from rfl]
  exact tb_g (tb_3 (List.mem_of_getElem? (i := 84) rfl)) rfl
theorem tb_y106 : pm_y 106 = (⟨"LentNames", "tell", "()I"⟩ : MethodName) := rfl
theorem tb_b106 : pm_b 106 = prog_1_method_4_code := rfl
theorem tb_m106 : iv_MW 106 ∈ iv_T := by
  rw [iv_MW0 (show pm_h 106 = [] from rfl), tb_y106, tb_b106, show (pg_i 106).1 = 2 from rfl, show pm_r 106 = (Option.some Jvm.ClassFile.FieldType.int) from rfl]
  exact tb_g (tb_3 (List.mem_of_getElem? (i := 199) rfl)) rfl
theorem tb_y107 : pm_y 107 = (⟨"LentNames", "fault", "()I"⟩ : MethodName) := rfl
theorem tb_b107 : pm_b 107 = prog_1_method_5_code := rfl
theorem tb_m107 : iv_MW 107 ∈ iv_T := by
  rw [iv_MW0 (show pm_h 107 = [] from rfl), tb_y107, tb_b107, show (pg_i 107).1 = 1 from rfl, show pm_r 107 = (Option.some Jvm.ClassFile.FieldType.int) from rfl]
  exact tb_g (tb_3 (List.mem_of_getElem? (i := 88) rfl)) rfl
theorem tb_y108 : pm_y 108 = (⟨"LentNames", "custom", "()I"⟩ : MethodName) := rfl
theorem tb_b108 : pm_b 108 = prog_1_method_6_code := rfl
theorem tb_m108 : iv_MW 108 ∈ iv_T := by
  rw [iv_MW0 (show pm_h 108 = [] from rfl), tb_y108, tb_b108, show (pg_i 108).1 = 2 from rfl, show pm_r 108 = (Option.some Jvm.ClassFile.FieldType.int) from rfl]
  exact tb_g (tb_5 (List.mem_of_getElem? (i := 179) rfl)) rfl
theorem tb_y109 : pm_y 109 = (⟨"LentNames", "people", "(I)V"⟩ : MethodName) := rfl
theorem tb_b109 : pm_b 109 = prog_1_method_7_code := rfl
theorem tb_m109 : iv_MW 109 ∈ iv_T := by
  rw [iv_MW0 (show pm_h 109 = [] from rfl), tb_y109, tb_b109, show (pg_i 109).1 = 2 from rfl, show pm_r 109 = (Option.none : Option Jvm.ClassFile.FieldType) from rfl]
  exact tb_g (tb_4 (List.mem_of_getElem? (i := 230) rfl)) rfl
theorem tb_y110 : pm_y 110 = (⟨"LentNames", "bears", "(II)I"⟩ : MethodName) := rfl
theorem tb_b110 : pm_b 110 = prog_1_method_8_code := rfl
theorem tb_m110 : iv_MW 110 ∈ iv_T := by
  rw [iv_MW0 (show pm_h 110 = [] from rfl), tb_y110, tb_b110, show (pg_i 110).1 = 3 from rfl, show pm_r 110 = (Option.some Jvm.ClassFile.FieldType.int) from rfl]
  exact tb_g (tb_5 (List.mem_of_getElem? (i := 15) rfl)) rfl
theorem tb_y111 : pm_y 111 = (⟨"LentNames", "names", "(II)I"⟩ : MethodName) := rfl
theorem tb_b111 : pm_b 111 = prog_1_method_9_code := rfl
theorem tb_m111 : iv_MW 111 ∈ iv_T := by
  rw [iv_MW0 (show pm_h 111 = [] from rfl), tb_y111, tb_b111, show (pg_i 111).1 = 3 from rfl, show pm_r 111 = (Option.some Jvm.ClassFile.FieldType.int) from rfl]
  exact tb_g (tb_5 (List.mem_of_getElem? (i := 46) rfl)) rfl
theorem tb_y112 : pm_y 112 = (⟨"LentNames", "how", "(II)I"⟩ : MethodName) := rfl
theorem tb_b112 : pm_b 112 = prog_1_method_10_code := rfl
theorem tb_m112 : iv_MW 112 ∈ iv_T := by
  rw [iv_MW0 (show pm_h 112 = [] from rfl), tb_y112, tb_b112, show (pg_i 112).1 = 3 from rfl, show pm_r 112 = (Option.some Jvm.ClassFile.FieldType.int) from rfl]
  exact tb_g (tb_5 (List.mem_of_getElem? (i := 62) rfl)) rfl
theorem tb_y113 : pm_y 113 = (⟨"LentNames", "row", "(III)I"⟩ : MethodName) := rfl
theorem tb_b113 : pm_b 113 = prog_1_method_11_code := rfl
theorem tb_m113 : iv_MW 113 ∈ iv_T := by
  rw [iv_MW0 (show pm_h 113 = [] from rfl), tb_y113, tb_b113, show (pg_i 113).1 = 4 from rfl, show pm_r 113 = (Option.some Jvm.ClassFile.FieldType.int) from rfl]
  exact tb_g (tb_5 (List.mem_of_getElem? (i := 73) rfl)) rfl
theorem tb_y114 : pm_y 114 = (⟨"LentNames", "nameless", "(I)I"⟩ : MethodName) := rfl
theorem tb_b114 : pm_b 114 = prog_1_method_12_code := rfl
theorem tb_m114 : iv_MW 114 ∈ iv_T := by
  rw [iv_MW0 (show pm_h 114 = [] from rfl), tb_y114, tb_b114, show (pg_i 114).1 = 2 from rfl, show pm_r 114 = (Option.some Jvm.ClassFile.FieldType.int) from rfl]
  exact tb_g (tb_5 (List.mem_of_getElem? (i := 84) rfl)) rfl
theorem tb_y115 : pm_y 115 = (⟨"LentNames", "longest", "(I)I"⟩ : MethodName) := rfl
theorem tb_b115 : pm_b 115 = prog_1_method_13_code := rfl
theorem tb_m115 : iv_MW 115 ∈ iv_T := by
  rw [iv_MW0 (show pm_h 115 = [] from rfl), tb_y115, tb_b115, show (pg_i 115).1 = 5 from rfl, show pm_r 115 = (Option.some Jvm.ClassFile.FieldType.int) from rfl]
  exact tb_g (tb_5 (List.mem_of_getElem? (i := 95) rfl)) rfl
theorem tb_y116 : pm_y 116 = (⟨"LentNames", "lives", "(II)Z"⟩ : MethodName) := rfl
theorem tb_b116 : pm_b 116 = prog_1_method_14_code := rfl
theorem tb_m116 : iv_MW 116 ∈ iv_T := by
  rw [iv_MW0 (show pm_h 116 = [] from rfl), tb_y116, tb_b116, show (pg_i 116).1 = 3 from rfl, show pm_r 116 = (Option.some Jvm.ClassFile.FieldType.boolean) from rfl]
  exact tb_g (tb_5 (List.mem_of_getElem? (i := 105) rfl)) rfl
theorem tb_y117 : pm_y 117 = (⟨"LentNames", "rich", "(I)I"⟩ : MethodName) := rfl
theorem tb_b117 : pm_b 117 = prog_1_method_15_code := rfl
theorem tb_m117 : iv_MW 117 ∈ iv_T := by
  rw [iv_MW0 (show pm_h 117 = [] from rfl), tb_y117, tb_b117, show (pg_i 117).1 = 4 from rfl, show pm_r 117 = (Option.some Jvm.ClassFile.FieldType.int) from rfl]
  exact tb_g (tb_6 (List.mem_of_getElem? (i := 200) rfl)) rfl
theorem tb_y118 : pm_y 118 = (⟨"LentNames", "borne", "(II)I"⟩ : MethodName) := rfl
theorem tb_b118 : pm_b 118 = prog_1_method_16_code := rfl
theorem tb_m118 : iv_MW 118 ∈ iv_T := by
  rw [iv_MW0 (show pm_h 118 = [] from rfl), tb_y118, tb_b118, show (pg_i 118).1 = 3 from rfl, show pm_r 118 = (Option.some Jvm.ClassFile.FieldType.int) from rfl]
  exact tb_g (tb_6 (List.mem_of_getElem? (i := 207) rfl)) rfl
theorem tb_y119 : pm_y 119 = (⟨"LentNames", "again", "(II)I"⟩ : MethodName) := rfl
theorem tb_b119 : pm_b 119 = prog_1_method_17_code := rfl
theorem tb_m119 : iv_MW 119 ∈ iv_T := by
  rw [iv_MW0 (show pm_h 119 = [] from rfl), tb_y119, tb_b119, show (pg_i 119).1 = 4 from rfl, show pm_r 119 = (Option.some Jvm.ClassFile.FieldType.int) from rfl]
  exact tb_g (tb_6 (List.mem_of_getElem? (i := 214) rfl)) rfl
theorem tb_y120 : pm_y 120 = (⟨"LentNames", "way", "(IZ)I"⟩ : MethodName) := rfl
theorem tb_b120 : pm_b 120 = prog_1_method_18_code := rfl
theorem tb_m120 : iv_MW 120 ∈ iv_T := by
  rw [iv_MW0 (show pm_h 120 = [] from rfl), tb_y120, tb_b120, show (pg_i 120).1 = 5 from rfl, show pm_r 120 = (Option.some Jvm.ClassFile.FieldType.int) from rfl]
  exact tb_g (tb_6 (List.mem_of_getElem? (i := 29) rfl)) rfl
theorem tb_y121 : pm_y 121 = (⟨"LentNames", "busiest", "()I"⟩ : MethodName) := rfl
theorem tb_b121 : pm_b 121 = prog_1_method_19_code := rfl
theorem tb_m121 : iv_MW 121 ∈ iv_T := by
  rw [iv_MW0 (show pm_h 121 = [] from rfl), tb_y121, tb_b121, show (pg_i 121).1 = 3 from rfl, show pm_r 121 = (Option.some Jvm.ClassFile.FieldType.int) from rfl]
  exact tb_g (tb_3 (List.mem_of_getElem? (i := 92) rfl)) rfl
theorem tb_y122 : pm_y 122 = (⟨"LentNames", "look", "(II)I"⟩ : MethodName) := rfl
theorem tb_b122 : pm_b 122 = prog_1_method_20_code := rfl
theorem tb_m122 : iv_MW 122 ∈ iv_T := by
  rw [iv_MW0 (show pm_h 122 = [] from rfl), tb_y122, tb_b122, show (pg_i 122).1 = 3 from rfl, show pm_r 122 = (Option.some Jvm.ClassFile.FieldType.int) from rfl]
  exact tb_g (tb_5 (List.mem_of_getElem? (i := 114) rfl)) rfl
theorem tb_y123 : pm_y 123 = (⟨"LentNames", "owes", "(IZ)I"⟩ : MethodName) := rfl
theorem tb_b123 : pm_b 123 = prog_1_method_21_code := rfl
theorem tb_m123 : iv_MW 123 ∈ iv_T := by
  rw [iv_MW0 (show pm_h 123 = [] from rfl), tb_y123, tb_b123, show (pg_i 123).1 = 6 from rfl, show pm_r 123 = (Option.some Jvm.ClassFile.FieldType.int) from rfl]
  exact tb_g (tb_5 (List.mem_of_getElem? (i := 142) rfl)) rfl
theorem tb_y124 : pm_y 124 = (⟨"LentNames", "letter", "(II)I"⟩ : MethodName) := rfl
theorem tb_b124 : pm_b 124 = prog_1_method_22_code := rfl
theorem tb_m124 : iv_MW 124 ∈ iv_T := by
  rw [iv_MW0 (show pm_h 124 = [] from rfl), tb_y124, tb_b124, show (pg_i 124).1 = 5 from rfl, show pm_r 124 = (Option.some Jvm.ClassFile.FieldType.int) from rfl]
  exact tb_g (tb_5 (List.mem_of_getElem? (i := 149) rfl)) rfl
theorem tb_y125 : pm_y 125 = (⟨"LentNames", "wish", "(II)I"⟩ : MethodName) := rfl
theorem tb_b125 : pm_b 125 = prog_1_method_23_code := rfl
theorem tb_m125 : iv_MW 125 ∈ iv_T := by
  rw [iv_MW0 (show pm_h 125 = [] from rfl), tb_y125, tb_b125, show (pg_i 125).1 = 4 from rfl, show pm_r 125 = (Option.some Jvm.ClassFile.FieldType.int) from rfl]
  exact tb_g (tb_6 (List.mem_of_getElem? (i := 37) rfl)) rfl
theorem tb_y126 : pm_y 126 = (⟨"LentNames", "home", "()I"⟩ : MethodName) := rfl
theorem tb_b126 : pm_b 126 = prog_1_method_24_code := rfl
theorem tb_m126 : iv_MW 126 ∈ iv_T := by
  rw [iv_MW0 (show pm_h 126 = [] from rfl), tb_y126, tb_b126, show (pg_i 126).1 = 6 from rfl, show pm_r 126 = (Option.some Jvm.ClassFile.FieldType.int) from rfl]
  exact tb_g (tb_3 (List.mem_of_getElem? (i := 108) rfl)) rfl
theorem tb_y127 : pm_y 127 = (⟨"LentNames", "plan", "(II)I"⟩ : MethodName) := rfl
theorem tb_b127 : pm_b 127 = prog_1_method_25_code := rfl
theorem tb_m127 : iv_MW 127 ∈ iv_T := by
  rw [iv_MW0 (show pm_h 127 = [] from rfl), tb_y127, tb_b127, show (pg_i 127).1 = 3 from rfl, show pm_r 127 = (Option.some Jvm.ClassFile.FieldType.int) from rfl]
  exact tb_g (tb_6 (List.mem_of_getElem? (i := 45) rfl)) rfl
theorem tb_y128 : pm_y 128 = (⟨"LentNames", "pays", "(I)I"⟩ : MethodName) := rfl
theorem tb_b128 : pm_b 128 = prog_1_method_26_code := rfl
theorem tb_m128 : iv_MW 128 ∈ iv_T := by
  rw [iv_MW0 (show pm_h 128 = [] from rfl), tb_y128, tb_b128, show (pg_i 128).1 = 2 from rfl, show pm_r 128 = (Option.some Jvm.ClassFile.FieldType.int) from rfl]
  exact tb_g (tb_5 (List.mem_of_getElem? (i := 164) rfl)) rfl
theorem tb_y129 : pm_y 129 = (⟨"LentNames", "bill", "(I)I"⟩ : MethodName) := rfl
theorem tb_b129 : pm_b 129 = prog_1_method_27_code := rfl
theorem tb_m129 : iv_MW 129 ∈ iv_T := by
  rw [iv_MW0 (show pm_h 129 = [] from rfl), tb_y129, tb_b129, show (pg_i 129).1 = 4 from rfl, show pm_r 129 = (Option.some Jvm.ClassFile.FieldType.int) from rfl]
  exact tb_g (tb_5 (List.mem_of_getElem? (i := 172) rfl)) rfl
theorem tb_y130 : pm_y 130 = (⟨"LentNames", "purse", "(II)I"⟩ : MethodName) := rfl
theorem tb_b130 : pm_b 130 = prog_1_method_28_code := rfl
theorem tb_m130 : iv_MW 130 ∈ iv_T := by
  rw [iv_MW0 (show pm_h 130 = [] from rfl), tb_y130, tb_b130, show (pg_i 130).1 = 4 from rfl, show pm_r 130 = (Option.some Jvm.ClassFile.FieldType.int) from rfl]
  exact tb_g (tb_6 (List.mem_of_getElem? (i := 7) rfl)) rfl
theorem tb_y131 : pm_y 131 = (⟨"LentNames", "left", "(I)I"⟩ : MethodName) := rfl
theorem tb_b131 : pm_b 131 = prog_1_method_29_code := rfl
theorem tb_m131 : iv_MW 131 ∈ iv_T := by
  rw [iv_MW0 (show pm_h 131 = [] from rfl), tb_y131, tb_b131, show (pg_i 131).1 = 2 from rfl, show pm_r 131 = (Option.some Jvm.ClassFile.FieldType.int) from rfl]
  exact tb_g (tb_6 (List.mem_of_getElem? (i := 15) rfl)) rfl
theorem tb_y132 : pm_y 132 = (⟨"LentNames", "unpaid", "()I"⟩ : MethodName) := rfl
theorem tb_b132 : pm_b 132 = prog_1_method_30_code := rfl
theorem tb_m132 : iv_MW 132 ∈ iv_T := by
  rw [iv_MW0 (show pm_h 132 = [] from rfl), tb_y132, tb_b132, show (pg_i 132).1 = 1 from rfl, show pm_r 132 = (Option.some Jvm.ClassFile.FieldType.int) from rfl]
  exact tb_g (tb_3 (List.mem_of_getElem? (i := 114) rfl)) rfl
theorem tb_y133 : pm_y 133 = (⟨"LentNames", "meets", "(I)I"⟩ : MethodName) := rfl
theorem tb_b133 : pm_b 133 = prog_1_method_31_code := rfl
theorem tb_m133 : iv_MW 133 ∈ iv_T := by
  rw [iv_MW0 (show pm_h 133 = [] from rfl), tb_y133, tb_b133, show (pg_i 133).1 = 7 from rfl, show pm_r 133 = (Option.some Jvm.ClassFile.FieldType.int) from rfl]
  exact tb_g (tb_6 (List.mem_of_getElem? (i := 22) rfl)) rfl
theorem tb_y134 : pm_y 134 = (⟨"LentNames", "agree", "()I"⟩ : MethodName) := rfl
theorem tb_b134 : pm_b 134 = prog_1_method_32_code := rfl
theorem tb_m134 : iv_MW 134 ∈ iv_T := by
  rw [iv_MW0 (show pm_h 134 = [] from rfl), tb_y134, tb_b134, show (pg_i 134).1 = 3 from rfl, show pm_r 134 = (Option.some Jvm.ClassFile.FieldType.int) from rfl]
  exact tb_g (tb_3 (List.mem_of_getElem? (i := 134) rfl)) rfl
theorem tb_y135 : pm_y 135 = (⟨"LentNames", "can", "(I)I"⟩ : MethodName) := rfl
theorem tb_b135 : pm_b 135 = prog_1_method_33_code := rfl
theorem tb_m135 : iv_MW 135 ∈ iv_T := by
  rw [iv_MW0 (show pm_h 135 = [] from rfl), tb_y135, tb_b135, show (pg_i 135).1 = 6 from rfl, show pm_r 135 = (Option.some Jvm.ClassFile.FieldType.int) from rfl]
  exact tb_g (tb_6 (List.mem_of_getElem? (i := 170) rfl)) rfl
theorem tb_y136 : pm_y 136 = (⟨"LentNames", "secrets", "(II)I"⟩ : MethodName) := rfl
theorem tb_b136 : pm_b 136 = prog_1_method_34_code := rfl
theorem tb_m136 : iv_MW 136 ∈ iv_T := by
  rw [iv_MW0 (show pm_h 136 = [] from rfl), tb_y136, tb_b136, show (pg_i 136).1 = 3 from rfl, show pm_r 136 = (Option.some Jvm.ClassFile.FieldType.int) from rfl]
  exact tb_g (tb_6 (List.mem_of_getElem? (i := 177) rfl)) rfl
theorem tb_y137 : pm_y 137 = (⟨"LentNames", "liars", "(I)I"⟩ : MethodName) := rfl
theorem tb_b137 : pm_b 137 = prog_1_method_35_code := rfl
theorem tb_m137 : iv_MW 137 ∈ iv_T := by
  rw [iv_MW0 (show pm_h 137 = [] from rfl), tb_y137, tb_b137, show (pg_i 137).1 = 6 from rfl, show pm_r 137 = (Option.some Jvm.ClassFile.FieldType.int) from rfl]
  exact tb_g (tb_6 (List.mem_of_getElem? (i := 191) rfl)) rfl
theorem tb_y138 : pm_y 138 = (⟨"LentNames", "image", "()V"⟩ : MethodName) := rfl
theorem tb_b138 : pm_b 138 = prog_1_method_36_code := rfl
theorem tb_m138 : iv_MW 138 ∈ iv_T := by
  rw [iv_MW0 (show pm_h 138 = [] from rfl), tb_y138, tb_b138, show (pg_i 138).1 = 1 from rfl, show pm_r 138 = (Option.none : Option Jvm.ClassFile.FieldType) from rfl]
  exact tb_g (tb_3 (List.mem_of_getElem? (i := 142) rfl)) rfl
theorem tb_y139 : pm_y 139 = (⟨"LentNames", "back", "()Z"⟩ : MethodName) := rfl
theorem tb_b139 : pm_b 139 = prog_1_method_37_code := rfl
theorem tb_m139 : iv_MW 139 ∈ iv_T := by
  rw [iv_MW0 (show pm_h 139 = [] from rfl), tb_y139, tb_b139, show (pg_i 139).1 = 1 from rfl, show pm_r 139 = (Option.some Jvm.ClassFile.FieldType.boolean) from rfl]
  exact tb_g (tb_3 (List.mem_of_getElem? (i := 164) rfl)) rfl
theorem tb_y140 : pm_y 140 = (⟨"LentNames", "count", "(I)I"⟩ : MethodName) := rfl
theorem tb_b140 : pm_b 140 = prog_1_method_38_code := rfl
theorem tb_m140 : iv_MW 140 ∈ iv_T := by
  rw [iv_MW0 (show pm_h 140 = [] from rfl), tb_y140, tb_b140, show (pg_i 140).1 = 2 from rfl, show pm_r 140 = (Option.some Jvm.ClassFile.FieldType.int) from rfl]
  exact tb_g (tb_3 (List.mem_of_getElem? (i := 168) rfl)) rfl
theorem tb_y141 : pm_y 141 = (⟨"LentNames", "useUpTape", "(Z)V"⟩ : MethodName) := rfl
theorem tb_b141 : pm_b 141 = prog_1_method_39_code := rfl
theorem tb_m141 : iv_MW 141 ∈ iv_T := by
  rw [iv_MW0 (show pm_h 141 = [] from rfl), tb_y141, tb_b141, show (pg_i 141).1 = 2 from rfl, show pm_r 141 = (Option.none : Option Jvm.ClassFile.FieldType) from rfl]
  exact tb_g (tb_4 (List.mem_of_getElem? (i := 132) rfl)) rfl
theorem tb_y142 : pm_y 142 = (⟨"LentNames", "takeDraft", "()V"⟩ : MethodName) := rfl
theorem tb_b142 : pm_b 142 = prog_1_method_40_code := rfl
theorem tb_m142 : iv_MW 142 ∈ iv_T := by
  rw [iv_MW0 (show pm_h 142 = [] from rfl), tb_y142, tb_b142, show (pg_i 142).1 = 2 from rfl, show pm_r 142 = (Option.none : Option Jvm.ClassFile.FieldType) from rfl]
  exact tb_g (tb_4 (List.mem_of_getElem? (i := 222) rfl)) rfl
theorem tb_y143 : pm_y 143 = (⟨"LentNames", "renew", "()V"⟩ : MethodName) := rfl
theorem tb_b143 : pm_b 143 = prog_1_method_41_code := rfl
theorem tb_m143 : iv_MW 143 ∈ iv_T := by
  rw [iv_MW0 (show pm_h 143 = [] from rfl), tb_y143, tb_b143, show (pg_i 143).1 = 1 from rfl, show pm_r 143 = (Option.none : Option Jvm.ClassFile.FieldType) from rfl]
  exact tb_g (tb_2 (List.mem_of_getElem? (i := 148) rfl)) rfl
theorem tb_y144 : pm_y 144 = (⟨"LentNames", "needName", "(I)V"⟩ : MethodName) := rfl
theorem tb_b144 : pm_b 144 = prog_1_method_42_code := rfl
theorem tb_m144 : iv_MW 144 ∈ iv_T := by
  rw [iv_MW0 (show pm_h 144 = [] from rfl), tb_y144, tb_b144, show (pg_i 144).1 = 2 from rfl, show pm_r 144 = (Option.none : Option Jvm.ClassFile.FieldType) from rfl]
  exact tb_g (tb_5 (List.mem_of_getElem? (i := 19) rfl)) rfl
theorem tb_y145 : pm_y 145 = (⟨"LentNames", "needBody", "(I)V"⟩ : MethodName) := rfl
theorem tb_b145 : pm_b 145 = prog_1_method_43_code := rfl
theorem tb_m145 : iv_MW 145 ∈ iv_T := by
  rw [iv_MW0 (show pm_h 145 = [] from rfl), tb_y145, tb_b145, show (pg_i 145).1 = 2 from rfl, show pm_r 145 = (Option.none : Option Jvm.ClassFile.FieldType) from rfl]
  exact tb_g (tb_5 (List.mem_of_getElem? (i := 50) rfl)) rfl
theorem tb_y146 : pm_y 146 = (⟨"LentNames", "needDay", "(I)V"⟩ : MethodName) := rfl
theorem tb_b146 : pm_b 146 = prog_1_method_44_code := rfl
theorem tb_m146 : iv_MW 146 ∈ iv_T := by
  rw [iv_MW0 (show pm_h 146 = [] from rfl), tb_y146, tb_b146, show (pg_i 146).1 = 1 from rfl, show pm_r 146 = (Option.none : Option Jvm.ClassFile.FieldType) from rfl]
  exact tb_g (tb_5 (List.mem_of_getElem? (i := 38) rfl)) rfl
theorem tb_y147 : pm_y 147 = (⟨"LentNames", "needRow", "(LLentNames$Table;I)V"⟩ : MethodName) := rfl
theorem tb_b147 : pm_b 147 = prog_1_method_45_code := rfl
theorem tb_m147 : iv_MW 147 ∈ iv_T := by
  rw [iv_MW0 (show pm_h 147 = [] from rfl), tb_y147, tb_b147, show (pg_i 147).1 = 2 from rfl, show pm_r 147 = (Option.none : Option Jvm.ClassFile.FieldType) from rfl]
  exact tb_g (tb_5 (List.mem_of_getElem? (i := 117) rfl)) rfl
theorem tb_y148 : pm_y 148 = (⟨"LentNames", "hasBit", "(II)Z"⟩ : MethodName) := rfl
theorem tb_b148 : pm_b 148 = prog_1_method_46_code := rfl
theorem tb_m148 : iv_MW 148 ∈ iv_T := by
  rw [iv_MW0 (show pm_h 148 = [] from rfl), tb_y148, tb_b148, show (pg_i 148).1 = 2 from rfl, show pm_r 148 = (Option.some Jvm.ClassFile.FieldType.boolean) from rfl]
  exact tb_g (tb_2 (List.mem_of_getElem? (i := 184) rfl)) rfl
theorem tb_y149 : pm_y 149 = (⟨"LentNames", "pair", "(II)I"⟩ : MethodName) := rfl
theorem tb_b149 : pm_b 149 = prog_1_method_47_code := rfl
theorem tb_m149 : iv_MW 149 ∈ iv_T := by
  rw [iv_MW0 (show pm_h 149 = [] from rfl), tb_y149, tb_b149, show (pg_i 149).1 = 2 from rfl, show pm_r 149 = (Option.some Jvm.ClassFile.FieldType.int) from rfl]
  exact tb_g (tb_3 (List.mem_of_getElem? (i := 22) rfl)) rfl
theorem tb_y150 : pm_y 150 = (⟨"LentNames", "cell", "(II)I"⟩ : MethodName) := rfl
theorem tb_b150 : pm_b 150 = prog_1_method_48_code := rfl
theorem tb_m150 : iv_MW 150 ∈ iv_T := by
  rw [iv_MW0 (show pm_h 150 = [] from rfl), tb_y150, tb_b150, show (pg_i 150).1 = 2 from rfl, show pm_r 150 = (Option.some Jvm.ClassFile.FieldType.int) from rfl]
  exact tb_g (tb_3 (List.mem_of_getElem? (i := 15) rfl)) rfl
theorem tb_y151 : pm_y 151 = (⟨"LentNames", "longerRuns", "(I)I"⟩ : MethodName) := rfl
theorem tb_b151 : pm_b 151 = prog_1_method_49_code := rfl
theorem tb_m151 : iv_MW 151 ∈ iv_T := by
  rw [iv_MW0 (show pm_h 151 = [] from rfl), tb_y151, tb_b151, show (pg_i 151).1 = 1 from rfl, show pm_r 151 = (Option.some Jvm.ClassFile.FieldType.int) from rfl]
  exact tb_g (tb_5 (List.mem_of_getElem? (i := 98) rfl)) rfl
theorem tb_y152 : pm_y 152 = (⟨"LentNamesModel", "throwsIf", "(ZI)Z"⟩ : MethodName) := rfl
theorem tb_b152 : pm_b 152 = prog_14_method_2_code := rfl
theorem tb_m152 : iv_MW 152 ∈ iv_T := by
  rw [iv_MW0 (show pm_h 152 = [] from rfl), tb_y152, tb_b152, show (pg_i 152).1 = 3 from rfl, show pm_r 152 = (Option.some Jvm.ClassFile.FieldType.boolean) from rfl]
  exact tb_g (tb_8 (List.mem_of_getElem? (i := 24) rfl)) rfl
theorem tb_y153 : pm_y 153 = (⟨"LentNamesModel", "in", "(III)Z"⟩ : MethodName) := rfl
theorem tb_b153 : pm_b 153 = prog_14_method_3_code := rfl
theorem tb_m153 : iv_MW 153 ∈ iv_T := by
  rw [iv_MW0 (show pm_h 153 = [] from rfl), tb_y153, tb_b153, show (pg_i 153).1 = 3 from rfl, show pm_r 153 = (Option.some Jvm.ClassFile.FieldType.boolean) from rfl]
  exact tb_g (tb_8 (List.mem_of_getElem? (i := 35) rfl)) rfl
theorem tb_y154 : pm_y 154 = (⟨"LentNamesModel", "<init>", "()V"⟩ : MethodName) := rfl
theorem tb_b154 : pm_b 154 = prog_14_method_4_code := rfl
theorem tb_m154 : iv_MW 154 ∈ iv_T := by
  rw [iv_MW0 (show pm_h 154 = [] from rfl), tb_y154, tb_b154, show (pg_i 154).1 = 2 from rfl, show pm_r 154 = (Option.none : Option Jvm.ClassFile.FieldType) from rfl]
  exact tb_g (tb_6 (List.mem_of_getElem? (i := 219) rfl)) rfl
theorem tb_y155 : pm_y 155 = (⟨"LentNamesModel", "image", "()V"⟩ : MethodName) := rfl
theorem tb_b155 : pm_b 155 = prog_14_method_5_code := rfl
theorem tb_m155 : iv_MW 155 ∈ iv_T := by
  rw [iv_MW0 (show pm_h 155 = [] from rfl), tb_y155, tb_b155, show (pg_i 155).1 = 2 from rfl, show pm_r 155 = (Option.none : Option Jvm.ClassFile.FieldType) from rfl]
  exact tb_g (tb_7 (List.mem_of_getElem? (i := 93) rfl)) rfl
theorem tb_y156 : pm_y 156 = (⟨"LentNamesModel", "back", "()Z"⟩ : MethodName) := rfl
theorem tb_b156 : pm_b 156 = prog_14_method_6_code := rfl
theorem tb_m156 : iv_MW 156 ∈ iv_T := by
  rw [iv_MW0 (show pm_h 156 = [] from rfl), tb_y156, tb_b156, show (pg_i 156).1 = 2 from rfl, show pm_r 156 = (Option.some Jvm.ClassFile.FieldType.boolean) from rfl]
  exact tb_g (tb_7 (List.mem_of_getElem? (i := 97) rfl)) rfl
theorem tb_y157 : pm_y 157 = (⟨"LentNamesModel", "bodies", "()I"⟩ : MethodName) := rfl
theorem tb_b157 : pm_b 157 = prog_14_method_7_code := rfl
theorem tb_m157 : iv_MW 157 ∈ iv_T := by
  rw [iv_MW0 (show pm_h 157 = [] from rfl), tb_y157, tb_b157, show (pg_i 157).1 = 1 from rfl, show pm_r 157 = (Option.some Jvm.ClassFile.FieldType.int) from rfl]
  exact tb_g (tb_7 (List.mem_of_getElem? (i := 152) rfl)) rfl
theorem tb_y158 : pm_y 158 = (⟨"LentNamesModel", "none", "(II)Z"⟩ : MethodName) := rfl
theorem tb_b158 : pm_b 158 = prog_14_method_8_code := rfl
theorem tb_m158 : iv_MW 158 ∈ iv_T := by
  rw [iv_MW0 (show pm_h 158 = [] from rfl), tb_y158, tb_b158, show (pg_i 158).1 = 3 from rfl, show pm_r 158 = (Option.some Jvm.ClassFile.FieldType.boolean) from rfl]
  exact tb_g (tb_8 (List.mem_of_getElem? (i := 47) rfl)) rfl
theorem tb_y159 : pm_y 159 = (⟨"LentNamesModel", "noBody", "(I)Z"⟩ : MethodName) := rfl
theorem tb_b159 : pm_b 159 = prog_14_method_9_code := rfl
theorem tb_m159 : iv_MW 159 ∈ iv_T := by
  rw [iv_MW0 (show pm_h 159 = [] from rfl), tb_y159, tb_b159, show (pg_i 159).1 = 2 from rfl, show pm_r 159 = (Option.some Jvm.ClassFile.FieldType.boolean) from rfl]
  exact tb_g (tb_8 (List.mem_of_getElem? (i := 43) rfl)) rfl
theorem tb_y160 : pm_y 160 = (⟨"LentNamesModel", "noDay", "(I)Z"⟩ : MethodName) := rfl
theorem tb_b160 : pm_b 160 = prog_14_method_10_code := rfl
theorem tb_m160 : iv_MW 160 ∈ iv_T := by
  rw [iv_MW0 (show pm_h 160 = [] from rfl), tb_y160, tb_b160, show (pg_i 160).1 = 1 from rfl, show pm_r 160 = (Option.some Jvm.ClassFile.FieldType.boolean) from rfl]
  exact tb_g (tb_8 (List.mem_of_getElem? (i := 50) rfl)) rfl
theorem tb_y161 : pm_y 161 = (⟨"LentNamesModel", "ofLoan", "(II)I"⟩ : MethodName) := rfl
theorem tb_b161 : pm_b 161 = prog_14_method_11_code := rfl
theorem tb_m161 : iv_MW 161 ∈ iv_T := by
  rw [iv_MW0 (show pm_h 161 = [] from rfl), tb_y161, tb_b161, show (pg_i 161).1 = 3 from rfl, show pm_r 161 = (Option.some Jvm.ClassFile.FieldType.int) from rfl]
  exact tb_g (tb_8 (List.mem_of_getElem? (i := 66) rfl)) rfl
theorem tb_y162 : pm_y 162 = (⟨"LentNamesModel", "ofLetter", "(II)I"⟩ : MethodName) := rfl
theorem tb_b162 : pm_b 162 = prog_14_method_12_code := rfl
theorem tb_m162 : iv_MW 162 ∈ iv_T := by
  rw [iv_MW0 (show pm_h 162 = [] from rfl), tb_y162, tb_b162, show (pg_i 162).1 = 3 from rfl, show pm_r 162 = (Option.some Jvm.ClassFile.FieldType.int) from rfl]
  exact tb_g (tb_8 (List.mem_of_getElem? (i := 171) rfl)) rfl
theorem tb_y163 : pm_y 163 = (⟨"LentNamesModel", "ofDebt", "(II)I"⟩ : MethodName) := rfl
theorem tb_b163 : pm_b 163 = prog_14_method_13_code := rfl
theorem tb_m163 : iv_MW 163 ∈ iv_T := by
  rw [iv_MW0 (show pm_h 163 = [] from rfl), tb_y163, tb_b163, show (pg_i 163).1 = 3 from rfl, show pm_r 163 = (Option.some Jvm.ClassFile.FieldType.int) from rfl]
  exact tb_g (tb_8 (List.mem_of_getElem? (i := 187) rfl)) rfl
theorem tb_y164 : pm_y 164 = (⟨"LentNamesModel", "ofSight", "(II)I"⟩ : MethodName) := rfl
theorem tb_b164 : pm_b 164 = prog_14_method_14_code := rfl
theorem tb_m164 : iv_MW 164 ∈ iv_T := by
  rw [iv_MW0 (show pm_h 164 = [] from rfl), tb_y164, tb_b164, show (pg_i 164).1 = 3 from rfl, show pm_r 164 = (Option.some Jvm.ClassFile.FieldType.int) from rfl]
  exact tb_g (tb_9 (List.mem_of_getElem? (i := 36) rfl)) rfl
theorem tb_y165 : pm_y 165 = (⟨"LentNamesModel", "feed", "(IIIII)I"⟩ : MethodName) := rfl
theorem tb_b165 : pm_b 165 = prog_14_method_15_code := rfl
theorem tb_m165 : iv_MW 165 ∈ iv_T := by
  rw [iv_MW0 (show pm_h 165 = [] from rfl), tb_y165, tb_b165, show (pg_i 165).1 = 7 from rfl, show pm_r 165 = (Option.some Jvm.ClassFile.FieldType.int) from rfl]
  exact tb_g (tb_7 (List.mem_of_getElem? (i := 101) rfl)) rfl
theorem tb_y166 : pm_y 166 = (⟨"LentNamesModel", "end", "(I)Z"⟩ : MethodName) := rfl
theorem tb_b166 : pm_b 166 = prog_14_method_16_code := rfl
theorem tb_m166 : iv_MW 166 ∈ iv_T := by
  rw [iv_MW0 (show pm_h 166 = [] from rfl), tb_y166, tb_b166, show (pg_i 166).1 = 2 from rfl, show pm_r 166 = (Option.some Jvm.ClassFile.FieldType.boolean) from rfl]
  exact tb_g (tb_7 (List.mem_of_getElem? (i := 105) rfl)) rfl
theorem tb_y167 : pm_y 167 = (⟨"LentNamesModel", "isAt", "(II)Z"⟩ : MethodName) := rfl
theorem tb_b167 : pm_b 167 = prog_14_method_17_code := rfl
theorem tb_m167 : iv_MW 167 ∈ iv_T := by
  rw [iv_MW0 (show pm_h 167 = [] from rfl), tb_y167, tb_b167, show (pg_i 167).1 = 3 from rfl, show pm_r 167 = (Option.some Jvm.ClassFile.FieldType.boolean) from rfl]
  exact tb_g (tb_7 (List.mem_of_getElem? (i := 125) rfl)) rfl
theorem tb_y168 : pm_y 168 = (⟨"LentNamesModel", "blanks", "()V"⟩ : MethodName) := rfl
theorem tb_b168 : pm_b 168 = prog_14_method_18_code := rfl
theorem tb_m168 : iv_MW 168 ∈ iv_T := by
  rw [iv_MW0 (show pm_h 168 = [] from rfl), tb_y168, tb_b168, show (pg_i 168).1 = 1 from rfl, show pm_r 168 = (Option.none : Option Jvm.ClassFile.FieldType) from rfl]
  exact tb_g (tb_7 (List.mem_of_getElem? (i := 121) rfl)) rfl
theorem tb_y169 : pm_y 169 = (⟨"LentNamesModel", "letters", "()V"⟩ : MethodName) := rfl
theorem tb_b169 : pm_b 169 = prog_14_method_19_code := rfl
theorem tb_m169 : iv_MW 169 ∈ iv_T := by
  rw [iv_MW0 (show pm_h 169 = [] from rfl), tb_y169, tb_b169, show (pg_i 169).1 = 1 from rfl, show pm_r 169 = (Option.none : Option Jvm.ClassFile.FieldType) from rfl]
  exact tb_g (tb_7 (List.mem_of_getElem? (i := 129) rfl)) rfl
theorem tb_y170 : pm_y 170 = (⟨"LentNamesModel", "isWord", "(Ljava/lang/String;)Z"⟩ : MethodName) := rfl
theorem tb_b170 : pm_b 170 = prog_14_method_20_code := rfl
theorem tb_m170 : iv_MW 170 ∈ iv_T := by
  rw [iv_MW0 (show pm_h 170 = [] from rfl), tb_y170, tb_b170, show (pg_i 170).1 = 4 from rfl, show pm_r 170 = (Option.some Jvm.ClassFile.FieldType.boolean) from rfl]
  exact tb_g (tb_7 (List.mem_of_getElem? (i := 138) rfl)) rfl
theorem tb_y171 : pm_y 171 = (⟨"LentNamesModel", "passes", "(Ljava/lang/String;)Z"⟩ : MethodName) := rfl
theorem tb_b171 : pm_b 171 = prog_14_method_21_code := rfl
theorem tb_m171 : iv_MW 171 ∈ iv_T := by
  rw [iv_MW0 (show pm_h 171 = [] from rfl), tb_y171, tb_b171, show (pg_i 171).1 = 2 from rfl, show pm_r 171 = (Option.some Jvm.ClassFile.FieldType.boolean) from rfl]
  exact tb_g (tb_7 (List.mem_of_getElem? (i := 176) rfl)) rfl
theorem tb_y172 : pm_y 172 = (⟨"LentNamesModel", "needs", "(Ljava/lang/String;)Z"⟩ : MethodName) := rfl
theorem tb_b172 : pm_b 172 = prog_14_method_22_code := rfl
theorem tb_m172 : iv_MW 172 ∈ iv_T := by
  rw [iv_MW0 (show pm_h 172 = [] from rfl), tb_y172, tb_b172, show (pg_i 172).1 = 2 from rfl, show pm_r 172 = (Option.some Jvm.ClassFile.FieldType.boolean) from rfl]
  exact tb_g (tb_7 (List.mem_of_getElem? (i := 165) rfl)) rfl
theorem tb_y173 : pm_y 173 = (⟨"LentNamesModel", "sign", "(I)Z"⟩ : MethodName) := rfl
theorem tb_b173 : pm_b 173 = prog_14_method_23_code := rfl
theorem tb_m173 : iv_MW 173 ∈ iv_T := by
  rw [iv_MW0 (show pm_h 173 = [] from rfl), tb_y173, tb_b173, show (pg_i 173).1 = 2 from rfl, show pm_r 173 = (Option.some Jvm.ClassFile.FieldType.boolean) from rfl]
  exact tb_g (tb_8 (List.mem_of_getElem? (i := 0) rfl)) rfl
theorem tb_y174 : pm_y 174 = (⟨"LentNamesModel", "number", "(II)I"⟩ : MethodName) := rfl
theorem tb_b174 : pm_b 174 = prog_14_method_24_code := rfl
theorem tb_m174 : iv_MW 174 ∈ iv_T := by
  rw [iv_MW0 (show pm_h 174 = [] from rfl), tb_y174, tb_b174, show (pg_i 174).1 = 4 from rfl, show pm_r 174 = (Option.some Jvm.ClassFile.FieldType.int) from rfl]
  exact tb_g (tb_7 (List.mem_of_getElem? (i := 156) rfl)) rfl
theorem tb_y175 : pm_y 175 = (⟨"LentNamesModel", "fault", "()I"⟩ : MethodName) := rfl
theorem tb_b175 : pm_b 175 = prog_14_method_25_code := rfl
theorem tb_m175 : iv_MW 175 ∈ iv_T := by
  rw [iv_MW0 (show pm_h 175 = [] from rfl), tb_y175, tb_b175, show (pg_i 175).1 = 1 from rfl, show pm_r 175 = (Option.some Jvm.ClassFile.FieldType.int) from rfl]
  exact tb_g (tb_7 (List.mem_of_getElem? (i := 109) rfl)) rfl
theorem tb_y176 : pm_y 176 = (⟨"LentNamesModel", "sets", "(II)Z"⟩ : MethodName) := rfl
theorem tb_b176 : pm_b 176 = prog_14_method_26_code := rfl
theorem tb_m176 : iv_MW 176 ∈ iv_T := by
  rw [iv_MW0 (show pm_h 176 = [] from rfl), tb_y176, tb_b176, show (pg_i 176).1 = 3 from rfl, show pm_r 176 = (Option.some Jvm.ClassFile.FieldType.boolean) from rfl]
  exact tb_g (tb_7 (List.mem_of_getElem? (i := 160) rfl)) rfl
theorem tb_y177 : pm_y 177 = (⟨"LentNamesModel", "one", "(I)Z"⟩ : MethodName) := rfl
theorem tb_b177 : pm_b 177 = prog_14_method_27_code := rfl
theorem tb_m177 : iv_MW 177 ∈ iv_T := by
  rw [iv_MW0 (show pm_h 177 = [] from rfl), tb_y177, tb_b177, show (pg_i 177).1 = 2 from rfl, show pm_r 177 = (Option.some Jvm.ClassFile.FieldType.boolean) from rfl]
  exact tb_g (tb_7 (List.mem_of_getElem? (i := 148) rfl)) rfl
theorem tb_y178 : pm_y 178 = (⟨"LentNamesModel", "day", "(II)Z"⟩ : MethodName) := rfl
theorem tb_b178 : pm_b 178 = prog_14_method_28_code := rfl
theorem tb_m178 : iv_MW 178 ∈ iv_T := by
  rw [iv_MW0 (show pm_h 178 = [] from rfl), tb_y178, tb_b178, show (pg_i 178).1 = 3 from rfl, show pm_r 178 = (Option.some Jvm.ClassFile.FieldType.boolean) from rfl]
  exact tb_g (tb_7 (List.mem_of_getElem? (i := 170) rfl)) rfl
theorem tb_y179 : pm_y 179 = (⟨"LentNamesModel", "readLend", "()Z"⟩ : MethodName) := rfl
theorem tb_b179 : pm_b 179 = prog_14_method_29_code := rfl
theorem tb_m179 : iv_MW 179 ∈ iv_T := by
  rw [iv_MW0 (show pm_h 179 = [] from rfl), tb_y179, tb_b179, show (pg_i 179).1 = 2 from rfl, show pm_r 179 = (Option.some Jvm.ClassFile.FieldType.boolean) from rfl]
  exact tb_g (tb_7 (List.mem_of_getElem? (i := 144) rfl)) rfl
theorem tb_y180 : pm_y 180 = (⟨"LentNamesModel", "readLate", "()Z"⟩ : MethodName) := rfl
theorem tb_b180 : pm_b 180 = prog_14_method_30_code := rfl
theorem tb_m180 : iv_MW 180 ∈ iv_T := by
  rw [iv_MW0 (show pm_h 180 = [] from rfl), tb_y180, tb_b180, show (pg_i 180).1 = 2 from rfl, show pm_r 180 = (Option.some Jvm.ClassFile.FieldType.boolean) from rfl]
  exact tb_g (tb_7 (List.mem_of_getElem? (i := 182) rfl)) rfl
theorem tb_y181 : pm_y 181 = (⟨"LentNamesModel", "readDies", "()Z"⟩ : MethodName) := rfl
theorem tb_b181 : pm_b 181 = prog_14_method_31_code := rfl
theorem tb_m181 : iv_MW 181 ∈ iv_T := by
  rw [iv_MW0 (show pm_h 181 = [] from rfl), tb_y181, tb_b181, show (pg_i 181).1 = 3 from rfl, show pm_r 181 = (Option.some Jvm.ClassFile.FieldType.boolean) from rfl]
  exact tb_g (tb_7 (List.mem_of_getElem? (i := 188) rfl)) rfl
theorem tb_y182 : pm_y 182 = (⟨"LentNamesModel", "readCourt", "()Z"⟩ : MethodName) := rfl
theorem tb_b182 : pm_b 182 = prog_14_method_32_code := rfl
theorem tb_m182 : iv_MW 182 ∈ iv_T := by
  rw [iv_MW0 (show pm_h 182 = [] from rfl), tb_y182, tb_b182, show (pg_i 182).1 = 2 from rfl, show pm_r 182 = (Option.some Jvm.ClassFile.FieldType.boolean) from rfl]
  exact tb_g (tb_7 (List.mem_of_getElem? (i := 194) rfl)) rfl
theorem tb_y183 : pm_y 183 = (⟨"LentNamesModel", "readLetter", "()Z"⟩ : MethodName) := rfl
theorem tb_b183 : pm_b 183 = prog_14_method_33_code := rfl
theorem tb_m183 : iv_MW 183 ∈ iv_T := by
  rw [iv_MW0 (show pm_h 183 = [] from rfl), tb_y183, tb_b183, show (pg_i 183).1 = 2 from rfl, show pm_r 183 = (Option.some Jvm.ClassFile.FieldType.boolean) from rfl]
  exact tb_g (tb_7 (List.mem_of_getElem? (i := 199) rfl)) rfl
theorem tb_y184 : pm_y 184 = (⟨"LentNamesModel", "readDebt", "()Z"⟩ : MethodName) := rfl
theorem tb_b184 : pm_b 184 = prog_14_method_34_code := rfl
theorem tb_m184 : iv_MW 184 ∈ iv_T := by
  rw [iv_MW0 (show pm_h 184 = [] from rfl), tb_y184, tb_b184, show (pg_i 184).1 = 2 from rfl, show pm_r 184 = (Option.some Jvm.ClassFile.FieldType.boolean) from rfl]
  exact tb_g (tb_7 (List.mem_of_getElem? (i := 205) rfl)) rfl
theorem tb_y185 : pm_y 185 = (⟨"LentNamesModel", "readSeen", "()Z"⟩ : MethodName) := rfl
theorem tb_b185 : pm_b 185 = prog_14_method_35_code := rfl
theorem tb_m185 : iv_MW 185 ∈ iv_T := by
  rw [iv_MW0 (show pm_h 185 = [] from rfl), tb_y185, tb_b185, show (pg_i 185).1 = 4 from rfl, show pm_r 185 = (Option.some Jvm.ClassFile.FieldType.boolean) from rfl]
  exact tb_g (tb_7 (List.mem_of_getElem? (i := 214) rfl)) rfl
theorem tb_y186 : pm_y 186 = (⟨"LentNamesModel", "readTownLine", "()Z"⟩ : MethodName) := rfl
theorem tb_b186 : pm_b 186 = prog_14_method_36_code := rfl
theorem tb_m186 : iv_MW 186 ∈ iv_T := by
  rw [iv_MW0 (show pm_h 186 = [] from rfl), tb_y186, tb_b186, show (pg_i 186).1 = 1 from rfl, show pm_r 186 = (Option.some Jvm.ClassFile.FieldType.boolean) from rfl]
  exact tb_g (tb_7 (List.mem_of_getElem? (i := 133) rfl)) rfl
theorem tb_y187 : pm_y 187 = (⟨"LentNamesModel", "emits", "(II)V"⟩ : MethodName) := rfl
theorem tb_b187 : pm_b 187 = prog_14_method_37_code := rfl
theorem tb_m187 : iv_MW 187 ∈ iv_T := by
  rw [iv_MW0 (show pm_h 187 = [] from rfl), tb_y187, tb_b187, show (pg_i 187).1 = 3 from rfl, show pm_r 187 = (Option.none : Option Jvm.ClassFile.FieldType) from rfl]
  exact tb_g (tb_8 (List.mem_of_getElem? (i := 5) rfl)) rfl
theorem tb_y188 : pm_y 188 = (⟨"LentNamesModel", "readPart", "()Z"⟩ : MethodName) := rfl
theorem tb_b188 : pm_b 188 = prog_14_method_38_code := rfl
theorem tb_m188 : iv_MW 188 ∈ iv_T := by
  rw [iv_MW0 (show pm_h 188 = [] from rfl), tb_y188, tb_b188, show (pg_i 188).1 = 2 from rfl, show pm_r 188 = (Option.some Jvm.ClassFile.FieldType.boolean) from rfl]
  exact tb_g (tb_8 (List.mem_of_getElem? (i := 15) rfl)) rfl
theorem tb_y189 : pm_y 189 = (⟨"LentNamesModel", "readSum", "()Z"⟩ : MethodName) := rfl
theorem tb_b189 : pm_b 189 = prog_14_method_39_code := rfl
theorem tb_m189 : iv_MW 189 ∈ iv_T := by
  rw [iv_MW0 (show pm_h 189 = [] from rfl), tb_y189, tb_b189, show (pg_i 189).1 = 1 from rfl, show pm_r 189 = (Option.some Jvm.ClassFile.FieldType.boolean) from rfl]
  exact tb_g (tb_8 (List.mem_of_getElem? (i := 11) rfl)) rfl
theorem tb_y190 : pm_y 190 = (⟨"LentNamesModel", "readAtom", "()Z"⟩ : MethodName) := rfl
theorem tb_b190 : pm_b 190 = prog_14_method_40_code := rfl
theorem tb_m190 : iv_MW 190 ∈ iv_T := by
  rw [iv_MW0 (show pm_h 190 = [] from rfl), tb_y190, tb_b190, show (pg_i 190).1 = 3 from rfl, show pm_r 190 = (Option.some Jvm.ClassFile.FieldType.boolean) from rfl]
  exact tb_g (tb_7 (List.mem_of_getElem? (i := 236) rfl)) rfl
theorem tb_y191 : pm_y 191 = (⟨"LentNamesModel", "readAllOf", "()Z"⟩ : MethodName) := rfl
theorem tb_b191 : pm_b 191 = prog_14_method_41_code := rfl
theorem tb_m191 : iv_MW 191 ∈ iv_T := by
  rw [iv_MW0 (show pm_h 191 = [] from rfl), tb_y191, tb_b191, show (pg_i 191).1 = 1 from rfl, show pm_r 191 = (Option.some Jvm.ClassFile.FieldType.boolean) from rfl]
  exact tb_g (tb_7 (List.mem_of_getElem? (i := 232) rfl)) rfl
theorem tb_y192 : pm_y 192 = (⟨"LentNamesModel", "readCond", "()Z"⟩ : MethodName) := rfl
theorem tb_b192 : pm_b 192 = prog_14_method_42_code := rfl
theorem tb_m192 : iv_MW 192 ∈ iv_T := by
  rw [iv_MW0 (show pm_h 192 = [] from rfl), tb_y192, tb_b192, show (pg_i 192).1 = 1 from rfl, show pm_r 192 = (Option.some Jvm.ClassFile.FieldType.boolean) from rfl]
  exact tb_g (tb_7 (List.mem_of_getElem? (i := 228) rfl)) rfl
theorem tb_y193 : pm_y 193 = (⟨"LentNamesModel", "readCustomLine", "(I)Z"⟩ : MethodName) := rfl
theorem tb_b193 : pm_b 193 = prog_14_method_43_code := rfl
theorem tb_m193 : iv_MW 193 ∈ iv_T := by
  rw [iv_MW0 (show pm_h 193 = [] from rfl), tb_y193, tb_b193, show (pg_i 193).1 = 3 from rfl, show pm_r 193 = (Option.some Jvm.ClassFile.FieldType.boolean) from rfl]
  exact tb_g (tb_7 (List.mem_of_getElem? (i := 221) rfl)) rfl
theorem tb_y194 : pm_y 194 = (⟨"LentNamesModel", "readAll", "(Z)I"⟩ : MethodName) := rfl
theorem tb_b194 : pm_b 194 = prog_14_method_44_code := rfl
theorem tb_m194 : iv_MW 194 ∈ iv_T := by
  rw [iv_MW0 (show pm_h 194 = [] from rfl), tb_y194, tb_b194, show (pg_i 194).1 = 3 from rfl, show pm_r 194 = (Option.some Jvm.ClassFile.FieldType.int) from rfl]
  exact tb_g (tb_7 (List.mem_of_getElem? (i := 117) rfl)) rfl
theorem tb_y195 : pm_y 195 = (⟨"LentNamesModel", "tell", "()I"⟩ : MethodName) := rfl
theorem tb_b195 : pm_b 195 = prog_14_method_45_code := rfl
theorem tb_m195 : iv_MW 195 ∈ iv_T := by
  rw [iv_MW0 (show pm_h 195 = [] from rfl), tb_y195, tb_b195, show (pg_i 195).1 = 3 from rfl, show pm_r 195 = (Option.some Jvm.ClassFile.FieldType.int) from rfl]
  exact tb_g (tb_7 (List.mem_of_getElem? (i := 113) rfl)) rfl
theorem tb_y196 : pm_y 196 = (⟨"LentNamesModel", "custom", "()I"⟩ : MethodName) := rfl
theorem tb_b196 : pm_b 196 = prog_14_method_46_code := rfl
theorem tb_m196 : iv_MW 196 ∈ iv_T := by
  rw [iv_MW0 (show pm_h 196 = [] from rfl), tb_y196, tb_b196, show (pg_i 196).1 = 3 from rfl, show pm_r 196 = (Option.some Jvm.ClassFile.FieldType.int) from rfl]
  exact tb_g (tb_8 (List.mem_of_getElem? (i := 28) rfl)) rfl
theorem tb_y197 : pm_y 197 = (⟨"LentNamesModel", "people", "(I)V"⟩ : MethodName) := rfl
theorem tb_b197 : pm_b 197 = prog_14_method_47_code := rfl
theorem tb_m197 : iv_MW 197 ∈ iv_T := by
  rw [iv_MW0 (show pm_h 197 = [] from rfl), tb_y197, tb_b197, show (pg_i 197).1 = 2 from rfl, show pm_r 197 = (Option.none : Option Jvm.ClassFile.FieldType) from rfl]
  exact tb_g (tb_8 (List.mem_of_getElem? (i := 32) rfl)) rfl
theorem tb_y198 : pm_y 198 = (⟨"LentNamesModel", "holdsLine", "(I)Z"⟩ : MethodName) := rfl
theorem tb_b198 : pm_b 198 = prog_14_method_48_code := rfl
theorem tb_m198 : iv_MW 198 ∈ iv_T := by
  rw [iv_MW0 (show pm_h 198 = [] from rfl), tb_y198, tb_b198, show (pg_i 198).1 = 9 from rfl, show pm_r 198 = (Option.some Jvm.ClassFile.FieldType.boolean) from rfl]
  exact tb_g (tb_8 (List.mem_of_getElem? (i := 106) rfl)) rfl
theorem tb_y199 : pm_y 199 = (⟨"LentNamesModel", "isGranted", "()Z"⟩ : MethodName) := rfl
theorem tb_b199 : pm_b 199 = prog_14_method_49_code := rfl
theorem tb_m199 : iv_MW 199 ∈ iv_T := by
  rw [iv_MW0 (show pm_h 199 = [] from rfl), tb_y199, tb_b199, show (pg_i 199).1 = 2 from rfl, show pm_r 199 = (Option.some Jvm.ClassFile.FieldType.boolean) from rfl]
  exact tb_g (tb_8 (List.mem_of_getElem? (i := 102) rfl)) rfl
theorem tb_y200 : pm_y 200 = (⟨"LentNamesModel", "alive", "(II)Z"⟩ : MethodName) := rfl
theorem tb_b200 : pm_b 200 = prog_14_method_50_code := rfl
theorem tb_m200 : iv_MW 200 ∈ iv_T := by
  rw [iv_MW0 (show pm_h 200 = [] from rfl), tb_y200, tb_b200, show (pg_i 200).1 = 3 from rfl, show pm_r 200 = (Option.some Jvm.ClassFile.FieldType.boolean) from rfl]
  exact tb_g (tb_8 (List.mem_of_getElem? (i := 90) rfl)) rfl
theorem tb_y201 : pm_y 201 = (⟨"LentNamesModel", "lastDay", "(I)I"⟩ : MethodName) := rfl
theorem tb_b201 : pm_b 201 = prog_14_method_51_code := rfl
theorem tb_m201 : iv_MW 201 ∈ iv_T := by
  rw [iv_MW0 (show pm_h 201 = [] from rfl), tb_y201, tb_b201, show (pg_i 201).1 = 2 from rfl, show pm_r 201 = (Option.some Jvm.ClassFile.FieldType.int) from rfl]
  exact tb_g (tb_8 (List.mem_of_getElem? (i := 62) rfl)) rfl
theorem tb_y202 : pm_y 202 = (⟨"LentNamesModel", "isOver", "(II)Z"⟩ : MethodName) := rfl
theorem tb_b202 : pm_b 202 = prog_14_method_52_code := rfl
theorem tb_m202 : iv_MW 202 ∈ iv_T := by
  rw [iv_MW0 (show pm_h 202 = [] from rfl), tb_y202, tb_b202, show (pg_i 202).1 = 3 from rfl, show pm_r 202 = (Option.some Jvm.ClassFile.FieldType.boolean) from rfl]
  exact tb_g (tb_8 (List.mem_of_getElem? (i := 82) rfl)) rfl
theorem tb_y203 : pm_y 203 = (⟨"LentNamesModel", "holder", "(I)I"⟩ : MethodName) := rfl
theorem tb_b203 : pm_b 203 = prog_14_method_53_code := rfl
theorem tb_m203 : iv_MW 203 ∈ iv_T := by
  rw [iv_MW0 (show pm_h 203 = [] from rfl), tb_y203, tb_b203, show (pg_i 203).1 = 2 from rfl, show pm_r 203 = (Option.some Jvm.ClassFile.FieldType.int) from rfl]
  exact tb_g (tb_8 (List.mem_of_getElem? (i := 86) rfl)) rfl
theorem tb_y204 : pm_y 204 = (⟨"LentNamesModel", "isRight", "(II)Z"⟩ : MethodName) := rfl
theorem tb_b204 : pm_b 204 = prog_14_method_54_code := rfl
theorem tb_m204 : iv_MW 204 ∈ iv_T := by
  rw [iv_MW0 (show pm_h 204 = [] from rfl), tb_y204, tb_b204, show (pg_i 204).1 = 5 from rfl, show pm_r 204 = (Option.some Jvm.ClassFile.FieldType.boolean) from rfl]
  exact tb_g (tb_8 (List.mem_of_getElem? (i := 78) rfl)) rfl
theorem tb_y205 : pm_y 205 = (⟨"LentNamesModel", "endsTo", "(III)V"⟩ : MethodName) := rfl
theorem tb_b205 : pm_b 205 = prog_14_method_55_code := rfl
theorem tb_m205 : iv_MW 205 ∈ iv_T := by
  rw [iv_MW0 (show pm_h 205 = [] from rfl), tb_y205, tb_b205, show (pg_i 205).1 = 4 from rfl, show pm_r 205 = (Option.none : Option Jvm.ClassFile.FieldType) from rfl]
  exact tb_g (tb_8 (List.mem_of_getElem? (i := 70) rfl)) rfl
theorem tb_y206 : pm_y 206 = (⟨"LentNamesModel", "ends", "(II)V"⟩ : MethodName) := rfl
theorem tb_b206 : pm_b 206 = prog_14_method_56_code := rfl
theorem tb_m206 : iv_MW 206 ∈ iv_T := by
  rw [iv_MW0 (show pm_h 206 = [] from rfl), tb_y206, tb_b206, show (pg_i 206).1 = 4 from rfl, show pm_r 206 = (Option.none : Option Jvm.ClassFile.FieldType) from rfl]
  exact tb_g (tb_8 (List.mem_of_getElem? (i := 58) rfl)) rfl
theorem tb_y207 : pm_y 207 = (⟨"LentNamesModel", "judges", "(II)V"⟩ : MethodName) := rfl
theorem tb_b207 : pm_b 207 = prog_14_method_57_code := rfl
theorem tb_m207 : iv_MW 207 ∈ iv_T := by
  rw [iv_MW0 (show pm_h 207 = [] from rfl), tb_y207, tb_b207, show (pg_i 207).1 = 3 from rfl, show pm_r 207 = (Option.none : Option Jvm.ClassFile.FieldType) from rfl]
  exact tb_g (tb_8 (List.mem_of_getElem? (i := 74) rfl)) rfl
theorem tb_y208 : pm_y 208 = (⟨"LentNamesModel", "bornBy", "(II)I"⟩ : MethodName) := rfl
theorem tb_b208 : pm_b 208 = prog_14_method_58_code := rfl
theorem tb_m208 : iv_MW 208 ∈ iv_T := by
  rw [iv_MW0 (show pm_h 208 = [] from rfl), tb_y208, tb_b208, show (pg_i 208).1 = 5 from rfl, show pm_r 208 = (Option.some Jvm.ClassFile.FieldType.int) from rfl]
  exact tb_g (tb_8 (List.mem_of_getElem? (i := 98) rfl)) rfl
theorem tb_y209 : pm_y 209 = (⟨"LentNamesModel", "begins", "(II)V"⟩ : MethodName) := rfl
theorem tb_b209 : pm_b 209 = prog_14_method_59_code := rfl
theorem tb_m209 : iv_MW 209 ∈ iv_T := by
  rw [iv_MW0 (show pm_h 209 = [] from rfl), tb_y209, tb_b209, show (pg_i 209).1 = 7 from rfl, show pm_r 209 = (Option.none : Option Jvm.ClassFile.FieldType) from rfl]
  exact tb_g (tb_8 (List.mem_of_getElem? (i := 94) rfl)) rfl
theorem tb_y210 : pm_y 210 = (⟨"LentNamesModel", "goesOn", "()V"⟩ : MethodName) := rfl
theorem tb_b210 : pm_b 210 = prog_14_method_60_code := rfl
theorem tb_m210 : iv_MW 210 ∈ iv_T := by
  rw [iv_MW0 (show pm_h 210 = [] from rfl), tb_y210, tb_b210, show (pg_i 210).1 = 5 from rfl, show pm_r 210 = (Option.none : Option Jvm.ClassFile.FieldType) from rfl]
  exact tb_g (tb_8 (List.mem_of_getElem? (i := 54) rfl)) rfl
theorem tb_y211 : pm_y 211 = (⟨"LentNamesModel", "base", "(II)I"⟩ : MethodName) := rfl
theorem tb_b211 : pm_b 211 = prog_14_method_61_code := rfl
theorem tb_m211 : iv_MW 211 ∈ iv_T := by
  rw [iv_MW0 (show pm_h 211 = [] from rfl), tb_y211, tb_b211, show (pg_i 211).1 = 3 from rfl, show pm_r 211 = (Option.some Jvm.ClassFile.FieldType.int) from rfl]
  exact tb_g (tb_8 (List.mem_of_getElem? (i := 110) rfl)) rfl
theorem tb_y212 : pm_y 212 = (⟨"LentNamesModel", "bears", "(II)I"⟩ : MethodName) := rfl
theorem tb_b212 : pm_b 212 = prog_14_method_62_code := rfl
theorem tb_m212 : iv_MW 212 ∈ iv_T := by
  rw [iv_MW0 (show pm_h 212 = [] from rfl), tb_y212, tb_b212, show (pg_i 212).1 = 3 from rfl, show pm_r 212 = (Option.some Jvm.ClassFile.FieldType.int) from rfl]
  exact tb_g (tb_8 (List.mem_of_getElem? (i := 39) rfl)) rfl
theorem tb_y213 : pm_y 213 = (⟨"LentNamesModel", "namesOf", "(II)I"⟩ : MethodName) := rfl
theorem tb_b213 : pm_b 213 = prog_14_method_63_code := rfl
theorem tb_m213 : iv_MW 213 ∈ iv_T := by
  rw [iv_MW0 (show pm_h 213 = [] from rfl), tb_y213, tb_b213, show (pg_i 213).1 = 5 from rfl, show pm_r 213 = (Option.some Jvm.ClassFile.FieldType.int) from rfl]
  exact tb_g (tb_8 (List.mem_of_getElem? (i := 118) rfl)) rfl
theorem tb_y214 : pm_y 214 = (⟨"LentNamesModel", "names", "(II)I"⟩ : MethodName) := rfl
theorem tb_b214 : pm_b 214 = prog_14_method_64_code := rfl
theorem tb_m214 : iv_MW 214 ∈ iv_T := by
  rw [iv_MW0 (show pm_h 214 = [] from rfl), tb_y214, tb_b214, show (pg_i 214).1 = 3 from rfl, show pm_r 214 = (Option.some Jvm.ClassFile.FieldType.int) from rfl]
  exact tb_g (tb_8 (List.mem_of_getElem? (i := 114) rfl)) rfl
theorem tb_y215 : pm_y 215 = (⟨"LentNamesModel", "how", "(II)I"⟩ : MethodName) := rfl
theorem tb_b215 : pm_b 215 = prog_14_method_65_code := rfl
theorem tb_m215 : iv_MW 215 ∈ iv_T := by
  rw [iv_MW0 (show pm_h 215 = [] from rfl), tb_y215, tb_b215, show (pg_i 215).1 = 6 from rfl, show pm_r 215 = (Option.some Jvm.ClassFile.FieldType.int) from rfl]
  exact tb_g (tb_8 (List.mem_of_getElem? (i := 122) rfl)) rfl
theorem tb_y216 : pm_y 216 = (⟨"LentNamesModel", "row", "(III)I"⟩ : MethodName) := rfl
theorem tb_b216 : pm_b 216 = prog_14_method_66_code := rfl
theorem tb_m216 : iv_MW 216 ∈ iv_T := by
  rw [iv_MW0 (show pm_h 216 = [] from rfl), tb_y216, tb_b216, show (pg_i 216).1 = 5 from rfl, show pm_r 216 = (Option.some Jvm.ClassFile.FieldType.int) from rfl]
  exact tb_g (tb_8 (List.mem_of_getElem? (i := 126) rfl)) rfl
theorem tb_y217 : pm_y 217 = (⟨"LentNamesModel", "borneBy", "(II)I"⟩ : MethodName) := rfl
theorem tb_b217 : pm_b 217 = prog_14_method_67_code := rfl
theorem tb_m217 : iv_MW 217 ∈ iv_T := by
  rw [iv_MW0 (show pm_h 217 = [] from rfl), tb_y217, tb_b217, show (pg_i 217).1 = 3 from rfl, show pm_r 217 = (Option.some Jvm.ClassFile.FieldType.int) from rfl]
  exact tb_g (tb_8 (List.mem_of_getElem? (i := 138) rfl)) rfl
theorem tb_y218 : pm_y 218 = (⟨"LentNamesModel", "isNameless", "(II)Z"⟩ : MethodName) := rfl
theorem tb_b218 : pm_b 218 = prog_14_method_68_code := rfl
theorem tb_m218 : iv_MW 218 ∈ iv_T := by
  rw [iv_MW0 (show pm_h 218 = [] from rfl), tb_y218, tb_b218, show (pg_i 218).1 = 5 from rfl, show pm_r 218 = (Option.some Jvm.ClassFile.FieldType.boolean) from rfl]
  exact tb_g (tb_8 (List.mem_of_getElem? (i := 134) rfl)) rfl
theorem tb_y219 : pm_y 219 = (⟨"LentNamesModel", "nameless", "(I)I"⟩ : MethodName) := rfl
theorem tb_b219 : pm_b 219 = prog_14_method_69_code := rfl
theorem tb_m219 : iv_MW 219 ∈ iv_T := by
  rw [iv_MW0 (show pm_h 219 = [] from rfl), tb_y219, tb_b219, show (pg_i 219).1 = 4 from rfl, show pm_r 219 = (Option.some Jvm.ClassFile.FieldType.int) from rfl]
  exact tb_g (tb_8 (List.mem_of_getElem? (i := 130) rfl)) rfl
theorem tb_y220 : pm_y 220 = (⟨"LentNamesModel", "longest", "(I)I"⟩ : MethodName) := rfl
theorem tb_b220 : pm_b 220 = prog_14_method_70_code := rfl
theorem tb_m220 : iv_MW 220 ∈ iv_T := by
  rw [iv_MW0 (show pm_h 220 = [] from rfl), tb_y220, tb_b220, show (pg_i 220).1 = 5 from rfl, show pm_r 220 = (Option.some Jvm.ClassFile.FieldType.int) from rfl]
  exact tb_g (tb_8 (List.mem_of_getElem? (i := 142) rfl)) rfl
theorem tb_y221 : pm_y 221 = (⟨"LentNamesModel", "lives", "(II)Z"⟩ : MethodName) := rfl
theorem tb_b221 : pm_b 221 = prog_14_method_71_code := rfl
theorem tb_m221 : iv_MW 221 ∈ iv_T := by
  rw [iv_MW0 (show pm_h 221 = [] from rfl), tb_y221, tb_b221, show (pg_i 221).1 = 3 from rfl, show pm_r 221 = (Option.some Jvm.ClassFile.FieldType.boolean) from rfl]
  exact tb_g (tb_8 (List.mem_of_getElem? (i := 147) rfl)) rfl
theorem tb_y222 : pm_y 222 = (⟨"LentNamesModel", "isRefused", "(I)Z"⟩ : MethodName) := rfl
theorem tb_b222 : pm_b 222 = prog_14_method_72_code := rfl
theorem tb_m222 : iv_MW 222 ∈ iv_T := by
  rw [iv_MW0 (show pm_h 222 = [] from rfl), tb_y222, tb_b222, show (pg_i 222).1 = 2 from rfl, show pm_r 222 = (Option.some Jvm.ClassFile.FieldType.boolean) from rfl]
  exact tb_g (tb_8 (List.mem_of_getElem? (i := 155) rfl)) rfl
theorem tb_y223 : pm_y 223 = (⟨"LentNamesModel", "look", "(II)I"⟩ : MethodName) := rfl
theorem tb_b223 : pm_b 223 = prog_14_method_73_code := rfl
theorem tb_m223 : iv_MW 223 ∈ iv_T := by
  rw [iv_MW0 (show pm_h 223 = [] from rfl), tb_y223, tb_b223, show (pg_i 223).1 = 3 from rfl, show pm_r 223 = (Option.some Jvm.ClassFile.FieldType.int) from rfl]
  exact tb_g (tb_8 (List.mem_of_getElem? (i := 151) rfl)) rfl
theorem tb_y224 : pm_y 224 = (⟨"LentNamesModel", "owes", "(IZ)I"⟩ : MethodName) := rfl
theorem tb_b224 : pm_b 224 = prog_14_method_74_code := rfl
theorem tb_m224 : iv_MW 224 ∈ iv_T := by
  rw [iv_MW0 (show pm_h 224 = [] from rfl), tb_y224, tb_b224, show (pg_i 224).1 = 5 from rfl, show pm_r 224 = (Option.some Jvm.ClassFile.FieldType.int) from rfl]
  exact tb_g (tb_8 (List.mem_of_getElem? (i := 159) rfl)) rfl
theorem tb_y225 : pm_y 225 = (⟨"LentNamesModel", "noLetter", "(I)Z"⟩ : MethodName) := rfl
theorem tb_b225 : pm_b 225 = prog_14_method_75_code := rfl
theorem tb_m225 : iv_MW 225 ∈ iv_T := by
  rw [iv_MW0 (show pm_h 225 = [] from rfl), tb_y225, tb_b225, show (pg_i 225).1 = 2 from rfl, show pm_r 225 = (Option.some Jvm.ClassFile.FieldType.boolean) from rfl]
  exact tb_g (tb_8 (List.mem_of_getElem? (i := 167) rfl)) rfl
theorem tb_y226 : pm_y 226 = (⟨"LentNamesModel", "letter", "(II)I"⟩ : MethodName) := rfl
theorem tb_b226 : pm_b 226 = prog_14_method_76_code := rfl
theorem tb_m226 : iv_MW 226 ∈ iv_T := by
  rw [iv_MW0 (show pm_h 226 = [] from rfl), tb_y226, tb_b226, show (pg_i 226).1 = 5 from rfl, show pm_r 226 = (Option.some Jvm.ClassFile.FieldType.int) from rfl]
  exact tb_g (tb_8 (List.mem_of_getElem? (i := 163) rfl)) rfl
theorem tb_y227 : pm_y 227 = (⟨"LentNamesModel", "noDebt", "(I)Z"⟩ : MethodName) := rfl
theorem tb_b227 : pm_b 227 = prog_14_method_77_code := rfl
theorem tb_m227 : iv_MW 227 ∈ iv_T := by
  rw [iv_MW0 (show pm_h 227 = [] from rfl), tb_y227, tb_b227, show (pg_i 227).1 = 2 from rfl, show pm_r 227 = (Option.some Jvm.ClassFile.FieldType.boolean) from rfl]
  exact tb_g (tb_8 (List.mem_of_getElem? (i := 179) rfl)) rfl
theorem tb_y228 : pm_y 228 = (⟨"LentNamesModel", "payer", "(I)I"⟩ : MethodName) := rfl
theorem tb_b228 : pm_b 228 = prog_14_method_78_code := rfl
theorem tb_m228 : iv_MW 228 ∈ iv_T := by
  rw [iv_MW0 (show pm_h 228 = [] from rfl), tb_y228, tb_b228, show (pg_i 228).1 = 4 from rfl, show pm_r 228 = (Option.some Jvm.ClassFile.FieldType.int) from rfl]
  exact tb_g (tb_8 (List.mem_of_getElem? (i := 183) rfl)) rfl
theorem tb_y229 : pm_y 229 = (⟨"LentNamesModel", "pays", "(I)I"⟩ : MethodName) := rfl
theorem tb_b229 : pm_b 229 = prog_14_method_79_code := rfl
theorem tb_m229 : iv_MW 229 ∈ iv_T := by
  rw [iv_MW0 (show pm_h 229 = [] from rfl), tb_y229, tb_b229, show (pg_i 229).1 = 2 from rfl, show pm_r 229 = (Option.some Jvm.ClassFile.FieldType.int) from rfl]
  exact tb_g (tb_8 (List.mem_of_getElem? (i := 175) rfl)) rfl
theorem tb_y230 : pm_y 230 = (⟨"LentNamesModel", "bill", "(I)I"⟩ : MethodName) := rfl
theorem tb_b230 : pm_b 230 = prog_14_method_80_code := rfl
theorem tb_m230 : iv_MW 230 ∈ iv_T := by
  rw [iv_MW0 (show pm_h 230 = [] from rfl), tb_y230, tb_b230, show (pg_i 230).1 = 4 from rfl, show pm_r 230 = (Option.some Jvm.ClassFile.FieldType.int) from rfl]
  exact tb_g (tb_8 (List.mem_of_getElem? (i := 191) rfl)) rfl
theorem tb_y231 : pm_y 231 = (⟨"LentNamesModel", "purse", "(II)I"⟩ : MethodName) := rfl
theorem tb_b231 : pm_b 231 = prog_14_method_81_code := rfl
theorem tb_m231 : iv_MW 231 ∈ iv_T := by
  rw [iv_MW0 (show pm_h 231 = [] from rfl), tb_y231, tb_b231, show (pg_i 231).1 = 4 from rfl, show pm_r 231 = (Option.some Jvm.ClassFile.FieldType.int) from rfl]
  exact tb_g (tb_8 (List.mem_of_getElem? (i := 195) rfl)) rfl
theorem tb_y232 : pm_y 232 = (⟨"LentNamesModel", "paysAll", "()V"⟩ : MethodName) := rfl
theorem tb_b232 : pm_b 232 = prog_14_method_82_code := rfl
theorem tb_m232 : iv_MW 232 ∈ iv_T := by
  rw [iv_MW0 (show pm_h 232 = [] from rfl), tb_y232, tb_b232, show (pg_i 232).1 = 4 from rfl, show pm_r 232 = (Option.none : Option Jvm.ClassFile.FieldType) from rfl]
  exact tb_g (tb_8 (List.mem_of_getElem? (i := 203) rfl)) rfl
theorem tb_y233 : pm_y 233 = (⟨"LentNamesModel", "left", "(I)I"⟩ : MethodName) := rfl
theorem tb_b233 : pm_b 233 = prog_14_method_83_code := rfl
theorem tb_m233 : iv_MW 233 ∈ iv_T := by
  rw [iv_MW0 (show pm_h 233 = [] from rfl), tb_y233, tb_b233, show (pg_i 233).1 = 2 from rfl, show pm_r 233 = (Option.some Jvm.ClassFile.FieldType.int) from rfl]
  exact tb_g (tb_8 (List.mem_of_getElem? (i := 199) rfl)) rfl
theorem tb_y234 : pm_y 234 = (⟨"LentNamesModel", "unpaid", "()I"⟩ : MethodName) := rfl
theorem tb_b234 : pm_b 234 = prog_14_method_84_code := rfl
theorem tb_m234 : iv_MW 234 ∈ iv_T := by
  rw [iv_MW0 (show pm_h 234 = [] from rfl), tb_y234, tb_b234, show (pg_i 234).1 = 1 from rfl, show pm_r 234 = (Option.some Jvm.ClassFile.FieldType.int) from rfl]
  exact tb_g (tb_8 (List.mem_of_getElem? (i := 207) rfl)) rfl
theorem tb_y235 : pm_y 235 = (⟨"LentNamesModel", "meets", "(I)I"⟩ : MethodName) := rfl
theorem tb_b235 : pm_b 235 = prog_14_method_85_code := rfl
theorem tb_m235 : iv_MW 235 ∈ iv_T := by
  rw [iv_MW0 (show pm_h 235 = [] from rfl), tb_y235, tb_b235, show (pg_i 235).1 = 4 from rfl, show pm_r 235 = (Option.some Jvm.ClassFile.FieldType.int) from rfl]
  exact tb_g (tb_8 (List.mem_of_getElem? (i := 211) rfl)) rfl
theorem tb_y236 : pm_y 236 = (⟨"LentNamesModel", "handsOf", "(I)I"⟩ : MethodName) := rfl
theorem tb_b236 : pm_b 236 = prog_14_method_86_code := rfl
theorem tb_m236 : iv_MW 236 ∈ iv_T := by
  rw [iv_MW0 (show pm_h 236 = [] from rfl), tb_y236, tb_b236, show (pg_i 236).1 = 4 from rfl, show pm_r 236 = (Option.some Jvm.ClassFile.FieldType.int) from rfl]
  exact tb_g (tb_8 (List.mem_of_getElem? (i := 219) rfl)) rfl
theorem tb_y237 : pm_y 237 = (⟨"LentNamesModel", "way", "(IZ)I"⟩ : MethodName) := rfl
theorem tb_b237 : pm_b 237 = prog_14_method_87_code := rfl
theorem tb_m237 : iv_MW 237 ∈ iv_T := by
  rw [iv_MW0 (show pm_h 237 = [] from rfl), tb_y237, tb_b237, show (pg_i 237).1 = 5 from rfl, show pm_r 237 = (Option.some Jvm.ClassFile.FieldType.int) from rfl]
  exact tb_g (tb_8 (List.mem_of_getElem? (i := 215) rfl)) rfl
theorem tb_y238 : pm_y 238 = (⟨"LentNamesModel", "busiest", "()I"⟩ : MethodName) := rfl
theorem tb_b238 : pm_b 238 = prog_14_method_88_code := rfl
theorem tb_m238 : iv_MW 238 ∈ iv_T := by
  rw [iv_MW0 (show pm_h 238 = [] from rfl), tb_y238, tb_b238, show (pg_i 238).1 = 3 from rfl, show pm_r 238 = (Option.some Jvm.ClassFile.FieldType.int) from rfl]
  exact tb_g (tb_8 (List.mem_of_getElem? (i := 223) rfl)) rfl
theorem tb_y239 : pm_y 239 = (⟨"LentNamesModel", "rich", "(I)I"⟩ : MethodName) := rfl
theorem tb_b239 : pm_b 239 = prog_14_method_89_code := rfl
theorem tb_m239 : iv_MW 239 ∈ iv_T := by
  rw [iv_MW0 (show pm_h 239 = [] from rfl), tb_y239, tb_b239, show (pg_i 239).1 = 4 from rfl, show pm_r 239 = (Option.some Jvm.ClassFile.FieldType.int) from rfl]
  exact tb_g (tb_8 (List.mem_of_getElem? (i := 227) rfl)) rfl
theorem tb_y240 : pm_y 240 = (⟨"LentNamesModel", "borne", "(II)I"⟩ : MethodName) := rfl
theorem tb_b240 : pm_b 240 = prog_14_method_90_code := rfl
theorem tb_m240 : iv_MW 240 ∈ iv_T := by
  rw [iv_MW0 (show pm_h 240 = [] from rfl), tb_y240, tb_b240, show (pg_i 240).1 = 5 from rfl, show pm_r 240 = (Option.some Jvm.ClassFile.FieldType.int) from rfl]
  exact tb_g (tb_8 (List.mem_of_getElem? (i := 232) rfl)) rfl
theorem tb_y241 : pm_y 241 = (⟨"LentNamesModel", "again", "(II)I"⟩ : MethodName) := rfl
theorem tb_b241 : pm_b 241 = prog_14_method_91_code := rfl
theorem tb_m241 : iv_MW 241 ∈ iv_T := by
  rw [iv_MW0 (show pm_h 241 = [] from rfl), tb_y241, tb_b241, show (pg_i 241).1 = 4 from rfl, show pm_r 241 = (Option.some Jvm.ClassFile.FieldType.int) from rfl]
  exact tb_g (tb_8 (List.mem_of_getElem? (i := 236) rfl)) rfl
theorem tb_y242 : pm_y 242 = (⟨"LentNamesModel", "nameOf", "(I)I"⟩ : MethodName) := rfl
theorem tb_b242 : pm_b 242 = prog_14_method_92_code := rfl
theorem tb_m242 : iv_MW 242 ∈ iv_T := by
  rw [iv_MW0 (show pm_h 242 = [] from rfl), tb_y242, tb_b242, show (pg_i 242).1 = 1 from rfl, show pm_r 242 = (Option.some Jvm.ClassFile.FieldType.int) from rfl]
  exact tb_g (tb_9 (List.mem_of_getElem? (i := 61) rfl)) rfl
theorem tb_y243 : pm_y 243 = (⟨"LentNamesModel", "bodyOf", "(I)I"⟩ : MethodName) := rfl
theorem tb_b243 : pm_b 243 = prog_14_method_93_code := rfl
theorem tb_m243 : iv_MW 243 ∈ iv_T := by
  rw [iv_MW0 (show pm_h 243 = [] from rfl), tb_y243, tb_b243, show (pg_i 243).1 = 1 from rfl, show pm_r 243 = (Option.some Jvm.ClassFile.FieldType.int) from rfl]
  exact tb_g (tb_9 (List.mem_of_getElem? (i := 64) rfl)) rfl
theorem tb_y244 : pm_y 244 = (⟨"LentNamesModel", "firstOf", "(I)I"⟩ : MethodName) := rfl
theorem tb_b244 : pm_b 244 = prog_14_method_94_code := rfl
theorem tb_m244 : iv_MW 244 ∈ iv_T := by
  rw [iv_MW0 (show pm_h 244 = [] from rfl), tb_y244, tb_b244, show (pg_i 244).1 = 1 from rfl, show pm_r 244 = (Option.some Jvm.ClassFile.FieldType.int) from rfl]
  exact tb_g (tb_9 (List.mem_of_getElem? (i := 55) rfl)) rfl
theorem tb_y245 : pm_y 245 = (⟨"LentNamesModel", "lastOf", "(I)I"⟩ : MethodName) := rfl
theorem tb_b245 : pm_b 245 = prog_14_method_95_code := rfl
theorem tb_m245 : iv_MW 245 ∈ iv_T := by
  rw [iv_MW0 (show pm_h 245 = [] from rfl), tb_y245, tb_b245, show (pg_i 245).1 = 1 from rfl, show pm_r 245 = (Option.some Jvm.ClassFile.FieldType.int) from rfl]
  exact tb_g (tb_9 (List.mem_of_getElem? (i := 58) rfl)) rfl
theorem tb_y246 : pm_y 246 = (⟨"LentNamesModel", "told", "(I)I"⟩ : MethodName) := rfl
theorem tb_b246 : pm_b 246 = prog_14_method_96_code := rfl
theorem tb_m246 : iv_MW 246 ∈ iv_T := by
  rw [iv_MW0 (show pm_h 246 = [] from rfl), tb_y246, tb_b246, show (pg_i 246).1 = 1 from rfl, show pm_r 246 = (Option.some Jvm.ClassFile.FieldType.int) from rfl]
  exact tb_g (tb_9 (List.mem_of_getElem? (i := 83) rfl)) rfl
theorem tb_y247 : pm_y 247 = (⟨"LentNamesModel", "canBe", "(I)Z"⟩ : MethodName) := rfl
theorem tb_b247 : pm_b 247 = prog_14_method_97_code := rfl
theorem tb_m247 : iv_MW 247 ∈ iv_T := by
  rw [iv_MW0 (show pm_h 247 = [] from rfl), tb_y247, tb_b247, show (pg_i 247).1 = 6 from rfl, show pm_r 247 = (Option.some Jvm.ClassFile.FieldType.boolean) from rfl]
  exact tb_g (tb_9 (List.mem_of_getElem? (i := 80) rfl)) rfl
theorem tb_y248 : pm_y 248 = (⟨"LentNamesModel", "lays", "(IZ)V"⟩ : MethodName) := rfl
theorem tb_b248 : pm_b 248 = prog_14_method_98_code := rfl
theorem tb_m248 : iv_MW 248 ∈ iv_T := by
  rw [iv_MW0 (show pm_h 248 = [] from rfl), tb_y248, tb_b248, show (pg_i 248).1 = 4 from rfl, show pm_r 248 = (Option.none : Option Jvm.ClassFile.FieldType) from rfl]
  exact tb_g (tb_9 (List.mem_of_getElem? (i := 52) rfl)) rfl
theorem tb_y249 : pm_y 249 = (⟨"LentNamesModel", "isKnown", "(I)Z"⟩ : MethodName) := rfl
theorem tb_b249 : pm_b 249 = prog_14_method_99_code := rfl
theorem tb_m249 : iv_MW 249 ∈ iv_T := by
  rw [iv_MW0 (show pm_h 249 = [] from rfl), tb_y249, tb_b249, show (pg_i 249).1 = 2 from rfl, show pm_r 249 = (Option.some Jvm.ClassFile.FieldType.boolean) from rfl]
  exact tb_g (tb_9 (List.mem_of_getElem? (i := 32) rfl)) rfl
theorem tb_y250 : pm_y 250 = (⟨"LentNamesModel", "agrees", "(I)Z"⟩ : MethodName) := rfl
theorem tb_b250 : pm_b 250 = prog_14_method_100_code := rfl
theorem tb_m250 : iv_MW 250 ∈ iv_T := by
  rw [iv_MW0 (show pm_h 250 = [] from rfl), tb_y250, tb_b250, show (pg_i 250).1 = 3 from rfl, show pm_r 250 = (Option.some Jvm.ClassFile.FieldType.boolean) from rfl]
  exact tb_g (tb_9 (List.mem_of_getElem? (i := 40) rfl)) rfl
theorem tb_y251 : pm_y 251 = (⟨"LentNamesModel", "tooLong", "(I)I"⟩ : MethodName) := rfl
theorem tb_b251 : pm_b 251 = prog_14_method_101_code := rfl
theorem tb_m251 : iv_MW 251 ∈ iv_T := by
  rw [iv_MW0 (show pm_h 251 = [] from rfl), tb_y251, tb_b251, show (pg_i 251).1 = 4 from rfl, show pm_r 251 = (Option.some Jvm.ClassFile.FieldType.int) from rfl]
  exact tb_g (tb_9 (List.mem_of_getElem? (i := 44) rfl)) rfl
theorem tb_y252 : pm_y 252 = (⟨"LentNamesModel", "isWished", "(I)Z"⟩ : MethodName) := rfl
theorem tb_b252 : pm_b 252 = prog_14_method_102_code := rfl
theorem tb_m252 : iv_MW 252 ∈ iv_T := by
  rw [iv_MW0 (show pm_h 252 = [] from rfl), tb_y252, tb_b252, show (pg_i 252).1 = 2 from rfl, show pm_r 252 = (Option.some Jvm.ClassFile.FieldType.boolean) from rfl]
  exact tb_g (tb_9 (List.mem_of_getElem? (i := 8) rfl)) rfl
theorem tb_y253 : pm_y 253 = (⟨"LentNamesModel", "isHad", "(I)Z"⟩ : MethodName) := rfl
theorem tb_b253 : pm_b 253 = prog_14_method_103_code := rfl
theorem tb_m253 : iv_MW 253 ∈ iv_T := by
  rw [iv_MW0 (show pm_h 253 = [] from rfl), tb_y253, tb_b253, show (pg_i 253).1 = 2 from rfl, show pm_r 253 = (Option.some Jvm.ClassFile.FieldType.boolean) from rfl]
  exact tb_g (tb_9 (List.mem_of_getElem? (i := 12) rfl)) rfl
theorem tb_y254 : pm_y 254 = (⟨"LentNamesModel", "arrives", "(I)I"⟩ : MethodName) := rfl
theorem tb_b254 : pm_b 254 = prog_14_method_104_code := rfl
theorem tb_m254 : iv_MW 254 ∈ iv_T := by
  rw [iv_MW0 (show pm_h 254 = [] from rfl), tb_y254, tb_b254, show (pg_i 254).1 = 4 from rfl, show pm_r 254 = (Option.some Jvm.ClassFile.FieldType.int) from rfl]
  exact tb_g (tb_9 (List.mem_of_getElem? (i := 28) rfl)) rfl
theorem tb_y255 : pm_y 255 = (⟨"LentNamesModel", "isSeenDay", "(II)Z"⟩ : MethodName) := rfl
theorem tb_b255 : pm_b 255 = prog_14_method_105_code := rfl
theorem tb_m255 : iv_MW 255 ∈ iv_T := by
  rw [iv_MW0 (show pm_h 255 = [] from rfl), tb_y255, tb_b255, show (pg_i 255).1 = 5 from rfl, show pm_r 255 = (Option.some Jvm.ClassFile.FieldType.boolean) from rfl]
  exact tb_g (tb_9 (List.mem_of_getElem? (i := 76) rfl)) rfl
theorem tb_y256 : pm_y 256 = (⟨"LentNamesModel", "isAsked", "(II)Z"⟩ : MethodName) := rfl
theorem tb_b256 : pm_b 256 = prog_14_method_106_code := rfl
theorem tb_m256 : iv_MW 256 ∈ iv_T := by
  rw [iv_MW0 (show pm_h 256 = [] from rfl), tb_y256, tb_b256, show (pg_i 256).1 = 8 from rfl, show pm_r 256 = (Option.some Jvm.ClassFile.FieldType.boolean) from rfl]
  exact tb_g (tb_9 (List.mem_of_getElem? (i := 72) rfl)) rfl
theorem tb_y257 : pm_y 257 = (⟨"LentNamesModel", "nextOf", "(I)I"⟩ : MethodName) := rfl
theorem tb_b257 : pm_b 257 = prog_14_method_107_code := rfl
theorem tb_m257 : iv_MW 257 ∈ iv_T := by
  rw [iv_MW0 (show pm_h 257 = [] from rfl), tb_y257, tb_b257, show (pg_i 257).1 = 3 from rfl, show pm_r 257 = (Option.some Jvm.ClassFile.FieldType.int) from rfl]
  exact tb_g (tb_9 (List.mem_of_getElem? (i := 68) rfl)) rfl
theorem tb_y258 : pm_y 258 = (⟨"LentNamesModel", "keepsFirst", "(I)V"⟩ : MethodName) := rfl
theorem tb_b258 : pm_b 258 = prog_14_method_108_code := rfl
theorem tb_m258 : iv_MW 258 ∈ iv_T := by
  rw [iv_MW0 (show pm_h 258 = [] from rfl), tb_y258, tb_b258, show (pg_i 258).1 = 4 from rfl, show pm_r 258 = (Option.none : Option Jvm.ClassFile.FieldType) from rfl]
  exact tb_g (tb_9 (List.mem_of_getElem? (i := 48) rfl)) rfl
theorem tb_y259 : pm_y 259 = (⟨"LentNamesModel", "goes", "(I)Z"⟩ : MethodName) := rfl
theorem tb_b259 : pm_b 259 = prog_14_method_109_code := rfl
theorem tb_m259 : iv_MW 259 ∈ iv_T := by
  rw [iv_MW0 (show pm_h 259 = [] from rfl), tb_y259, tb_b259, show (pg_i 259).1 = 6 from rfl, show pm_r 259 = (Option.some Jvm.ClassFile.FieldType.boolean) from rfl]
  exact tb_g (tb_9 (List.mem_of_getElem? (i := 24) rfl)) rfl
theorem tb_y260 : pm_y 260 = (⟨"LentNamesModel", "needed", "(I)I"⟩ : MethodName) := rfl
theorem tb_b260 : pm_b 260 = prog_14_method_110_code := rfl
theorem tb_m260 : iv_MW 260 ∈ iv_T := by
  rw [iv_MW0 (show pm_h 260 = [] from rfl), tb_y260, tb_b260, show (pg_i 260).1 = 3 from rfl, show pm_r 260 = (Option.some Jvm.ClassFile.FieldType.int) from rfl]
  exact tb_g (tb_9 (List.mem_of_getElem? (i := 20) rfl)) rfl
theorem tb_y261 : pm_y 261 = (⟨"LentNamesModel", "wish", "(II)I"⟩ : MethodName) := rfl
theorem tb_b261 : pm_b 261 = prog_14_method_111_code := rfl
theorem tb_m261 : iv_MW 261 ∈ iv_T := by
  rw [iv_MW0 (show pm_h 261 = [] from rfl), tb_y261, tb_b261, show (pg_i 261).1 = 4 from rfl, show pm_r 261 = (Option.some Jvm.ClassFile.FieldType.int) from rfl]
  exact tb_g (tb_9 (List.mem_of_getElem? (i := 0) rfl)) rfl
theorem tb_y262 : pm_y 262 = (⟨"LentNamesModel", "home", "()I"⟩ : MethodName) := rfl
theorem tb_b262 : pm_b 262 = prog_14_method_112_code := rfl
theorem tb_m262 : iv_MW 262 ∈ iv_T := by
  rw [iv_MW0 (show pm_h 262 = [] from rfl), tb_y262, tb_b262, show (pg_i 262).1 = 3 from rfl, show pm_r 262 = (Option.some Jvm.ClassFile.FieldType.int) from rfl]
  exact tb_g (tb_9 (List.mem_of_getElem? (i := 4) rfl)) rfl
theorem tb_y263 : pm_y 263 = (⟨"LentNamesModel", "plan", "(II)I"⟩ : MethodName) := rfl
theorem tb_b263 : pm_b 263 = prog_14_method_113_code := rfl
theorem tb_m263 : iv_MW 263 ∈ iv_T := by
  rw [iv_MW0 (show pm_h 263 = [] from rfl), tb_y263, tb_b263, show (pg_i 263).1 = 4 from rfl, show pm_r 263 = (Option.some Jvm.ClassFile.FieldType.int) from rfl]
  exact tb_g (tb_9 (List.mem_of_getElem? (i := 16) rfl)) rfl
theorem tb_y264 : pm_y 264 = (⟨"LentNamesModel", "agree", "()I"⟩ : MethodName) := rfl
theorem tb_b264 : pm_b 264 = prog_14_method_114_code := rfl
theorem tb_m264 : iv_MW 264 ∈ iv_T := by
  rw [iv_MW0 (show pm_h 264 = [] from rfl), tb_y264, tb_b264, show (pg_i 264).1 = 3 from rfl, show pm_r 264 = (Option.some Jvm.ClassFile.FieldType.int) from rfl]
  exact tb_g (tb_9 (List.mem_of_getElem? (i := 87) rfl)) rfl
theorem tb_y265 : pm_y 265 = (⟨"LentNamesModel", "can", "(I)I"⟩ : MethodName) := rfl
theorem tb_b265 : pm_b 265 = prog_14_method_115_code := rfl
theorem tb_m265 : iv_MW 265 ∈ iv_T := by
  rw [iv_MW0 (show pm_h 265 = [] from rfl), tb_y265, tb_b265, show (pg_i 265).1 = 4 from rfl, show pm_r 265 = (Option.some Jvm.ClassFile.FieldType.int) from rfl]
  exact tb_g (tb_9 (List.mem_of_getElem? (i := 91) rfl)) rfl
theorem tb_y266 : pm_y 266 = (⟨"LentNamesModel", "secrets", "(II)I"⟩ : MethodName) := rfl
theorem tb_b266 : pm_b 266 = prog_14_method_116_code := rfl
theorem tb_m266 : iv_MW 266 ∈ iv_T := by
  rw [iv_MW0 (show pm_h 266 = [] from rfl), tb_y266, tb_b266, show (pg_i 266).1 = 4 from rfl, show pm_r 266 = (Option.some Jvm.ClassFile.FieldType.int) from rfl]
  exact tb_g (tb_9 (List.mem_of_getElem? (i := 95) rfl)) rfl
theorem tb_y267 : pm_y 267 = (⟨"LentNamesModel", "liars", "(I)I"⟩ : MethodName) := rfl
theorem tb_b267 : pm_b 267 = prog_14_method_117_code := rfl
theorem tb_m267 : iv_MW 267 ∈ iv_T := by
  rw [iv_MW0 (show pm_h 267 = [] from rfl), tb_y267, tb_b267, show (pg_i 267).1 = 6 from rfl, show pm_r 267 = (Option.some Jvm.ClassFile.FieldType.int) from rfl]
  exact tb_g (tb_9 (List.mem_of_getElem? (i := 99) rfl)) rfl
theorem tb_y268 : pm_y 268 = (⟨"LentNamesModel", "count", "(I)I"⟩ : MethodName) := rfl
theorem tb_b268 : pm_b 268 = prog_14_method_118_code := rfl
theorem tb_m268 : iv_MW 268 ∈ iv_T := by
  rw [iv_MW0 (show pm_h 268 = [] from rfl), tb_y268, tb_b268, show (pg_i 268).1 = 4 from rfl, show pm_r 268 = (Option.some Jvm.ClassFile.FieldType.int) from rfl]
  exact tb_g (tb_9 (List.mem_of_getElem? (i := 103) rfl)) rfl
theorem tb_y269 : pm_y 269 = (⟨"LentNames$Search", "<init>", "(LLentNames$Calendar;)V"⟩ : MethodName) := rfl
theorem tb_b269 : pm_b 269 = prog_7_method_1_code := rfl
theorem tb_m269 : iv_MW 269 ∈ iv_T := by
  rw [iv_MW0 (show pm_h 269 = [] from rfl), tb_y269, tb_b269, show (pg_i 269).1 = 2 from rfl, show pm_r 269 = (Option.none : Option Jvm.ClassFile.FieldType) from rfl]
  exact tb_g (tb_2 (List.mem_of_getElem? (i := 36) rfl)) rfl
theorem tb_y270 : pm_y 270 = (⟨"LentNames$Search", "forget", "()V"⟩ : MethodName) := rfl
theorem tb_b270 : pm_b 270 = prog_7_method_6_code := rfl
theorem tb_m270 : iv_MW 270 ∈ iv_T := by
  rw [iv_MW0 (show pm_h 270 = [] from rfl), tb_y270, tb_b270, show (pg_i 270).1 = 1 from rfl, show pm_r 270 = (Option.none : Option Jvm.ClassFile.FieldType) from rfl]
  exact tb_g (tb_3 (List.mem_of_getElem? (i := 32) rfl)) rfl
theorem tb_y271 : pm_y 271 = (⟨"LentNames$Search", "ask", "(I)V"⟩ : MethodName) := rfl
theorem tb_b271 : pm_b 271 = prog_7_method_7_code := rfl
theorem tb_m271 : iv_MW 271 ∈ iv_T := by
  rw [iv_MW0 (show pm_h 271 = [] from rfl), tb_y271, tb_b271, show (pg_i 271).1 = 3 from rfl, show pm_r 271 = (Option.none : Option Jvm.ClassFile.FieldType) from rfl]
  exact tb_g (tb_6 (List.mem_of_getElem? (i := 53) rfl)) rfl
theorem tb_y272 : pm_y 272 = (⟨"LentNames$Search", "part", "(I)I"⟩ : MethodName) := rfl
theorem tb_b272 : pm_b 272 = prog_7_method_8_code := rfl
theorem tb_m272 : iv_MW 272 ∈ iv_T := by
  rw [iv_MW0 (show pm_h 272 = [] from rfl), tb_y272, tb_b272, show (pg_i 272).1 = 2 from rfl, show pm_r 272 = (Option.some Jvm.ClassFile.FieldType.int) from rfl]
  exact tb_g (tb_6 (List.mem_of_getElem? (i := 163) rfl)) rfl
theorem tb_y273 : pm_y 273 = (⟨"LentNames$Search", "setLack", "(IIII)V"⟩ : MethodName) := rfl
theorem tb_b273 : pm_b 273 = prog_7_method_9_code := rfl
theorem tb_m273 : iv_MW 273 ∈ iv_T := by
  rw [iv_MW0 (show pm_h 273 = [] from rfl), tb_y273, tb_b273, show (pg_i 273).1 = 5 from rfl, show pm_r 273 = (Option.none : Option Jvm.ClassFile.FieldType) from rfl]
  exact tb_g (tb_6 (List.mem_of_getElem? (i := 101) rfl)) rfl
theorem tb_y274 : pm_y 274 = (⟨"LentNames$Search", "come", "(I)V"⟩ : MethodName) := rfl
theorem tb_b274 : pm_b 274 = prog_7_method_10_code := rfl
theorem tb_m274 : iv_MW 274 ∈ iv_T := by
  rw [iv_MW0 (show pm_h 274 = [] from rfl), tb_y274, tb_b274, show (pg_i 274).1 = 2 from rfl, show pm_r 274 = (Option.none : Option Jvm.ClassFile.FieldType) from rfl]
  exact tb_g (tb_6 (List.mem_of_getElem? (i := 82) rfl)) rfl
theorem tb_y275 : pm_y 275 = (⟨"LentNames$Search", "mend", "(I)V"⟩ : MethodName) := rfl
theorem tb_b275 : pm_b 275 = prog_7_method_11_code := rfl
theorem tb_m275 : iv_MW 275 ∈ iv_T := by
  rw [iv_MW0 (show pm_h 275 = [] from rfl), tb_y275, tb_b275, show (pg_i 275).1 = 8 from rfl, show pm_r 275 = (Option.none : Option Jvm.ClassFile.FieldType) from rfl]
  exact tb_g (tb_6 (List.mem_of_getElem? (i := 126) rfl)) rfl
theorem tb_y276 : pm_y 276 = (⟨"LentNames$Search", "tryLoans", "(IIIII)V"⟩ : MethodName) := rfl
theorem tb_b276 : pm_b 276 = prog_7_method_12_code := rfl
theorem tb_m276 : iv_MW 276 ∈ iv_T := by
  rw [iv_MW0 (show pm_h 276 = [] from rfl), tb_y276, tb_b276, show (pg_i 276).1 = 10 from rfl, show pm_r 276 = (Option.none : Option Jvm.ClassFile.FieldType) from rfl]
  exact tb_g (tb_6 (List.mem_of_getElem? (i := 131) rfl)) rfl
theorem tb_y277 : pm_y 277 = (⟨"LentNames$Search", "tryLoan", "(IIIII)V"⟩ : MethodName) := rfl
theorem tb_b277 : pm_b 277 = prog_7_method_13_code := rfl
theorem tb_m277 : iv_MW 277 ∈ iv_T := by
  rw [iv_MW0 (show pm_h 277 = [] from rfl), tb_y277, tb_b277, show (pg_i 277).1 = 7 from rfl, show pm_r 277 = (Option.none : Option Jvm.ClassFile.FieldType) from rfl]
  exact tb_g (tb_6 (List.mem_of_getElem? (i := 149) rfl)) rfl
theorem tb_y278 : pm_y 278 = (⟨"LentNames$Search", "isOver", "()Z"⟩ : MethodName) := rfl
theorem tb_b278 : pm_b 278 = prog_7_method_14_code := rfl
theorem tb_m278 : iv_MW 278 ∈ iv_T := by
  rw [iv_MW0 (show pm_h 278 = [] from rfl), tb_y278, tb_b278, show (pg_i 278).1 = 1 from rfl, show pm_r 278 = (Option.some Jvm.ClassFile.FieldType.boolean) from rfl]
  exact tb_g (tb_6 (List.mem_of_getElem? (i := 136) rfl)) rfl
theorem tb_y279 : pm_y 279 = (⟨"LentNames$Search", "keepSet", "(I)V"⟩ : MethodName) := rfl
theorem tb_b279 : pm_b 279 = prog_7_method_15_code := rfl
theorem tb_m279 : iv_MW 279 ∈ iv_T := by
  rw [iv_MW0 (show pm_h 279 = [] from rfl), tb_y279, tb_b279, show (pg_i 279).1 = 4 from rfl, show pm_r 279 = (Option.none : Option Jvm.ClassFile.FieldType) from rfl]
  exact tb_g (tb_6 (List.mem_of_getElem? (i := 122) rfl)) rfl
theorem tb_y280 : pm_y 280 = (⟨"LentNames$Search", "give", "(III)V"⟩ : MethodName) := rfl
theorem tb_b280 : pm_b 280 = prog_7_method_16_code := rfl
theorem tb_m280 : iv_MW 280 ∈ iv_T := by
  rw [iv_MW0 (show pm_h 280 = [] from rfl), tb_y280, tb_b280, show (pg_i 280).1 = 5 from rfl, show pm_r 280 = (Option.none : Option Jvm.ClassFile.FieldType) from rfl]
  exact tb_g (tb_6 (List.mem_of_getElem? (i := 153) rfl)) rfl
theorem tb_y281 : pm_y 281 = (⟨"LentNames$Search", "giveBack", "(II)V"⟩ : MethodName) := rfl
theorem tb_b281 : pm_b 281 = prog_7_method_17_code := rfl
theorem tb_m281 : iv_MW 281 ∈ iv_T := by
  rw [iv_MW0 (show pm_h 281 = [] from rfl), tb_y281, tb_b281, show (pg_i 281).1 = 5 from rfl, show pm_r 281 = (Option.none : Option Jvm.ClassFile.FieldType) from rfl]
  exact tb_g (tb_6 (List.mem_of_getElem? (i := 157) rfl)) rfl
theorem tb_y282 : pm_y 282 = (⟨"LentNamesLaw", "tell", "(LLentNames;[J)I"⟩ : MethodName) := rfl
theorem tb_b282 : pm_b 282 = method_3_code := rfl
theorem tb_m282 : iv_MW 282 ∈ iv_T := by
  rw [iv_MW1 (show pm_h 282 ≠ [] from fun h => nomatch h), tb_y282, tb_b282, show (pg_i 282).1 = 3 from rfl, show pm_r 282 = (Option.some Jvm.ClassFile.FieldType.int) from rfl, show pm_h 282 = [((0 : Nat), (8 : Nat), (11 : Nat), (13 : Nat)), ((0 : Nat), (8 : Nat), (14 : Nat), (15 : Nat))] from rfl]
  exact tb_g (tb_3 (List.mem_of_getElem? (i := 193) rfl)) rfl
theorem tb_y283 : pm_y 283 = (⟨"LentNamesLaw", "people", "(LLentNames;I)I"⟩ : MethodName) := rfl
theorem tb_b283 : pm_b 283 = method_4_code := rfl
theorem tb_m283 : iv_MW 283 ∈ iv_T := by
  rw [iv_MW1 (show pm_h 283 ≠ [] from fun h => nomatch h), tb_y283, tb_b283, show (pg_i 283).1 = 3 from rfl, show pm_r 283 = (Option.some Jvm.ClassFile.FieldType.int) from rfl, show pm_h 283 = [((0 : Nat), (5 : Nat), (8 : Nat), (13 : Nat)), ((0 : Nat), (5 : Nat), (11 : Nat), (21 : Nat))] from rfl]
  exact tb_g (tb_4 (List.mem_of_getElem? (i := 225) rfl)) rfl
theorem tb_y284 : pm_y 284 = (⟨"LentNamesLaw", "bears", "(LLentNames;II[J)I"⟩ : MethodName) := rfl
theorem tb_b284 : pm_b 284 = method_5_code := rfl
theorem tb_m284 : iv_MW 284 ∈ iv_T := by
  rw [iv_MW1 (show pm_h 284 ≠ [] from fun h => nomatch h), tb_y284, tb_b284, show (pg_i 284).1 = 5 from rfl, show pm_r 284 = (Option.some Jvm.ClassFile.FieldType.int) from rfl, show pm_h 284 = [((0 : Nat), (10 : Nat), (13 : Nat), (27 : Nat))] from rfl]
  exact tb_g (tb_5 (List.mem_of_getElem? (i := 10) rfl)) rfl
theorem tb_y285 : pm_y 285 = (⟨"LentNamesLaw", "names", "(LLentNames;II[J)I"⟩ : MethodName) := rfl
theorem tb_b285 : pm_b 285 = method_6_code := rfl
theorem tb_m285 : iv_MW 285 ∈ iv_T := by
  rw [iv_MW1 (show pm_h 285 ≠ [] from fun h => nomatch h), tb_y285, tb_b285, show (pg_i 285).1 = 5 from rfl, show pm_r 285 = (Option.some Jvm.ClassFile.FieldType.int) from rfl, show pm_h 285 = [((0 : Nat), (10 : Nat), (13 : Nat), (27 : Nat))] from rfl]
  exact tb_g (tb_5 (List.mem_of_getElem? (i := 42) rfl)) rfl
theorem tb_y286 : pm_y 286 = (⟨"LentNamesLaw", "how", "(LLentNames;II[J)I"⟩ : MethodName) := rfl
theorem tb_b286 : pm_b 286 = method_7_code := rfl
theorem tb_m286 : iv_MW 286 ∈ iv_T := by
  rw [iv_MW1 (show pm_h 286 ≠ [] from fun h => nomatch h), tb_y286, tb_b286, show (pg_i 286).1 = 5 from rfl, show pm_r 286 = (Option.some Jvm.ClassFile.FieldType.int) from rfl, show pm_h 286 = [((0 : Nat), (10 : Nat), (13 : Nat), (27 : Nat))] from rfl]
  exact tb_g (tb_5 (List.mem_of_getElem? (i := 58) rfl)) rfl
theorem tb_y287 : pm_y 287 = (⟨"LentNamesLaw", "row", "(LLentNames;III[J)I"⟩ : MethodName) := rfl
theorem tb_b287 : pm_b 287 = method_8_code := rfl
theorem tb_m287 : iv_MW 287 ∈ iv_T := by
  rw [iv_MW1 (show pm_h 287 ≠ [] from fun h => nomatch h), tb_y287, tb_b287, show (pg_i 287).1 = 6 from rfl, show pm_r 287 = (Option.some Jvm.ClassFile.FieldType.int) from rfl, show pm_h 287 = [((0 : Nat), (12 : Nat), (15 : Nat), (27 : Nat))] from rfl]
  exact tb_g (tb_5 (List.mem_of_getElem? (i := 69) rfl)) rfl
theorem tb_y288 : pm_y 288 = (⟨"LentNamesLaw", "nameless", "(LLentNames;I[J)I"⟩ : MethodName) := rfl
theorem tb_b288 : pm_b 288 = method_9_code := rfl
theorem tb_m288 : iv_MW 288 ∈ iv_T := by
  rw [iv_MW1 (show pm_h 288 ≠ [] from fun h => nomatch h), tb_y288, tb_b288, show (pg_i 288).1 = 4 from rfl, show pm_r 288 = (Option.some Jvm.ClassFile.FieldType.int) from rfl, show pm_h 288 = [((0 : Nat), (9 : Nat), (12 : Nat), (27 : Nat))] from rfl]
  exact tb_g (tb_5 (List.mem_of_getElem? (i := 80) rfl)) rfl
theorem tb_y289 : pm_y 289 = (⟨"LentNamesLaw", "longest", "(LLentNames;I[J)I"⟩ : MethodName) := rfl
theorem tb_b289 : pm_b 289 = method_10_code := rfl
theorem tb_m289 : iv_MW 289 ∈ iv_T := by
  rw [iv_MW1 (show pm_h 289 ≠ [] from fun h => nomatch h), tb_y289, tb_b289, show (pg_i 289).1 = 4 from rfl, show pm_r 289 = (Option.some Jvm.ClassFile.FieldType.int) from rfl, show pm_h 289 = [((0 : Nat), (9 : Nat), (12 : Nat), (27 : Nat))] from rfl]
  exact tb_g (tb_5 (List.mem_of_getElem? (i := 91) rfl)) rfl
theorem tb_y290 : pm_y 290 = (⟨"LentNamesLaw", "lives", "(LLentNames;II[J)I"⟩ : MethodName) := rfl
theorem tb_b290 : pm_b 290 = method_11_code := rfl
theorem tb_m290 : iv_MW 290 ∈ iv_T := by
  rw [iv_MW1 (show pm_h 290 ≠ [] from fun h => nomatch h), tb_y290, tb_b290, show (pg_i 290).1 = 5 from rfl, show pm_r 290 = (Option.some Jvm.ClassFile.FieldType.int) from rfl, show pm_h 290 = [((0 : Nat), (17 : Nat), (20 : Nat), (27 : Nat))] from rfl]
  exact tb_g (tb_5 (List.mem_of_getElem? (i := 101) rfl)) rfl
theorem tb_y291 : pm_y 291 = (⟨"LentNamesLaw", "look", "(LLentNames;II[J)I"⟩ : MethodName) := rfl
theorem tb_b291 : pm_b 291 = method_12_code := rfl
theorem tb_m291 : iv_MW 291 ∈ iv_T := by
  rw [iv_MW1 (show pm_h 291 ≠ [] from fun h => nomatch h), tb_y291, tb_b291, show (pg_i 291).1 = 5 from rfl, show pm_r 291 = (Option.some Jvm.ClassFile.FieldType.int) from rfl, show pm_h 291 = [((0 : Nat), (10 : Nat), (13 : Nat), (27 : Nat)), ((0 : Nat), (10 : Nat), (17 : Nat), (53 : Nat))] from rfl]
  exact tb_g (tb_5 (List.mem_of_getElem? (i := 109) rfl)) rfl
theorem tb_y292 : pm_y 292 = (⟨"LentNamesLaw", "owes", "(LLentNames;IZ[J)I"⟩ : MethodName) := rfl
theorem tb_b292 : pm_b 292 = method_13_code := rfl
theorem tb_m292 : iv_MW 292 ∈ iv_T := by
  rw [iv_MW1 (show pm_h 292 ≠ [] from fun h => nomatch h), tb_y292, tb_b292, show (pg_i 292).1 = 5 from rfl, show pm_r 292 = (Option.some Jvm.ClassFile.FieldType.int) from rfl, show pm_h 292 = [((0 : Nat), (10 : Nat), (13 : Nat), (27 : Nat))] from rfl]
  exact tb_g (tb_5 (List.mem_of_getElem? (i := 138) rfl)) rfl
theorem tb_y293 : pm_y 293 = (⟨"LentNamesLaw", "letter", "(LLentNames;II[J)I"⟩ : MethodName) := rfl
theorem tb_b293 : pm_b 293 = method_14_code := rfl
theorem tb_m293 : iv_MW 293 ∈ iv_T := by
  rw [iv_MW1 (show pm_h 293 ≠ [] from fun h => nomatch h), tb_y293, tb_b293, show (pg_i 293).1 = 5 from rfl, show pm_r 293 = (Option.some Jvm.ClassFile.FieldType.int) from rfl, show pm_h 293 = [((0 : Nat), (10 : Nat), (13 : Nat), (27 : Nat)), ((0 : Nat), (10 : Nat), (17 : Nat), (53 : Nat))] from rfl]
  exact tb_g (tb_5 (List.mem_of_getElem? (i := 145) rfl)) rfl
theorem tb_y294 : pm_y 294 = (⟨"LentNamesLaw", "pays", "(LLentNames;I[J)I"⟩ : MethodName) := rfl
theorem tb_b294 : pm_b 294 = method_15_code := rfl
theorem tb_m294 : iv_MW 294 ∈ iv_T := by
  rw [iv_MW1 (show pm_h 294 ≠ [] from fun h => nomatch h), tb_y294, tb_b294, show (pg_i 294).1 = 4 from rfl, show pm_r 294 = (Option.some Jvm.ClassFile.FieldType.int) from rfl, show pm_h 294 = [((0 : Nat), (9 : Nat), (12 : Nat), (27 : Nat))] from rfl]
  exact tb_g (tb_5 (List.mem_of_getElem? (i := 160) rfl)) rfl
theorem tb_y295 : pm_y 295 = (⟨"LentNamesLaw", "bill", "(LLentNames;I[J)I"⟩ : MethodName) := rfl
theorem tb_b295 : pm_b 295 = method_16_code := rfl
theorem tb_m295 : iv_MW 295 ∈ iv_T := by
  rw [iv_MW1 (show pm_h 295 ≠ [] from fun h => nomatch h), tb_y295, tb_b295, show (pg_i 295).1 = 4 from rfl, show pm_r 295 = (Option.some Jvm.ClassFile.FieldType.int) from rfl, show pm_h 295 = [((0 : Nat), (9 : Nat), (12 : Nat), (27 : Nat))] from rfl]
  exact tb_g (tb_5 (List.mem_of_getElem? (i := 168) rfl)) rfl
theorem tb_y296 : pm_y 296 = (⟨"LentNamesLaw", "custom", "(LLentNames;[J)I"⟩ : MethodName) := rfl
theorem tb_b296 : pm_b 296 = method_17_code := rfl
theorem tb_m296 : iv_MW 296 ∈ iv_T := by
  rw [iv_MW1 (show pm_h 296 ≠ [] from fun h => nomatch h), tb_y296, tb_b296, show (pg_i 296).1 = 3 from rfl, show pm_r 296 = (Option.some Jvm.ClassFile.FieldType.int) from rfl, show pm_h 296 = [((0 : Nat), (8 : Nat), (11 : Nat), (13 : Nat))] from rfl]
  exact tb_g (tb_5 (List.mem_of_getElem? (i := 175) rfl)) rfl
theorem tb_y297 : pm_y 297 = (⟨"LentNamesLaw", "purse", "(LLentNames;II[J)I"⟩ : MethodName) := rfl
theorem tb_b297 : pm_b 297 = method_18_code := rfl
theorem tb_m297 : iv_MW 297 ∈ iv_T := by
  rw [iv_MW1 (show pm_h 297 ≠ [] from fun h => nomatch h), tb_y297, tb_b297, show (pg_i 297).1 = 5 from rfl, show pm_r 297 = (Option.some Jvm.ClassFile.FieldType.int) from rfl, show pm_h 297 = [((0 : Nat), (10 : Nat), (13 : Nat), (27 : Nat)), ((0 : Nat), (10 : Nat), (17 : Nat), (13 : Nat))] from rfl]
  exact tb_g (tb_6 (List.mem_of_getElem? (i := 3) rfl)) rfl
theorem tb_y298 : pm_y 298 = (⟨"LentNamesLaw", "left", "(LLentNames;I[J)I"⟩ : MethodName) := rfl
theorem tb_b298 : pm_b 298 = method_19_code := rfl
theorem tb_m298 : iv_MW 298 ∈ iv_T := by
  rw [iv_MW1 (show pm_h 298 ≠ [] from fun h => nomatch h), tb_y298, tb_b298, show (pg_i 298).1 = 4 from rfl, show pm_r 298 = (Option.some Jvm.ClassFile.FieldType.int) from rfl, show pm_h 298 = [((0 : Nat), (9 : Nat), (12 : Nat), (27 : Nat))] from rfl]
  exact tb_g (tb_6 (List.mem_of_getElem? (i := 11) rfl)) rfl
theorem tb_y299 : pm_y 299 = (⟨"LentNamesLaw", "meets", "(LLentNames;I[J)I"⟩ : MethodName) := rfl
theorem tb_b299 : pm_b 299 = method_20_code := rfl
theorem tb_m299 : iv_MW 299 ∈ iv_T := by
  rw [iv_MW1 (show pm_h 299 ≠ [] from fun h => nomatch h), tb_y299, tb_b299, show (pg_i 299).1 = 4 from rfl, show pm_r 299 = (Option.some Jvm.ClassFile.FieldType.int) from rfl, show pm_h 299 = [((0 : Nat), (9 : Nat), (12 : Nat), (27 : Nat))] from rfl]
  exact tb_g (tb_6 (List.mem_of_getElem? (i := 18) rfl)) rfl
theorem tb_y300 : pm_y 300 = (⟨"LentNamesLaw", "way", "(LLentNames;IZ[J)I"⟩ : MethodName) := rfl
theorem tb_b300 : pm_b 300 = method_21_code := rfl
theorem tb_m300 : iv_MW 300 ∈ iv_T := by
  rw [iv_MW1 (show pm_h 300 ≠ [] from fun h => nomatch h), tb_y300, tb_b300, show (pg_i 300).1 = 5 from rfl, show pm_r 300 = (Option.some Jvm.ClassFile.FieldType.int) from rfl, show pm_h 300 = [((0 : Nat), (10 : Nat), (13 : Nat), (27 : Nat))] from rfl]
  exact tb_g (tb_6 (List.mem_of_getElem? (i := 25) rfl)) rfl
theorem tb_y301 : pm_y 301 = (⟨"LentNamesLaw", "wish", "(LLentNames;II[J)I"⟩ : MethodName) := rfl
theorem tb_b301 : pm_b 301 = method_22_code := rfl
theorem tb_m301 : iv_MW 301 ∈ iv_T := by
  rw [iv_MW1 (show pm_h 301 ≠ [] from fun h => nomatch h), tb_y301, tb_b301, show (pg_i 301).1 = 5 from rfl, show pm_r 301 = (Option.some Jvm.ClassFile.FieldType.int) from rfl, show pm_h 301 = [((0 : Nat), (10 : Nat), (13 : Nat), (27 : Nat))] from rfl]
  exact tb_g (tb_6 (List.mem_of_getElem? (i := 33) rfl)) rfl
theorem tb_y302 : pm_y 302 = (⟨"LentNamesLaw", "plan", "(LLentNames;II[J)I"⟩ : MethodName) := rfl
theorem tb_b302 : pm_b 302 = method_23_code := rfl
theorem tb_m302 : iv_MW 302 ∈ iv_T := by
  rw [iv_MW1 (show pm_h 302 ≠ [] from fun h => nomatch h), tb_y302, tb_b302, show (pg_i 302).1 = 5 from rfl, show pm_r 302 = (Option.some Jvm.ClassFile.FieldType.int) from rfl, show pm_h 302 = [((0 : Nat), (10 : Nat), (13 : Nat), (13 : Nat))] from rfl]
  exact tb_g (tb_6 (List.mem_of_getElem? (i := 41) rfl)) rfl
theorem tb_y303 : pm_y 303 = (⟨"LentNamesLaw", "can", "(LLentNames;I[J)I"⟩ : MethodName) := rfl
theorem tb_b303 : pm_b 303 = method_24_code := rfl
theorem tb_m303 : iv_MW 303 ∈ iv_T := by
  rw [iv_MW1 (show pm_h 303 ≠ [] from fun h => nomatch h), tb_y303, tb_b303, show (pg_i 303).1 = 4 from rfl, show pm_r 303 = (Option.some Jvm.ClassFile.FieldType.int) from rfl, show pm_h 303 = [((0 : Nat), (9 : Nat), (12 : Nat), (27 : Nat))] from rfl]
  exact tb_g (tb_6 (List.mem_of_getElem? (i := 166) rfl)) rfl
theorem tb_y304 : pm_y 304 = (⟨"LentNamesLaw", "secrets", "(LLentNames;II[J)I"⟩ : MethodName) := rfl
theorem tb_b304 : pm_b 304 = method_25_code := rfl
theorem tb_m304 : iv_MW 304 ∈ iv_T := by
  rw [iv_MW1 (show pm_h 304 ≠ [] from fun h => nomatch h), tb_y304, tb_b304, show (pg_i 304).1 = 5 from rfl, show pm_r 304 = (Option.some Jvm.ClassFile.FieldType.int) from rfl, show pm_h 304 = [((0 : Nat), (10 : Nat), (13 : Nat), (27 : Nat)), ((0 : Nat), (10 : Nat), (17 : Nat), (13 : Nat))] from rfl]
  exact tb_g (tb_6 (List.mem_of_getElem? (i := 173) rfl)) rfl
theorem tb_y305 : pm_y 305 = (⟨"LentNamesLaw", "liars", "(LLentNames;I[J)I"⟩ : MethodName) := rfl
theorem tb_b305 : pm_b 305 = method_26_code := rfl
theorem tb_m305 : iv_MW 305 ∈ iv_T := by
  rw [iv_MW1 (show pm_h 305 ≠ [] from fun h => nomatch h), tb_y305, tb_b305, show (pg_i 305).1 = 4 from rfl, show pm_r 305 = (Option.some Jvm.ClassFile.FieldType.int) from rfl, show pm_h 305 = [((0 : Nat), (9 : Nat), (12 : Nat), (27 : Nat))] from rfl]
  exact tb_g (tb_6 (List.mem_of_getElem? (i := 187) rfl)) rfl
theorem tb_y306 : pm_y 306 = (⟨"LentNamesLaw", "rich", "(LLentNames;I[J)I"⟩ : MethodName) := rfl
theorem tb_b306 : pm_b 306 = method_27_code := rfl
theorem tb_m306 : iv_MW 306 ∈ iv_T := by
  rw [iv_MW1 (show pm_h 306 ≠ [] from fun h => nomatch h), tb_y306, tb_b306, show (pg_i 306).1 = 4 from rfl, show pm_r 306 = (Option.some Jvm.ClassFile.FieldType.int) from rfl, show pm_h 306 = [((0 : Nat), (9 : Nat), (12 : Nat), (27 : Nat))] from rfl]
  exact tb_g (tb_6 (List.mem_of_getElem? (i := 196) rfl)) rfl
theorem tb_y307 : pm_y 307 = (⟨"LentNamesLaw", "borne", "(LLentNames;II[J)I"⟩ : MethodName) := rfl
theorem tb_b307 : pm_b 307 = method_28_code := rfl
theorem tb_m307 : iv_MW 307 ∈ iv_T := by
  rw [iv_MW1 (show pm_h 307 ≠ [] from fun h => nomatch h), tb_y307, tb_b307, show (pg_i 307).1 = 5 from rfl, show pm_r 307 = (Option.some Jvm.ClassFile.FieldType.int) from rfl, show pm_h 307 = [((0 : Nat), (10 : Nat), (13 : Nat), (27 : Nat))] from rfl]
  exact tb_g (tb_6 (List.mem_of_getElem? (i := 203) rfl)) rfl
theorem tb_y308 : pm_y 308 = (⟨"LentNamesLaw", "again", "(LLentNames;II[J)I"⟩ : MethodName) := rfl
theorem tb_b308 : pm_b 308 = method_29_code := rfl
theorem tb_m308 : iv_MW 308 ∈ iv_T := by
  rw [iv_MW1 (show pm_h 308 ≠ [] from fun h => nomatch h), tb_y308, tb_b308, show (pg_i 308).1 = 5 from rfl, show pm_r 308 = (Option.some Jvm.ClassFile.FieldType.int) from rfl, show pm_h 308 = [((0 : Nat), (10 : Nat), (13 : Nat), (27 : Nat))] from rfl]
  exact tb_g (tb_6 (List.mem_of_getElem? (i := 210) rfl)) rfl
theorem tb_y309 : pm_y 309 = (⟨"LentNamesLaw", "law", "([I)Z"⟩ : MethodName) := rfl
theorem tb_y310 : pm_y 310 = (⟨"java/lang/Integer", "bitCount", "(I)I"⟩ : MethodName) := rfl
theorem tb_b310 : pm_b 310 = prog_22_method_49_code := rfl
theorem tb_m310 : iv_MW 310 ∈ iv_T := by
  rw [iv_MW0 (show pm_h 310 = [] from rfl), tb_y310, tb_b310, show (pg_i 310).1 = 1 from rfl, show pm_r 310 = (Option.some Jvm.ClassFile.FieldType.int) from rfl]
  exact tb_g (tb_3 (List.mem_of_getElem? (i := 179) rfl)) rfl
theorem tb_y311 : pm_y 311 = (⟨"java/lang/String", "length", "()I"⟩ : MethodName) := rfl
theorem tb_b311 : pm_b 311 = prog_25_method_54_code := rfl
theorem tb_m311 : iv_MW 311 ∈ iv_T := by
  rw [iv_MW0 (show pm_h 311 = [] from rfl), tb_y311, tb_b311, show (pg_i 311).1 = 1 from rfl, show pm_r 311 = (Option.some Jvm.ClassFile.FieldType.int) from rfl]
  exact tb_g (tb_3 (List.mem_of_getElem? (i := 228) rfl)) rfl
theorem tb_y312 : pm_y 312 = (⟨"java/lang/String", "coder", "()B"⟩ : MethodName) := rfl
theorem tb_b312 : pm_b 312 = prog_25_method_152_code := rfl
theorem tb_m312 : iv_MW 312 ∈ iv_T := by
  rw [iv_MW0 (show pm_h 312 = [] from rfl), tb_y312, tb_b312, show (pg_i 312).1 = 1 from rfl, show pm_r 312 = (Option.some Jvm.ClassFile.FieldType.byte) from rfl]
  exact tb_g (tb_3 (List.mem_of_getElem? (i := 232) rfl)) rfl
theorem tb_y313 : pm_y 313 = (⟨"java/lang/String", "charAt", "(I)C"⟩ : MethodName) := rfl
theorem tb_b313 : pm_b 313 = prog_25_method_56_code := rfl
theorem tb_m313 : iv_MW 313 ∈ iv_T := by
  rw [iv_MW0 (show pm_h 313 = [] from rfl), tb_y313, tb_b313, show (pg_i 313).1 = 2 from rfl, show pm_r 313 = (Option.some Jvm.ClassFile.FieldType.char) from rfl]
  exact tb_g (tb_3 (List.mem_of_getElem? (i := 238) rfl)) rfl
theorem tb_y314 : pm_y 314 = (⟨"java/lang/String", "isLatin1", "()Z"⟩ : MethodName) := rfl
theorem tb_b314 : pm_b 314 = prog_25_method_154_code := rfl
theorem tb_m314 : iv_MW 314 ∈ iv_T := by
  rw [iv_MW0 (show pm_h 314 = [] from rfl), tb_y314, tb_b314, show (pg_i 314).1 = 1 from rfl, show pm_r 314 = (Option.some Jvm.ClassFile.FieldType.boolean) from rfl]
  exact tb_g (tb_4 (List.mem_of_getElem? (i := 2) rfl)) rfl
theorem tb_y315 : pm_y 315 = (⟨"java/lang/String", "checkIndex", "(II)V"⟩ : MethodName) := rfl
theorem tb_b315 : pm_b 315 = prog_25_method_155_code := rfl
theorem tb_m315 : iv_MW 315 ∈ iv_T := by
  rw [iv_MW0 (show pm_h 315 = [] from rfl), tb_y315, tb_b315, show (pg_i 315).1 = 2 from rfl, show pm_r 315 = (Option.none : Option Jvm.ClassFile.FieldType) from rfl]
  exact tb_g (tb_4 (List.mem_of_getElem? (i := 8) rfl)) rfl
theorem tb_y316 : pm_y 316 = (⟨"java/lang/StringLatin1", "charAt", "([BI)C"⟩ : MethodName) := rfl
theorem tb_b316 : pm_b 316 = prog_26_method_2_code := rfl
theorem tb_m316 : iv_MW 316 ∈ iv_T := by
  rw [iv_MW0 (show pm_h 316 = [] from rfl), tb_y316, tb_b316, show (pg_i 316).1 = 2 from rfl, show pm_r 316 = (Option.some Jvm.ClassFile.FieldType.char) from rfl]
  exact tb_g (tb_4 (List.mem_of_getElem? (i := 5) rfl)) rfl
theorem tb_y317 : pm_y 317 = (⟨"jdk/internal/util/Preconditions", "checkIndex", "(IILjava/util/function/BiFunction;)I"⟩ : MethodName) := rfl
theorem tb_b317 : pm_b 317 = prog_34_method_11_code := rfl
theorem tb_m317 : iv_MW 317 ∈ iv_T := by
  rw [iv_MW0 (show pm_h 317 = [] from rfl), tb_y317, tb_b317, show (pg_i 317).1 = 3 from rfl, show pm_r 317 = (Option.some Jvm.ClassFile.FieldType.int) from rfl]
  exact tb_g (tb_4 (List.mem_of_getElem? (i := 13) rfl)) rfl
