/-! ===== what the tables say of each method ===== -/
theorem tb_i0 : (Jvm.Cond.initialized "LentNames") ∈ iv_T := tb_g (tb_1 (List.mem_of_getElem? (i := 1) rfl)) rfl
theorem tb_n0 : ("LentNames" : String) ≠ "java/lang/invoke/MethodHandle" ∧ ("LentNames" : String) ≠ "java/lang/invoke/VarHandle" ∧ plainName "LentNames" = true := by decide +kernel
theorem tb_i1 : (Jvm.Cond.initialized "LentNames$Accounts") ∈ iv_T := tb_g (tb_1 (List.mem_of_getElem? (i := 7) rfl)) rfl
theorem tb_n1 : ("LentNames$Accounts" : String) ≠ "java/lang/invoke/MethodHandle" ∧ ("LentNames$Accounts" : String) ≠ "java/lang/invoke/VarHandle" ∧ plainName "LentNames$Accounts" = true := by decide +kernel
theorem tb_i2 : (Jvm.Cond.initialized "LentNames$Calendar") ∈ iv_T := tb_g (tb_1 (List.mem_of_getElem? (i := 6) rfl)) rfl
theorem tb_n2 : ("LentNames$Calendar" : String) ≠ "java/lang/invoke/MethodHandle" ∧ ("LentNames$Calendar" : String) ≠ "java/lang/invoke/VarHandle" ∧ plainName "LentNames$Calendar" = true := by decide +kernel
theorem tb_i3 : (Jvm.Cond.initialized "LentNames$Custom") ∈ iv_T := tb_g (tb_1 (List.mem_of_getElem? (i := 5) rfl)) rfl
theorem tb_n3 : ("LentNames$Custom" : String) ≠ "java/lang/invoke/MethodHandle" ∧ ("LentNames$Custom" : String) ≠ "java/lang/invoke/VarHandle" ∧ plainName "LentNames$Custom" = true := by decide +kernel
theorem tb_i4 : (Jvm.Cond.initialized "LentNames$CustomReader") ∈ iv_T := tb_g (tb_1 (List.mem_of_getElem? (i := 9) rfl)) rfl
theorem tb_n4 : ("LentNames$CustomReader" : String) ≠ "java/lang/invoke/MethodHandle" ∧ ("LentNames$CustomReader" : String) ≠ "java/lang/invoke/VarHandle" ∧ plainName "LentNames$CustomReader" = true := by decide +kernel
theorem tb_i5 : (Jvm.Cond.initialized "LentNames$PlanSearch") ∈ iv_T := tb_g (tb_1 (List.mem_of_getElem? (i := 11) rfl)) rfl
theorem tb_n5 : ("LentNames$PlanSearch" : String) ≠ "java/lang/invoke/MethodHandle" ∧ ("LentNames$PlanSearch" : String) ≠ "java/lang/invoke/VarHandle" ∧ plainName "LentNames$PlanSearch" = true := by decide +kernel
theorem tb_i6 : (Jvm.Cond.initialized "LentNames$Search") ∈ iv_T := tb_g (tb_1 (List.mem_of_getElem? (i := 10) rfl)) rfl
theorem tb_n6 : ("LentNames$Search" : String) ≠ "java/lang/invoke/MethodHandle" ∧ ("LentNames$Search" : String) ≠ "java/lang/invoke/VarHandle" ∧ plainName "LentNames$Search" = true := by decide +kernel
theorem tb_i7 : (Jvm.Cond.initialized "LentNames$SecretSearch") ∈ iv_T := tb_g (tb_1 (List.mem_of_getElem? (i := 12) rfl)) rfl
theorem tb_n7 : ("LentNames$SecretSearch" : String) ≠ "java/lang/invoke/MethodHandle" ∧ ("LentNames$SecretSearch" : String) ≠ "java/lang/invoke/VarHandle" ∧ plainName "LentNames$SecretSearch" = true := by decide +kernel
theorem tb_i8 : (Jvm.Cond.initialized "LentNames$Table") ∈ iv_T := tb_g (tb_1 (List.mem_of_getElem? (i := 4) rfl)) rfl
theorem tb_n8 : ("LentNames$Table" : String) ≠ "java/lang/invoke/MethodHandle" ∧ ("LentNames$Table" : String) ≠ "java/lang/invoke/VarHandle" ∧ plainName "LentNames$Table" = true := by decide +kernel
theorem tb_i9 : (Jvm.Cond.initialized "LentNames$Tape") ∈ iv_T := tb_g (tb_1 (List.mem_of_getElem? (i := 2) rfl)) rfl
theorem tb_n9 : ("LentNames$Tape" : String) ≠ "java/lang/invoke/MethodHandle" ∧ ("LentNames$Tape" : String) ≠ "java/lang/invoke/VarHandle" ∧ plainName "LentNames$Tape" = true := by decide +kernel
theorem tb_i10 : (Jvm.Cond.initialized "LentNames$Town") ∈ iv_T := tb_g (tb_1 (List.mem_of_getElem? (i := 3) rfl)) rfl
theorem tb_n10 : ("LentNames$Town" : String) ≠ "java/lang/invoke/MethodHandle" ∧ ("LentNames$Town" : String) ≠ "java/lang/invoke/VarHandle" ∧ plainName "LentNames$Town" = true := by decide +kernel
theorem tb_i11 : (Jvm.Cond.initialized "LentNames$TownReader") ∈ iv_T := tb_g (tb_1 (List.mem_of_getElem? (i := 8) rfl)) rfl
theorem tb_n11 : ("LentNames$TownReader" : String) ≠ "java/lang/invoke/MethodHandle" ∧ ("LentNames$TownReader" : String) ≠ "java/lang/invoke/VarHandle" ∧ plainName "LentNames$TownReader" = true := by decide +kernel
theorem tb_i12 : (Jvm.Cond.initialized "LentNamesLaw") ∈ iv_T := tb_g (tb_1 (List.mem_of_getElem? (i := 0) rfl)) rfl
theorem tb_n12 : ("LentNamesLaw" : String) ≠ "java/lang/invoke/MethodHandle" ∧ ("LentNamesLaw" : String) ≠ "java/lang/invoke/VarHandle" ∧ plainName "LentNamesLaw" = true := by decide +kernel
theorem tb_i13 : (Jvm.Cond.initialized "LentNamesModel") ∈ iv_T := tb_g (tb_1 (List.mem_of_getElem? (i := 13) rfl)) rfl
theorem tb_n13 : ("LentNamesModel" : String) ≠ "java/lang/invoke/MethodHandle" ∧ ("LentNamesModel" : String) ≠ "java/lang/invoke/VarHandle" ∧ plainName "LentNamesModel" = true := by decide +kernel
theorem tb_i14 : (Jvm.Cond.initialized "java/lang/Integer") ∈ iv_T := tb_g (tb_1 (List.mem_of_getElem? (i := 28) rfl)) rfl
theorem tb_n14 : ("java/lang/Integer" : String) ≠ "java/lang/invoke/MethodHandle" ∧ ("java/lang/Integer" : String) ≠ "java/lang/invoke/VarHandle" ∧ plainName "java/lang/Integer" = true := by decide +kernel
theorem tb_i15 : (Jvm.Cond.initialized "java/lang/String") ∈ iv_T := tb_g (tb_1 (List.mem_of_getElem? (i := 16) rfl)) rfl
theorem tb_n15 : ("java/lang/String" : String) ≠ "java/lang/invoke/MethodHandle" ∧ ("java/lang/String" : String) ≠ "java/lang/invoke/VarHandle" ∧ plainName "java/lang/String" = true := by decide +kernel
theorem tb_i16 : (Jvm.Cond.initialized "java/lang/StringLatin1") ∈ iv_T := tb_g (tb_1 (List.mem_of_getElem? (i := 17) rfl)) rfl
theorem tb_n16 : ("java/lang/StringLatin1" : String) ≠ "java/lang/invoke/MethodHandle" ∧ ("java/lang/StringLatin1" : String) ≠ "java/lang/invoke/VarHandle" ∧ plainName "java/lang/StringLatin1" = true := by decide +kernel
theorem tb_i17 : (Jvm.Cond.initialized "jdk/internal/util/Preconditions") ∈ iv_T := tb_g (tb_1 (List.mem_of_getElem? (i := 18) rfl)) rfl
theorem tb_n17 : ("jdk/internal/util/Preconditions" : String) ≠ "java/lang/invoke/MethodHandle" ∧ ("jdk/internal/util/Preconditions" : String) ≠ "java/lang/invoke/VarHandle" ∧ plainName "jdk/internal/util/Preconditions" = true := by decide +kernel
theorem tb_k0 : iv_MOK 0 := ⟨tb_m0, by rw [tb_y0]; exact tb_i1, by rw [tb_y0]; exact tb_n1.1, by rw [tb_y0]; exact tb_n1.2.1, Nat.le_of_ble_eq_true rfl, by rw [tb_y0]; exact tb_n1.2.2⟩
theorem tb_k1 : iv_MOK 1 := ⟨tb_m1, by rw [tb_y1]; exact tb_i1, by rw [tb_y1]; exact tb_n1.1, by rw [tb_y1]; exact tb_n1.2.1, Nat.le_of_ble_eq_true rfl, by rw [tb_y1]; exact tb_n1.2.2⟩
theorem tb_k2 : iv_MOK 2 := ⟨tb_m2, by rw [tb_y2]; exact tb_i1, by rw [tb_y2]; exact tb_n1.1, by rw [tb_y2]; exact tb_n1.2.1, Nat.le_of_ble_eq_true rfl, by rw [tb_y2]; exact tb_n1.2.2⟩
theorem tb_k3 : iv_MOK 3 := ⟨tb_m3, by rw [tb_y3]; exact tb_i2, by rw [tb_y3]; exact tb_n2.1, by rw [tb_y3]; exact tb_n2.2.1, Nat.le_of_ble_eq_true rfl, by rw [tb_y3]; exact tb_n2.2.2⟩
theorem tb_k4 : iv_MOK 4 := ⟨tb_m4, by rw [tb_y4]; exact tb_i2, by rw [tb_y4]; exact tb_n2.1, by rw [tb_y4]; exact tb_n2.2.1, Nat.le_of_ble_eq_true rfl, by rw [tb_y4]; exact tb_n2.2.2⟩
theorem tb_k5 : iv_MOK 5 := ⟨tb_m5, by rw [tb_y5]; exact tb_i2, by rw [tb_y5]; exact tb_n2.1, by rw [tb_y5]; exact tb_n2.2.1, Nat.le_of_ble_eq_true rfl, by rw [tb_y5]; exact tb_n2.2.2⟩
theorem tb_k6 : iv_MOK 6 := ⟨tb_m6, by rw [tb_y6]; exact tb_i2, by rw [tb_y6]; exact tb_n2.1, by rw [tb_y6]; exact tb_n2.2.1, Nat.le_of_ble_eq_true rfl, by rw [tb_y6]; exact tb_n2.2.2⟩
theorem tb_k7 : iv_MOK 7 := ⟨tb_m7, by rw [tb_y7]; exact tb_i2, by rw [tb_y7]; exact tb_n2.1, by rw [tb_y7]; exact tb_n2.2.1, Nat.le_of_ble_eq_true rfl, by rw [tb_y7]; exact tb_n2.2.2⟩
theorem tb_k8 : iv_MOK 8 := ⟨tb_m8, by rw [tb_y8]; exact tb_i2, by rw [tb_y8]; exact tb_n2.1, by rw [tb_y8]; exact tb_n2.2.1, Nat.le_of_ble_eq_true rfl, by rw [tb_y8]; exact tb_n2.2.2⟩
theorem tb_k9 : iv_MOK 9 := ⟨tb_m9, by rw [tb_y9]; exact tb_i2, by rw [tb_y9]; exact tb_n2.1, by rw [tb_y9]; exact tb_n2.2.1, Nat.le_of_ble_eq_true rfl, by rw [tb_y9]; exact tb_n2.2.2⟩
theorem tb_k10 : iv_MOK 10 := ⟨tb_m10, by rw [tb_y10]; exact tb_i2, by rw [tb_y10]; exact tb_n2.1, by rw [tb_y10]; exact tb_n2.2.1, Nat.le_of_ble_eq_true rfl, by rw [tb_y10]; exact tb_n2.2.2⟩
theorem tb_k11 : iv_MOK 11 := ⟨tb_m11, by rw [tb_y11]; exact tb_i2, by rw [tb_y11]; exact tb_n2.1, by rw [tb_y11]; exact tb_n2.2.1, Nat.le_of_ble_eq_true rfl, by rw [tb_y11]; exact tb_n2.2.2⟩
theorem tb_k12 : iv_MOK 12 := ⟨tb_m12, by rw [tb_y12]; exact tb_i2, by rw [tb_y12]; exact tb_n2.1, by rw [tb_y12]; exact tb_n2.2.1, Nat.le_of_ble_eq_true rfl, by rw [tb_y12]; exact tb_n2.2.2⟩
theorem tb_k13 : iv_MOK 13 := ⟨tb_m13, by rw [tb_y13]; exact tb_i2, by rw [tb_y13]; exact tb_n2.1, by rw [tb_y13]; exact tb_n2.2.1, Nat.le_of_ble_eq_true rfl, by rw [tb_y13]; exact tb_n2.2.2⟩
theorem tb_k14 : iv_MOK 14 := ⟨tb_m14, by rw [tb_y14]; exact tb_i2, by rw [tb_y14]; exact tb_n2.1, by rw [tb_y14]; exact tb_n2.2.1, Nat.le_of_ble_eq_true rfl, by rw [tb_y14]; exact tb_n2.2.2⟩
theorem tb_k15 : iv_MOK 15 := ⟨tb_m15, by rw [tb_y15]; exact tb_i2, by rw [tb_y15]; exact tb_n2.1, by rw [tb_y15]; exact tb_n2.2.1, Nat.le_of_ble_eq_true rfl, by rw [tb_y15]; exact tb_n2.2.2⟩
theorem tb_k16 : iv_MOK 16 := ⟨tb_m16, by rw [tb_y16]; exact tb_i2, by rw [tb_y16]; exact tb_n2.1, by rw [tb_y16]; exact tb_n2.2.1, Nat.le_of_ble_eq_true rfl, by rw [tb_y16]; exact tb_n2.2.2⟩
theorem tb_k17 : iv_MOK 17 := ⟨tb_m17, by rw [tb_y17]; exact tb_i2, by rw [tb_y17]; exact tb_n2.1, by rw [tb_y17]; exact tb_n2.2.1, Nat.le_of_ble_eq_true rfl, by rw [tb_y17]; exact tb_n2.2.2⟩
theorem tb_k18 : iv_MOK 18 := ⟨tb_m18, by rw [tb_y18]; exact tb_i2, by rw [tb_y18]; exact tb_n2.1, by rw [tb_y18]; exact tb_n2.2.1, Nat.le_of_ble_eq_true rfl, by rw [tb_y18]; exact tb_n2.2.2⟩
theorem tb_k19 : iv_MOK 19 := ⟨tb_m19, by rw [tb_y19]; exact tb_i2, by rw [tb_y19]; exact tb_n2.1, by rw [tb_y19]; exact tb_n2.2.1, Nat.le_of_ble_eq_true rfl, by rw [tb_y19]; exact tb_n2.2.2⟩
theorem tb_k20 : iv_MOK 20 := ⟨tb_m20, by rw [tb_y20]; exact tb_i2, by rw [tb_y20]; exact tb_n2.1, by rw [tb_y20]; exact tb_n2.2.1, Nat.le_of_ble_eq_true rfl, by rw [tb_y20]; exact tb_n2.2.2⟩
theorem tb_k21 : iv_MOK 21 := ⟨tb_m21, by rw [tb_y21]; exact tb_i2, by rw [tb_y21]; exact tb_n2.1, by rw [tb_y21]; exact tb_n2.2.1, Nat.le_of_ble_eq_true rfl, by rw [tb_y21]; exact tb_n2.2.2⟩
theorem tb_k22 : iv_MOK 22 := ⟨tb_m22, by rw [tb_y22]; exact tb_i2, by rw [tb_y22]; exact tb_n2.1, by rw [tb_y22]; exact tb_n2.2.1, Nat.le_of_ble_eq_true rfl, by rw [tb_y22]; exact tb_n2.2.2⟩
theorem tb_k23 : iv_MOK 23 := ⟨tb_m23, by rw [tb_y23]; exact tb_i2, by rw [tb_y23]; exact tb_n2.1, by rw [tb_y23]; exact tb_n2.2.1, Nat.le_of_ble_eq_true rfl, by rw [tb_y23]; exact tb_n2.2.2⟩
theorem tb_k24 : iv_MOK 24 := ⟨tb_m24, by rw [tb_y24]; exact tb_i2, by rw [tb_y24]; exact tb_n2.1, by rw [tb_y24]; exact tb_n2.2.1, Nat.le_of_ble_eq_true rfl, by rw [tb_y24]; exact tb_n2.2.2⟩
theorem tb_k25 : iv_MOK 25 := ⟨tb_m25, by rw [tb_y25]; exact tb_i2, by rw [tb_y25]; exact tb_n2.1, by rw [tb_y25]; exact tb_n2.2.1, Nat.le_of_ble_eq_true rfl, by rw [tb_y25]; exact tb_n2.2.2⟩
theorem tb_k26 : iv_MOK 26 := ⟨tb_m26, by rw [tb_y26]; exact tb_i2, by rw [tb_y26]; exact tb_n2.1, by rw [tb_y26]; exact tb_n2.2.1, Nat.le_of_ble_eq_true rfl, by rw [tb_y26]; exact tb_n2.2.2⟩
theorem tb_k27 : iv_MOK 27 := ⟨tb_m27, by rw [tb_y27]; exact tb_i2, by rw [tb_y27]; exact tb_n2.1, by rw [tb_y27]; exact tb_n2.2.1, Nat.le_of_ble_eq_true rfl, by rw [tb_y27]; exact tb_n2.2.2⟩
theorem tb_k28 : iv_MOK 28 := ⟨tb_m28, by rw [tb_y28]; exact tb_i2, by rw [tb_y28]; exact tb_n2.1, by rw [tb_y28]; exact tb_n2.2.1, Nat.le_of_ble_eq_true rfl, by rw [tb_y28]; exact tb_n2.2.2⟩
theorem tb_k29 : iv_MOK 29 := ⟨tb_m29, by rw [tb_y29]; exact tb_i2, by rw [tb_y29]; exact tb_n2.1, by rw [tb_y29]; exact tb_n2.2.1, Nat.le_of_ble_eq_true rfl, by rw [tb_y29]; exact tb_n2.2.2⟩
theorem tb_k30 : iv_MOK 30 := ⟨tb_m30, by rw [tb_y30]; exact tb_i2, by rw [tb_y30]; exact tb_n2.1, by rw [tb_y30]; exact tb_n2.2.1, Nat.le_of_ble_eq_true rfl, by rw [tb_y30]; exact tb_n2.2.2⟩
theorem tb_k31 : iv_MOK 31 := ⟨tb_m31, by rw [tb_y31]; exact tb_i2, by rw [tb_y31]; exact tb_n2.1, by rw [tb_y31]; exact tb_n2.2.1, Nat.le_of_ble_eq_true rfl, by rw [tb_y31]; exact tb_n2.2.2⟩
theorem tb_k32 : iv_MOK 32 := ⟨tb_m32, by rw [tb_y32]; exact tb_i2, by rw [tb_y32]; exact tb_n2.1, by rw [tb_y32]; exact tb_n2.2.1, Nat.le_of_ble_eq_true rfl, by rw [tb_y32]; exact tb_n2.2.2⟩
theorem tb_k33 : iv_MOK 33 := ⟨tb_m33, by rw [tb_y33]; exact tb_i2, by rw [tb_y33]; exact tb_n2.1, by rw [tb_y33]; exact tb_n2.2.1, Nat.le_of_ble_eq_true rfl, by rw [tb_y33]; exact tb_n2.2.2⟩
theorem tb_k34 : iv_MOK 34 := ⟨tb_m34, by rw [tb_y34]; exact tb_i3, by rw [tb_y34]; exact tb_n3.1, by rw [tb_y34]; exact tb_n3.2.1, Nat.le_of_ble_eq_true rfl, by rw [tb_y34]; exact tb_n3.2.2⟩
theorem tb_k35 : iv_MOK 35 := ⟨tb_m35, by rw [tb_y35]; exact tb_i3, by rw [tb_y35]; exact tb_n3.1, by rw [tb_y35]; exact tb_n3.2.1, Nat.le_of_ble_eq_true rfl, by rw [tb_y35]; exact tb_n3.2.2⟩
theorem tb_k36 : iv_MOK 36 := ⟨tb_m36, by rw [tb_y36]; exact tb_i3, by rw [tb_y36]; exact tb_n3.1, by rw [tb_y36]; exact tb_n3.2.1, Nat.le_of_ble_eq_true rfl, by rw [tb_y36]; exact tb_n3.2.2⟩
theorem tb_k37 : iv_MOK 37 := ⟨tb_m37, by rw [tb_y37]; exact tb_i3, by rw [tb_y37]; exact tb_n3.1, by rw [tb_y37]; exact tb_n3.2.1, Nat.le_of_ble_eq_true rfl, by rw [tb_y37]; exact tb_n3.2.2⟩
theorem tb_k38 : iv_MOK 38 := ⟨tb_m38, by rw [tb_y38]; exact tb_i3, by rw [tb_y38]; exact tb_n3.1, by rw [tb_y38]; exact tb_n3.2.1, Nat.le_of_ble_eq_true rfl, by rw [tb_y38]; exact tb_n3.2.2⟩
theorem tb_k39 : iv_MOK 39 := ⟨tb_m39, by rw [tb_y39]; exact tb_i3, by rw [tb_y39]; exact tb_n3.1, by rw [tb_y39]; exact tb_n3.2.1, Nat.le_of_ble_eq_true rfl, by rw [tb_y39]; exact tb_n3.2.2⟩
theorem tb_k40 : iv_MOK 40 := ⟨tb_m40, by rw [tb_y40]; exact tb_i3, by rw [tb_y40]; exact tb_n3.1, by rw [tb_y40]; exact tb_n3.2.1, Nat.le_of_ble_eq_true rfl, by rw [tb_y40]; exact tb_n3.2.2⟩
theorem tb_k41 : iv_MOK 41 := ⟨tb_m41, by rw [tb_y41]; exact tb_i3, by rw [tb_y41]; exact tb_n3.1, by rw [tb_y41]; exact tb_n3.2.1, Nat.le_of_ble_eq_true rfl, by rw [tb_y41]; exact tb_n3.2.2⟩
theorem tb_k42 : iv_MOK 42 := ⟨tb_m42, by rw [tb_y42]; exact tb_i3, by rw [tb_y42]; exact tb_n3.1, by rw [tb_y42]; exact tb_n3.2.1, Nat.le_of_ble_eq_true rfl, by rw [tb_y42]; exact tb_n3.2.2⟩
theorem tb_k43 : iv_MOK 43 := ⟨tb_m43, by rw [tb_y43]; exact tb_i4, by rw [tb_y43]; exact tb_n4.1, by rw [tb_y43]; exact tb_n4.2.1, Nat.le_of_ble_eq_true rfl, by rw [tb_y43]; exact tb_n4.2.2⟩
theorem tb_k44 : iv_MOK 44 := ⟨tb_m44, by rw [tb_y44]; exact tb_i4, by rw [tb_y44]; exact tb_n4.1, by rw [tb_y44]; exact tb_n4.2.1, Nat.le_of_ble_eq_true rfl, by rw [tb_y44]; exact tb_n4.2.2⟩
theorem tb_k45 : iv_MOK 45 := ⟨tb_m45, by rw [tb_y45]; exact tb_i4, by rw [tb_y45]; exact tb_n4.1, by rw [tb_y45]; exact tb_n4.2.1, Nat.le_of_ble_eq_true rfl, by rw [tb_y45]; exact tb_n4.2.2⟩
theorem tb_k46 : iv_MOK 46 := ⟨tb_m46, by rw [tb_y46]; exact tb_i4, by rw [tb_y46]; exact tb_n4.1, by rw [tb_y46]; exact tb_n4.2.1, Nat.le_of_ble_eq_true rfl, by rw [tb_y46]; exact tb_n4.2.2⟩
theorem tb_k47 : iv_MOK 47 := ⟨tb_m47, by rw [tb_y47]; exact tb_i4, by rw [tb_y47]; exact tb_n4.1, by rw [tb_y47]; exact tb_n4.2.1, Nat.le_of_ble_eq_true rfl, by rw [tb_y47]; exact tb_n4.2.2⟩
theorem tb_k48 : iv_MOK 48 := ⟨tb_m48, by rw [tb_y48]; exact tb_i4, by rw [tb_y48]; exact tb_n4.1, by rw [tb_y48]; exact tb_n4.2.1, Nat.le_of_ble_eq_true rfl, by rw [tb_y48]; exact tb_n4.2.2⟩
theorem tb_k49 : iv_MOK 49 := ⟨tb_m49, by rw [tb_y49]; exact tb_i4, by rw [tb_y49]; exact tb_n4.1, by rw [tb_y49]; exact tb_n4.2.1, Nat.le_of_ble_eq_true rfl, by rw [tb_y49]; exact tb_n4.2.2⟩
theorem tb_k50 : iv_MOK 50 := ⟨tb_m50, by rw [tb_y50]; exact tb_i4, by rw [tb_y50]; exact tb_n4.1, by rw [tb_y50]; exact tb_n4.2.1, Nat.le_of_ble_eq_true rfl, by rw [tb_y50]; exact tb_n4.2.2⟩
theorem tb_k51 : iv_MOK 51 := ⟨tb_m51, by rw [tb_y51]; exact tb_i4, by rw [tb_y51]; exact tb_n4.1, by rw [tb_y51]; exact tb_n4.2.1, Nat.le_of_ble_eq_true rfl, by rw [tb_y51]; exact tb_n4.2.2⟩
theorem tb_k52 : iv_MOK 52 := ⟨tb_m52, by rw [tb_y52]; exact tb_i5, by rw [tb_y52]; exact tb_n5.1, by rw [tb_y52]; exact tb_n5.2.1, Nat.le_of_ble_eq_true rfl, by rw [tb_y52]; exact tb_n5.2.2⟩
theorem tb_k53 : iv_MOK 53 := ⟨tb_m53, by rw [tb_y53]; exact tb_i5, by rw [tb_y53]; exact tb_n5.1, by rw [tb_y53]; exact tb_n5.2.1, Nat.le_of_ble_eq_true rfl, by rw [tb_y53]; exact tb_n5.2.2⟩
theorem tb_k54 : iv_MOK 54 := ⟨tb_m54, by rw [tb_y54]; exact tb_i5, by rw [tb_y54]; exact tb_n5.1, by rw [tb_y54]; exact tb_n5.2.1, Nat.le_of_ble_eq_true rfl, by rw [tb_y54]; exact tb_n5.2.2⟩
theorem tb_k55 : iv_MOK 55 := ⟨tb_m55, by rw [tb_y55]; exact tb_i5, by rw [tb_y55]; exact tb_n5.1, by rw [tb_y55]; exact tb_n5.2.1, Nat.le_of_ble_eq_true rfl, by rw [tb_y55]; exact tb_n5.2.2⟩
theorem tb_k56 : iv_MOK 56 := ⟨tb_m56, by rw [tb_y56]; exact tb_i5, by rw [tb_y56]; exact tb_n5.1, by rw [tb_y56]; exact tb_n5.2.1, Nat.le_of_ble_eq_true rfl, by rw [tb_y56]; exact tb_n5.2.2⟩
theorem tb_k57 : iv_MOK 57 := ⟨tb_m57, by rw [tb_y57]; exact tb_i5, by rw [tb_y57]; exact tb_n5.1, by rw [tb_y57]; exact tb_n5.2.1, Nat.le_of_ble_eq_true rfl, by rw [tb_y57]; exact tb_n5.2.2⟩
theorem tb_k58 : iv_MOK 58 := ⟨tb_m58, by rw [tb_y58]; exact tb_i5, by rw [tb_y58]; exact tb_n5.1, by rw [tb_y58]; exact tb_n5.2.1, Nat.le_of_ble_eq_true rfl, by rw [tb_y58]; exact tb_n5.2.2⟩
theorem tb_k59 : iv_MOK 59 := ⟨tb_m59, by rw [tb_y59]; exact tb_i7, by rw [tb_y59]; exact tb_n7.1, by rw [tb_y59]; exact tb_n7.2.1, Nat.le_of_ble_eq_true rfl, by rw [tb_y59]; exact tb_n7.2.2⟩
theorem tb_k60 : iv_MOK 60 := ⟨tb_m60, by rw [tb_y60]; exact tb_i7, by rw [tb_y60]; exact tb_n7.1, by rw [tb_y60]; exact tb_n7.2.1, Nat.le_of_ble_eq_true rfl, by rw [tb_y60]; exact tb_n7.2.2⟩
theorem tb_k61 : iv_MOK 61 := ⟨tb_m61, by rw [tb_y61]; exact tb_i7, by rw [tb_y61]; exact tb_n7.1, by rw [tb_y61]; exact tb_n7.2.1, Nat.le_of_ble_eq_true rfl, by rw [tb_y61]; exact tb_n7.2.2⟩
theorem tb_k62 : iv_MOK 62 := ⟨tb_m62, by rw [tb_y62]; exact tb_i7, by rw [tb_y62]; exact tb_n7.1, by rw [tb_y62]; exact tb_n7.2.1, Nat.le_of_ble_eq_true rfl, by rw [tb_y62]; exact tb_n7.2.2⟩
theorem tb_k63 : iv_MOK 63 := ⟨tb_m63, by rw [tb_y63]; exact tb_i7, by rw [tb_y63]; exact tb_n7.1, by rw [tb_y63]; exact tb_n7.2.1, Nat.le_of_ble_eq_true rfl, by rw [tb_y63]; exact tb_n7.2.2⟩
theorem tb_k64 : iv_MOK 64 := ⟨tb_m64, by rw [tb_y64]; exact tb_i7, by rw [tb_y64]; exact tb_n7.1, by rw [tb_y64]; exact tb_n7.2.1, Nat.le_of_ble_eq_true rfl, by rw [tb_y64]; exact tb_n7.2.2⟩
theorem tb_k65 : iv_MOK 65 := ⟨tb_m65, by rw [tb_y65]; exact tb_i8, by rw [tb_y65]; exact tb_n8.1, by rw [tb_y65]; exact tb_n8.2.1, Nat.le_of_ble_eq_true rfl, by rw [tb_y65]; exact tb_n8.2.2⟩
theorem tb_k66 : iv_MOK 66 := ⟨tb_m66, by rw [tb_y66]; exact tb_i8, by rw [tb_y66]; exact tb_n8.1, by rw [tb_y66]; exact tb_n8.2.1, Nat.le_of_ble_eq_true rfl, by rw [tb_y66]; exact tb_n8.2.2⟩
theorem tb_k67 : iv_MOK 67 := ⟨tb_m67, by rw [tb_y67]; exact tb_i8, by rw [tb_y67]; exact tb_n8.1, by rw [tb_y67]; exact tb_n8.2.1, Nat.le_of_ble_eq_true rfl, by rw [tb_y67]; exact tb_n8.2.2⟩
theorem tb_k68 : iv_MOK 68 := ⟨tb_m68, by rw [tb_y68]; exact tb_i8, by rw [tb_y68]; exact tb_n8.1, by rw [tb_y68]; exact tb_n8.2.1, Nat.le_of_ble_eq_true rfl, by rw [tb_y68]; exact tb_n8.2.2⟩
theorem tb_k69 : iv_MOK 69 := ⟨tb_m69, by rw [tb_y69]; exact tb_i8, by rw [tb_y69]; exact tb_n8.1, by rw [tb_y69]; exact tb_n8.2.1, Nat.le_of_ble_eq_true rfl, by rw [tb_y69]; exact tb_n8.2.2⟩
theorem tb_k70 : iv_MOK 70 := ⟨tb_m70, by rw [tb_y70]; exact tb_i8, by rw [tb_y70]; exact tb_n8.1, by rw [tb_y70]; exact tb_n8.2.1, Nat.le_of_ble_eq_true rfl, by rw [tb_y70]; exact tb_n8.2.2⟩
theorem tb_k71 : iv_MOK 71 := ⟨tb_m71, by rw [tb_y71]; exact tb_i9, by rw [tb_y71]; exact tb_n9.1, by rw [tb_y71]; exact tb_n9.2.1, Nat.le_of_ble_eq_true rfl, by rw [tb_y71]; exact tb_n9.2.2⟩
theorem tb_k72 : iv_MOK 72 := ⟨tb_m72, by rw [tb_y72]; exact tb_i9, by rw [tb_y72]; exact tb_n9.1, by rw [tb_y72]; exact tb_n9.2.1, Nat.le_of_ble_eq_true rfl, by rw [tb_y72]; exact tb_n9.2.2⟩
theorem tb_k73 : iv_MOK 73 := ⟨tb_m73, by rw [tb_y73]; exact tb_i9, by rw [tb_y73]; exact tb_n9.1, by rw [tb_y73]; exact tb_n9.2.1, Nat.le_of_ble_eq_true rfl, by rw [tb_y73]; exact tb_n9.2.2⟩
theorem tb_k74 : iv_MOK 74 := ⟨tb_m74, by rw [tb_y74]; exact tb_i9, by rw [tb_y74]; exact tb_n9.1, by rw [tb_y74]; exact tb_n9.2.1, Nat.le_of_ble_eq_true rfl, by rw [tb_y74]; exact tb_n9.2.2⟩
theorem tb_k75 : iv_MOK 75 := ⟨tb_m75, by rw [tb_y75]; exact tb_i9, by rw [tb_y75]; exact tb_n9.1, by rw [tb_y75]; exact tb_n9.2.1, Nat.le_of_ble_eq_true rfl, by rw [tb_y75]; exact tb_n9.2.2⟩
theorem tb_k76 : iv_MOK 76 := ⟨tb_m76, by rw [tb_y76]; exact tb_i9, by rw [tb_y76]; exact tb_n9.1, by rw [tb_y76]; exact tb_n9.2.1, Nat.le_of_ble_eq_true rfl, by rw [tb_y76]; exact tb_n9.2.2⟩
theorem tb_k77 : iv_MOK 77 := ⟨tb_m77, by rw [tb_y77]; exact tb_i9, by rw [tb_y77]; exact tb_n9.1, by rw [tb_y77]; exact tb_n9.2.1, Nat.le_of_ble_eq_true rfl, by rw [tb_y77]; exact tb_n9.2.2⟩
theorem tb_k78 : iv_MOK 78 := ⟨tb_m78, by rw [tb_y78]; exact tb_i9, by rw [tb_y78]; exact tb_n9.1, by rw [tb_y78]; exact tb_n9.2.1, Nat.le_of_ble_eq_true rfl, by rw [tb_y78]; exact tb_n9.2.2⟩
theorem tb_k79 : iv_MOK 79 := ⟨tb_m79, by rw [tb_y79]; exact tb_i9, by rw [tb_y79]; exact tb_n9.1, by rw [tb_y79]; exact tb_n9.2.1, Nat.le_of_ble_eq_true rfl, by rw [tb_y79]; exact tb_n9.2.2⟩
theorem tb_k80 : iv_MOK 80 := ⟨tb_m80, by rw [tb_y80]; exact tb_i9, by rw [tb_y80]; exact tb_n9.1, by rw [tb_y80]; exact tb_n9.2.1, Nat.le_of_ble_eq_true rfl, by rw [tb_y80]; exact tb_n9.2.2⟩
theorem tb_k81 : iv_MOK 81 := ⟨tb_m81, by rw [tb_y81]; exact tb_i9, by rw [tb_y81]; exact tb_n9.1, by rw [tb_y81]; exact tb_n9.2.1, Nat.le_of_ble_eq_true rfl, by rw [tb_y81]; exact tb_n9.2.2⟩
theorem tb_k82 : iv_MOK 82 := ⟨tb_m82, by rw [tb_y82]; exact tb_i9, by rw [tb_y82]; exact tb_n9.1, by rw [tb_y82]; exact tb_n9.2.1, Nat.le_of_ble_eq_true rfl, by rw [tb_y82]; exact tb_n9.2.2⟩
theorem tb_k83 : iv_MOK 83 := ⟨tb_m83, by rw [tb_y83]; exact tb_i10, by rw [tb_y83]; exact tb_n10.1, by rw [tb_y83]; exact tb_n10.2.1, Nat.le_of_ble_eq_true rfl, by rw [tb_y83]; exact tb_n10.2.2⟩
theorem tb_k84 : iv_MOK 84 := ⟨tb_m84, by rw [tb_y84]; exact tb_i10, by rw [tb_y84]; exact tb_n10.1, by rw [tb_y84]; exact tb_n10.2.1, Nat.le_of_ble_eq_true rfl, by rw [tb_y84]; exact tb_n10.2.2⟩
theorem tb_k85 : iv_MOK 85 := ⟨tb_m85, by rw [tb_y85]; exact tb_i10, by rw [tb_y85]; exact tb_n10.1, by rw [tb_y85]; exact tb_n10.2.1, Nat.le_of_ble_eq_true rfl, by rw [tb_y85]; exact tb_n10.2.2⟩
theorem tb_k86 : iv_MOK 86 := ⟨tb_m86, by rw [tb_y86]; exact tb_i10, by rw [tb_y86]; exact tb_n10.1, by rw [tb_y86]; exact tb_n10.2.1, Nat.le_of_ble_eq_true rfl, by rw [tb_y86]; exact tb_n10.2.2⟩
theorem tb_k87 : iv_MOK 87 := ⟨tb_m87, by rw [tb_y87]; exact tb_i10, by rw [tb_y87]; exact tb_n10.1, by rw [tb_y87]; exact tb_n10.2.1, Nat.le_of_ble_eq_true rfl, by rw [tb_y87]; exact tb_n10.2.2⟩
theorem tb_k88 : iv_MOK 88 := ⟨tb_m88, by rw [tb_y88]; exact tb_i10, by rw [tb_y88]; exact tb_n10.1, by rw [tb_y88]; exact tb_n10.2.1, Nat.le_of_ble_eq_true rfl, by rw [tb_y88]; exact tb_n10.2.2⟩
theorem tb_k89 : iv_MOK 89 := ⟨tb_m89, by rw [tb_y89]; exact tb_i10, by rw [tb_y89]; exact tb_n10.1, by rw [tb_y89]; exact tb_n10.2.1, Nat.le_of_ble_eq_true rfl, by rw [tb_y89]; exact tb_n10.2.2⟩
theorem tb_k90 : iv_MOK 90 := ⟨tb_m90, by rw [tb_y90]; exact tb_i10, by rw [tb_y90]; exact tb_n10.1, by rw [tb_y90]; exact tb_n10.2.1, Nat.le_of_ble_eq_true rfl, by rw [tb_y90]; exact tb_n10.2.2⟩
theorem tb_k91 : iv_MOK 91 := ⟨tb_m91, by rw [tb_y91]; exact tb_i11, by rw [tb_y91]; exact tb_n11.1, by rw [tb_y91]; exact tb_n11.2.1, Nat.le_of_ble_eq_true rfl, by rw [tb_y91]; exact tb_n11.2.2⟩
theorem tb_k92 : iv_MOK 92 := ⟨tb_m92, by rw [tb_y92]; exact tb_i11, by rw [tb_y92]; exact tb_n11.1, by rw [tb_y92]; exact tb_n11.2.1, Nat.le_of_ble_eq_true rfl, by rw [tb_y92]; exact tb_n11.2.2⟩
theorem tb_k93 : iv_MOK 93 := ⟨tb_m93, by rw [tb_y93]; exact tb_i11, by rw [tb_y93]; exact tb_n11.1, by rw [tb_y93]; exact tb_n11.2.1, Nat.le_of_ble_eq_true rfl, by rw [tb_y93]; exact tb_n11.2.2⟩
theorem tb_k94 : iv_MOK 94 := ⟨tb_m94, by rw [tb_y94]; exact tb_i11, by rw [tb_y94]; exact tb_n11.1, by rw [tb_y94]; exact tb_n11.2.1, Nat.le_of_ble_eq_true rfl, by rw [tb_y94]; exact tb_n11.2.2⟩
theorem tb_k95 : iv_MOK 95 := ⟨tb_m95, by rw [tb_y95]; exact tb_i11, by rw [tb_y95]; exact tb_n11.1, by rw [tb_y95]; exact tb_n11.2.1, Nat.le_of_ble_eq_true rfl, by rw [tb_y95]; exact tb_n11.2.2⟩
theorem tb_k96 : iv_MOK 96 := ⟨tb_m96, by rw [tb_y96]; exact tb_i11, by rw [tb_y96]; exact tb_n11.1, by rw [tb_y96]; exact tb_n11.2.1, Nat.le_of_ble_eq_true rfl, by rw [tb_y96]; exact tb_n11.2.2⟩
theorem tb_k97 : iv_MOK 97 := ⟨tb_m97, by rw [tb_y97]; exact tb_i11, by rw [tb_y97]; exact tb_n11.1, by rw [tb_y97]; exact tb_n11.2.1, Nat.le_of_ble_eq_true rfl, by rw [tb_y97]; exact tb_n11.2.2⟩
theorem tb_k98 : iv_MOK 98 := ⟨tb_m98, by rw [tb_y98]; exact tb_i11, by rw [tb_y98]; exact tb_n11.1, by rw [tb_y98]; exact tb_n11.2.1, Nat.le_of_ble_eq_true rfl, by rw [tb_y98]; exact tb_n11.2.2⟩
theorem tb_k99 : iv_MOK 99 := ⟨tb_m99, by rw [tb_y99]; exact tb_i11, by rw [tb_y99]; exact tb_n11.1, by rw [tb_y99]; exact tb_n11.2.1, Nat.le_of_ble_eq_true rfl, by rw [tb_y99]; exact tb_n11.2.2⟩
theorem tb_k100 : iv_MOK 100 := ⟨tb_m100, by rw [tb_y100]; exact tb_i11, by rw [tb_y100]; exact tb_n11.1, by rw [tb_y100]; exact tb_n11.2.1, Nat.le_of_ble_eq_true rfl, by rw [tb_y100]; exact tb_n11.2.2⟩
theorem tb_k101 : iv_MOK 101 := ⟨tb_m101, by rw [tb_y101]; exact tb_i11, by rw [tb_y101]; exact tb_n11.1, by rw [tb_y101]; exact tb_n11.2.1, Nat.le_of_ble_eq_true rfl, by rw [tb_y101]; exact tb_n11.2.2⟩
theorem tb_k102 : iv_MOK 102 := ⟨tb_m102, by rw [tb_y102]; exact tb_i11, by rw [tb_y102]; exact tb_n11.1, by rw [tb_y102]; exact tb_n11.2.1, Nat.le_of_ble_eq_true rfl, by rw [tb_y102]; exact tb_n11.2.2⟩
theorem tb_k103 : iv_MOK 103 := ⟨tb_m103, by rw [tb_y103]; exact tb_i0, by rw [tb_y103]; exact tb_n0.1, by rw [tb_y103]; exact tb_n0.2.1, Nat.le_of_ble_eq_true rfl, by rw [tb_y103]; exact tb_n0.2.2⟩
theorem tb_k104 : iv_MOK 104 := ⟨tb_m104, by rw [tb_y104]; exact tb_i0, by rw [tb_y104]; exact tb_n0.1, by rw [tb_y104]; exact tb_n0.2.1, Nat.le_of_ble_eq_true rfl, by rw [tb_y104]; exact tb_n0.2.2⟩
theorem tb_k105 : iv_MOK 105 := ⟨tb_m105, by rw [tb_y105]; exact tb_i0, by rw [tb_y105]; exact tb_n0.1, by rw [tb_y105]; exact tb_n0.2.1, Nat.le_of_ble_eq_true rfl, by rw [tb_y105]; exact tb_n0.2.2⟩
theorem tb_k106 : iv_MOK 106 := ⟨tb_m106, by rw [tb_y106]; exact tb_i0, by rw [tb_y106]; exact tb_n0.1, by rw [tb_y106]; exact tb_n0.2.1, Nat.le_of_ble_eq_true rfl, by rw [tb_y106]; exact tb_n0.2.2⟩
theorem tb_k107 : iv_MOK 107 := ⟨tb_m107, by rw [tb_y107]; exact tb_i0, by rw [tb_y107]; exact tb_n0.1, by rw [tb_y107]; exact tb_n0.2.1, Nat.le_of_ble_eq_true rfl, by rw [tb_y107]; exact tb_n0.2.2⟩
theorem tb_k108 : iv_MOK 108 := ⟨tb_m108, by rw [tb_y108]; exact tb_i0, by rw [tb_y108]; exact tb_n0.1, by rw [tb_y108]; exact tb_n0.2.1, Nat.le_of_ble_eq_true rfl, by rw [tb_y108]; exact tb_n0.2.2⟩
theorem tb_k109 : iv_MOK 109 := ⟨tb_m109, by rw [tb_y109]; exact tb_i0, by rw [tb_y109]; exact tb_n0.1, by rw [tb_y109]; exact tb_n0.2.1, Nat.le_of_ble_eq_true rfl, by rw [tb_y109]; exact tb_n0.2.2⟩
theorem tb_k110 : iv_MOK 110 := ⟨tb_m110, by rw [tb_y110]; exact tb_i0, by rw [tb_y110]; exact tb_n0.1, by rw [tb_y110]; exact tb_n0.2.1, Nat.le_of_ble_eq_true rfl, by rw [tb_y110]; exact tb_n0.2.2⟩
theorem tb_k111 : iv_MOK 111 := ⟨tb_m111, by rw [tb_y111]; exact tb_i0, by rw [tb_y111]; exact tb_n0.1, by rw [tb_y111]; exact tb_n0.2.1, Nat.le_of_ble_eq_true rfl, by rw [tb_y111]; exact tb_n0.2.2⟩
theorem tb_k112 : iv_MOK 112 := ⟨tb_m112, by rw [tb_y112]; exact tb_i0, by rw [tb_y112]; exact tb_n0.1, by rw [tb_y112]; exact tb_n0.2.1, Nat.le_of_ble_eq_true rfl, by rw [tb_y112]; exact tb_n0.2.2⟩
theorem tb_k113 : iv_MOK 113 := ⟨tb_m113, by rw [tb_y113]; exact tb_i0, by rw [tb_y113]; exact tb_n0.1, by rw [tb_y113]; exact tb_n0.2.1, Nat.le_of_ble_eq_true rfl, by rw [tb_y113]; exact tb_n0.2.2⟩
theorem tb_k114 : iv_MOK 114 := ⟨tb_m114, by rw [tb_y114]; exact tb_i0, by rw [tb_y114]; exact tb_n0.1, by rw [tb_y114]; exact tb_n0.2.1, Nat.le_of_ble_eq_true rfl, by rw [tb_y114]; exact tb_n0.2.2⟩
theorem tb_k115 : iv_MOK 115 := ⟨tb_m115, by rw [tb_y115]; exact tb_i0, by rw [tb_y115]; exact tb_n0.1, by rw [tb_y115]; exact tb_n0.2.1, Nat.le_of_ble_eq_true rfl, by rw [tb_y115]; exact tb_n0.2.2⟩
theorem tb_k116 : iv_MOK 116 := ⟨tb_m116, by rw [tb_y116]; exact tb_i0, by rw [tb_y116]; exact tb_n0.1, by rw [tb_y116]; exact tb_n0.2.1, Nat.le_of_ble_eq_true rfl, by rw [tb_y116]; exact tb_n0.2.2⟩
theorem tb_k117 : iv_MOK 117 := ⟨tb_m117, by rw [tb_y117]; exact tb_i0, by rw [tb_y117]; exact tb_n0.1, by rw [tb_y117]; exact tb_n0.2.1, Nat.le_of_ble_eq_true rfl, by rw [tb_y117]; exact tb_n0.2.2⟩
theorem tb_k118 : iv_MOK 118 := ⟨tb_m118, by rw [tb_y118]; exact tb_i0, by rw [tb_y118]; exact tb_n0.1, by rw [tb_y118]; exact tb_n0.2.1, Nat.le_of_ble_eq_true rfl, by rw [tb_y118]; exact tb_n0.2.2⟩
theorem tb_k119 : iv_MOK 119 := ⟨tb_m119, by rw [tb_y119]; exact tb_i0, by rw [tb_y119]; exact tb_n0.1, by rw [tb_y119]; exact tb_n0.2.1, Nat.le_of_ble_eq_true rfl, by rw [tb_y119]; exact tb_n0.2.2⟩
theorem tb_k120 : iv_MOK 120 := ⟨tb_m120, by rw [tb_y120]; exact tb_i0, by rw [tb_y120]; exact tb_n0.1, by rw [tb_y120]; exact tb_n0.2.1, Nat.le_of_ble_eq_true rfl, by rw [tb_y120]; exact tb_n0.2.2⟩
theorem tb_k121 : iv_MOK 121 := ⟨tb_m121, by rw [tb_y121]; exact tb_i0, by rw [tb_y121]; exact tb_n0.1, by rw [tb_y121]; exact tb_n0.2.1, Nat.le_of_ble_eq_true rfl, by rw [tb_y121]; exact tb_n0.2.2⟩
theorem tb_k122 : iv_MOK 122 := ⟨tb_m122, by rw [tb_y122]; exact tb_i0, by rw [tb_y122]; exact tb_n0.1, by rw [tb_y122]; exact tb_n0.2.1, Nat.le_of_ble_eq_true rfl, by rw [tb_y122]; exact tb_n0.2.2⟩
theorem tb_k123 : iv_MOK 123 := ⟨tb_m123, by rw [tb_y123]; exact tb_i0, by rw [tb_y123]; exact tb_n0.1, by rw [tb_y123]; exact tb_n0.2.1, Nat.le_of_ble_eq_true rfl, by rw [tb_y123]; exact tb_n0.2.2⟩
theorem tb_k124 : iv_MOK 124 := ⟨tb_m124, by rw [tb_y124]; exact tb_i0, by rw [tb_y124]; exact tb_n0.1, by rw [tb_y124]; exact tb_n0.2.1, Nat.le_of_ble_eq_true rfl, by rw [tb_y124]; exact tb_n0.2.2⟩
theorem tb_k125 : iv_MOK 125 := ⟨tb_m125, by rw [tb_y125]; exact tb_i0, by rw [tb_y125]; exact tb_n0.1, by rw [tb_y125]; exact tb_n0.2.1, Nat.le_of_ble_eq_true rfl, by rw [tb_y125]; exact tb_n0.2.2⟩
theorem tb_k126 : iv_MOK 126 := ⟨tb_m126, by rw [tb_y126]; exact tb_i0, by rw [tb_y126]; exact tb_n0.1, by rw [tb_y126]; exact tb_n0.2.1, Nat.le_of_ble_eq_true rfl, by rw [tb_y126]; exact tb_n0.2.2⟩
theorem tb_k127 : iv_MOK 127 := ⟨tb_m127, by rw [tb_y127]; exact tb_i0, by rw [tb_y127]; exact tb_n0.1, by rw [tb_y127]; exact tb_n0.2.1, Nat.le_of_ble_eq_true rfl, by rw [tb_y127]; exact tb_n0.2.2⟩
theorem tb_k128 : iv_MOK 128 := ⟨tb_m128, by rw [tb_y128]; exact tb_i0, by rw [tb_y128]; exact tb_n0.1, by rw [tb_y128]; exact tb_n0.2.1, Nat.le_of_ble_eq_true rfl, by rw [tb_y128]; exact tb_n0.2.2⟩
theorem tb_k129 : iv_MOK 129 := ⟨tb_m129, by rw [tb_y129]; exact tb_i0, by rw [tb_y129]; exact tb_n0.1, by rw [tb_y129]; exact tb_n0.2.1, Nat.le_of_ble_eq_true rfl, by rw [tb_y129]; exact tb_n0.2.2⟩
theorem tb_k130 : iv_MOK 130 := ⟨tb_m130, by rw [tb_y130]; exact tb_i0, by rw [tb_y130]; exact tb_n0.1, by rw [tb_y130]; exact tb_n0.2.1, Nat.le_of_ble_eq_true rfl, by rw [tb_y130]; exact tb_n0.2.2⟩
theorem tb_k131 : iv_MOK 131 := ⟨tb_m131, by rw [tb_y131]; exact tb_i0, by rw [tb_y131]; exact tb_n0.1, by rw [tb_y131]; exact tb_n0.2.1, Nat.le_of_ble_eq_true rfl, by rw [tb_y131]; exact tb_n0.2.2⟩
theorem tb_k132 : iv_MOK 132 := ⟨tb_m132, by rw [tb_y132]; exact tb_i0, by rw [tb_y132]; exact tb_n0.1, by rw [tb_y132]; exact tb_n0.2.1, Nat.le_of_ble_eq_true rfl, by rw [tb_y132]; exact tb_n0.2.2⟩
theorem tb_k133 : iv_MOK 133 := ⟨tb_m133, by rw [tb_y133]; exact tb_i0, by rw [tb_y133]; exact tb_n0.1, by rw [tb_y133]; exact tb_n0.2.1, Nat.le_of_ble_eq_true rfl, by rw [tb_y133]; exact tb_n0.2.2⟩
theorem tb_k134 : iv_MOK 134 := ⟨tb_m134, by rw [tb_y134]; exact tb_i0, by rw [tb_y134]; exact tb_n0.1, by rw [tb_y134]; exact tb_n0.2.1, Nat.le_of_ble_eq_true rfl, by rw [tb_y134]; exact tb_n0.2.2⟩
theorem tb_k135 : iv_MOK 135 := ⟨tb_m135, by rw [tb_y135]; exact tb_i0, by rw [tb_y135]; exact tb_n0.1, by rw [tb_y135]; exact tb_n0.2.1, Nat.le_of_ble_eq_true rfl, by rw [tb_y135]; exact tb_n0.2.2⟩
theorem tb_k136 : iv_MOK 136 := ⟨tb_m136, by rw [tb_y136]; exact tb_i0, by rw [tb_y136]; exact tb_n0.1, by rw [tb_y136]; exact tb_n0.2.1, Nat.le_of_ble_eq_true rfl, by rw [tb_y136]; exact tb_n0.2.2⟩
theorem tb_k137 : iv_MOK 137 := ⟨tb_m137, by rw [tb_y137]; exact tb_i0, by rw [tb_y137]; exact tb_n0.1, by rw [tb_y137]; exact tb_n0.2.1, Nat.le_of_ble_eq_true rfl, by rw [tb_y137]; exact tb_n0.2.2⟩
theorem tb_k138 : iv_MOK 138 := ⟨tb_m138, by rw [tb_y138]; exact tb_i0, by rw [tb_y138]; exact tb_n0.1, by rw [tb_y138]; exact tb_n0.2.1, Nat.le_of_ble_eq_true rfl, by rw [tb_y138]; exact tb_n0.2.2⟩
theorem tb_k139 : iv_MOK 139 := ⟨tb_m139, by rw [tb_y139]; exact tb_i0, by rw [tb_y139]; exact tb_n0.1, by rw [tb_y139]; exact tb_n0.2.1, Nat.le_of_ble_eq_true rfl, by rw [tb_y139]; exact tb_n0.2.2⟩
theorem tb_k140 : iv_MOK 140 := ⟨tb_m140, by rw [tb_y140]; exact tb_i0, by rw [tb_y140]; exact tb_n0.1, by rw [tb_y140]; exact tb_n0.2.1, Nat.le_of_ble_eq_true rfl, by rw [tb_y140]; exact tb_n0.2.2⟩
theorem tb_k141 : iv_MOK 141 := ⟨tb_m141, by rw [tb_y141]; exact tb_i0, by rw [tb_y141]; exact tb_n0.1, by rw [tb_y141]; exact tb_n0.2.1, Nat.le_of_ble_eq_true rfl, by rw [tb_y141]; exact tb_n0.2.2⟩
theorem tb_k142 : iv_MOK 142 := ⟨tb_m142, by rw [tb_y142]; exact tb_i0, by rw [tb_y142]; exact tb_n0.1, by rw [tb_y142]; exact tb_n0.2.1, Nat.le_of_ble_eq_true rfl, by rw [tb_y142]; exact tb_n0.2.2⟩
theorem tb_k143 : iv_MOK 143 := ⟨tb_m143, by rw [tb_y143]; exact tb_i0, by rw [tb_y143]; exact tb_n0.1, by rw [tb_y143]; exact tb_n0.2.1, Nat.le_of_ble_eq_true rfl, by rw [tb_y143]; exact tb_n0.2.2⟩
theorem tb_k144 : iv_MOK 144 := ⟨tb_m144, by rw [tb_y144]; exact tb_i0, by rw [tb_y144]; exact tb_n0.1, by rw [tb_y144]; exact tb_n0.2.1, Nat.le_of_ble_eq_true rfl, by rw [tb_y144]; exact tb_n0.2.2⟩
theorem tb_k145 : iv_MOK 145 := ⟨tb_m145, by rw [tb_y145]; exact tb_i0, by rw [tb_y145]; exact tb_n0.1, by rw [tb_y145]; exact tb_n0.2.1, Nat.le_of_ble_eq_true rfl, by rw [tb_y145]; exact tb_n0.2.2⟩
theorem tb_k146 : iv_MOK 146 := ⟨tb_m146, by rw [tb_y146]; exact tb_i0, by rw [tb_y146]; exact tb_n0.1, by rw [tb_y146]; exact tb_n0.2.1, Nat.le_of_ble_eq_true rfl, by rw [tb_y146]; exact tb_n0.2.2⟩
theorem tb_k147 : iv_MOK 147 := ⟨tb_m147, by rw [tb_y147]; exact tb_i0, by rw [tb_y147]; exact tb_n0.1, by rw [tb_y147]; exact tb_n0.2.1, Nat.le_of_ble_eq_true rfl, by rw [tb_y147]; exact tb_n0.2.2⟩
theorem tb_k148 : iv_MOK 148 := ⟨tb_m148, by rw [tb_y148]; exact tb_i0, by rw [tb_y148]; exact tb_n0.1, by rw [tb_y148]; exact tb_n0.2.1, Nat.le_of_ble_eq_true rfl, by rw [tb_y148]; exact tb_n0.2.2⟩
theorem tb_k149 : iv_MOK 149 := ⟨tb_m149, by rw [tb_y149]; exact tb_i0, by rw [tb_y149]; exact tb_n0.1, by rw [tb_y149]; exact tb_n0.2.1, Nat.le_of_ble_eq_true rfl, by rw [tb_y149]; exact tb_n0.2.2⟩
theorem tb_k150 : iv_MOK 150 := ⟨tb_m150, by rw [tb_y150]; exact tb_i0, by rw [tb_y150]; exact tb_n0.1, by rw [tb_y150]; exact tb_n0.2.1, Nat.le_of_ble_eq_true rfl, by rw [tb_y150]; exact tb_n0.2.2⟩
theorem tb_k151 : iv_MOK 151 := ⟨tb_m151, by rw [tb_y151]; exact tb_i0, by rw [tb_y151]; exact tb_n0.1, by rw [tb_y151]; exact tb_n0.2.1, Nat.le_of_ble_eq_true rfl, by rw [tb_y151]; exact tb_n0.2.2⟩
theorem tb_k152 : iv_MOK 152 := ⟨tb_m152, by rw [tb_y152]; exact tb_i13, by rw [tb_y152]; exact tb_n13.1, by rw [tb_y152]; exact tb_n13.2.1, Nat.le_of_ble_eq_true rfl, by rw [tb_y152]; exact tb_n13.2.2⟩
theorem tb_k153 : iv_MOK 153 := ⟨tb_m153, by rw [tb_y153]; exact tb_i13, by rw [tb_y153]; exact tb_n13.1, by rw [tb_y153]; exact tb_n13.2.1, Nat.le_of_ble_eq_true rfl, by rw [tb_y153]; exact tb_n13.2.2⟩
theorem tb_k154 : iv_MOK 154 := ⟨tb_m154, by rw [tb_y154]; exact tb_i13, by rw [tb_y154]; exact tb_n13.1, by rw [tb_y154]; exact tb_n13.2.1, Nat.le_of_ble_eq_true rfl, by rw [tb_y154]; exact tb_n13.2.2⟩
theorem tb_k155 : iv_MOK 155 := ⟨tb_m155, by rw [tb_y155]; exact tb_i13, by rw [tb_y155]; exact tb_n13.1, by rw [tb_y155]; exact tb_n13.2.1, Nat.le_of_ble_eq_true rfl, by rw [tb_y155]; exact tb_n13.2.2⟩
theorem tb_k156 : iv_MOK 156 := ⟨tb_m156, by rw [tb_y156]; exact tb_i13, by rw [tb_y156]; exact tb_n13.1, by rw [tb_y156]; exact tb_n13.2.1, Nat.le_of_ble_eq_true rfl, by rw [tb_y156]; exact tb_n13.2.2⟩
theorem tb_k157 : iv_MOK 157 := ⟨tb_m157, by rw [tb_y157]; exact tb_i13, by rw [tb_y157]; exact tb_n13.1, by rw [tb_y157]; exact tb_n13.2.1, Nat.le_of_ble_eq_true rfl, by rw [tb_y157]; exact tb_n13.2.2⟩
theorem tb_k158 : iv_MOK 158 := ⟨tb_m158, by rw [tb_y158]; exact tb_i13, by rw [tb_y158]; exact tb_n13.1, by rw [tb_y158]; exact tb_n13.2.1, Nat.le_of_ble_eq_true rfl, by rw [tb_y158]; exact tb_n13.2.2⟩
theorem tb_k159 : iv_MOK 159 := ⟨tb_m159, by rw [tb_y159]; exact tb_i13, by rw [tb_y159]; exact tb_n13.1, by rw [tb_y159]; exact tb_n13.2.1, Nat.le_of_ble_eq_true rfl, by rw [tb_y159]; exact tb_n13.2.2⟩
theorem tb_k160 : iv_MOK 160 := ⟨tb_m160, by rw [tb_y160]; exact tb_i13, by rw [tb_y160]; exact tb_n13.1, by rw [tb_y160]; exact tb_n13.2.1, Nat.le_of_ble_eq_true rfl, by rw [tb_y160]; exact tb_n13.2.2⟩
theorem tb_k161 : iv_MOK 161 := ⟨tb_m161, by rw [tb_y161]; exact tb_i13, by rw [tb_y161]; exact tb_n13.1, by rw [tb_y161]; exact tb_n13.2.1, Nat.le_of_ble_eq_true rfl, by rw [tb_y161]; exact tb_n13.2.2⟩
theorem tb_k162 : iv_MOK 162 := ⟨tb_m162, by rw [tb_y162]; exact tb_i13, by rw [tb_y162]; exact tb_n13.1, by rw [tb_y162]; exact tb_n13.2.1, Nat.le_of_ble_eq_true rfl, by rw [tb_y162]; exact tb_n13.2.2⟩
theorem tb_k163 : iv_MOK 163 := ⟨tb_m163, by rw [tb_y163]; exact tb_i13, by rw [tb_y163]; exact tb_n13.1, by rw [tb_y163]; exact tb_n13.2.1, Nat.le_of_ble_eq_true rfl, by rw [tb_y163]; exact tb_n13.2.2⟩
theorem tb_k164 : iv_MOK 164 := ⟨tb_m164, by rw [tb_y164]; exact tb_i13, by rw [tb_y164]; exact tb_n13.1, by rw [tb_y164]; exact tb_n13.2.1, Nat.le_of_ble_eq_true rfl, by rw [tb_y164]; exact tb_n13.2.2⟩
theorem tb_k165 : iv_MOK 165 := ⟨tb_m165, by rw [tb_y165]; exact tb_i13, by rw [tb_y165]; exact tb_n13.1, by rw [tb_y165]; exact tb_n13.2.1, Nat.le_of_ble_eq_true rfl, by rw [tb_y165]; exact tb_n13.2.2⟩
theorem tb_k166 : iv_MOK 166 := ⟨tb_m166, by rw [tb_y166]; exact tb_i13, by rw [tb_y166]; exact tb_n13.1, by rw [tb_y166]; exact tb_n13.2.1, Nat.le_of_ble_eq_true rfl, by rw [tb_y166]; exact tb_n13.2.2⟩
theorem tb_k167 : iv_MOK 167 := ⟨tb_m167, by rw [tb_y167]; exact tb_i13, by rw [tb_y167]; exact tb_n13.1, by rw [tb_y167]; exact tb_n13.2.1, Nat.le_of_ble_eq_true rfl, by rw [tb_y167]; exact tb_n13.2.2⟩
theorem tb_k168 : iv_MOK 168 := ⟨tb_m168, by rw [tb_y168]; exact tb_i13, by rw [tb_y168]; exact tb_n13.1, by rw [tb_y168]; exact tb_n13.2.1, Nat.le_of_ble_eq_true rfl, by rw [tb_y168]; exact tb_n13.2.2⟩
theorem tb_k169 : iv_MOK 169 := ⟨tb_m169, by rw [tb_y169]; exact tb_i13, by rw [tb_y169]; exact tb_n13.1, by rw [tb_y169]; exact tb_n13.2.1, Nat.le_of_ble_eq_true rfl, by rw [tb_y169]; exact tb_n13.2.2⟩
theorem tb_k170 : iv_MOK 170 := ⟨tb_m170, by rw [tb_y170]; exact tb_i13, by rw [tb_y170]; exact tb_n13.1, by rw [tb_y170]; exact tb_n13.2.1, Nat.le_of_ble_eq_true rfl, by rw [tb_y170]; exact tb_n13.2.2⟩
theorem tb_k171 : iv_MOK 171 := ⟨tb_m171, by rw [tb_y171]; exact tb_i13, by rw [tb_y171]; exact tb_n13.1, by rw [tb_y171]; exact tb_n13.2.1, Nat.le_of_ble_eq_true rfl, by rw [tb_y171]; exact tb_n13.2.2⟩
theorem tb_k172 : iv_MOK 172 := ⟨tb_m172, by rw [tb_y172]; exact tb_i13, by rw [tb_y172]; exact tb_n13.1, by rw [tb_y172]; exact tb_n13.2.1, Nat.le_of_ble_eq_true rfl, by rw [tb_y172]; exact tb_n13.2.2⟩
theorem tb_k173 : iv_MOK 173 := ⟨tb_m173, by rw [tb_y173]; exact tb_i13, by rw [tb_y173]; exact tb_n13.1, by rw [tb_y173]; exact tb_n13.2.1, Nat.le_of_ble_eq_true rfl, by rw [tb_y173]; exact tb_n13.2.2⟩
theorem tb_k174 : iv_MOK 174 := ⟨tb_m174, by rw [tb_y174]; exact tb_i13, by rw [tb_y174]; exact tb_n13.1, by rw [tb_y174]; exact tb_n13.2.1, Nat.le_of_ble_eq_true rfl, by rw [tb_y174]; exact tb_n13.2.2⟩
theorem tb_k175 : iv_MOK 175 := ⟨tb_m175, by rw [tb_y175]; exact tb_i13, by rw [tb_y175]; exact tb_n13.1, by rw [tb_y175]; exact tb_n13.2.1, Nat.le_of_ble_eq_true rfl, by rw [tb_y175]; exact tb_n13.2.2⟩
theorem tb_k176 : iv_MOK 176 := ⟨tb_m176, by rw [tb_y176]; exact tb_i13, by rw [tb_y176]; exact tb_n13.1, by rw [tb_y176]; exact tb_n13.2.1, Nat.le_of_ble_eq_true rfl, by rw [tb_y176]; exact tb_n13.2.2⟩
theorem tb_k177 : iv_MOK 177 := ⟨tb_m177, by rw [tb_y177]; exact tb_i13, by rw [tb_y177]; exact tb_n13.1, by rw [tb_y177]; exact tb_n13.2.1, Nat.le_of_ble_eq_true rfl, by rw [tb_y177]; exact tb_n13.2.2⟩
theorem tb_k178 : iv_MOK 178 := ⟨tb_m178, by rw [tb_y178]; exact tb_i13, by rw [tb_y178]; exact tb_n13.1, by rw [tb_y178]; exact tb_n13.2.1, Nat.le_of_ble_eq_true rfl, by rw [tb_y178]; exact tb_n13.2.2⟩
theorem tb_k179 : iv_MOK 179 := ⟨tb_m179, by rw [tb_y179]; exact tb_i13, by rw [tb_y179]; exact tb_n13.1, by rw [tb_y179]; exact tb_n13.2.1, Nat.le_of_ble_eq_true rfl, by rw [tb_y179]; exact tb_n13.2.2⟩
theorem tb_k180 : iv_MOK 180 := ⟨tb_m180, by rw [tb_y180]; exact tb_i13, by rw [tb_y180]; exact tb_n13.1, by rw [tb_y180]; exact tb_n13.2.1, Nat.le_of_ble_eq_true rfl, by rw [tb_y180]; exact tb_n13.2.2⟩
theorem tb_k181 : iv_MOK 181 := ⟨tb_m181, by rw [tb_y181]; exact tb_i13, by rw [tb_y181]; exact tb_n13.1, by rw [tb_y181]; exact tb_n13.2.1, Nat.le_of_ble_eq_true rfl, by rw [tb_y181]; exact tb_n13.2.2⟩
theorem tb_k182 : iv_MOK 182 := ⟨tb_m182, by rw [tb_y182]; exact tb_i13, by rw [tb_y182]; exact tb_n13.1, by rw [tb_y182]; exact tb_n13.2.1, Nat.le_of_ble_eq_true rfl, by rw [tb_y182]; exact tb_n13.2.2⟩
theorem tb_k183 : iv_MOK 183 := ⟨tb_m183, by rw [tb_y183]; exact tb_i13, by rw [tb_y183]; exact tb_n13.1, by rw [tb_y183]; exact tb_n13.2.1, Nat.le_of_ble_eq_true rfl, by rw [tb_y183]; exact tb_n13.2.2⟩
theorem tb_k184 : iv_MOK 184 := ⟨tb_m184, by rw [tb_y184]; exact tb_i13, by rw [tb_y184]; exact tb_n13.1, by rw [tb_y184]; exact tb_n13.2.1, Nat.le_of_ble_eq_true rfl, by rw [tb_y184]; exact tb_n13.2.2⟩
theorem tb_k185 : iv_MOK 185 := ⟨tb_m185, by rw [tb_y185]; exact tb_i13, by rw [tb_y185]; exact tb_n13.1, by rw [tb_y185]; exact tb_n13.2.1, Nat.le_of_ble_eq_true rfl, by rw [tb_y185]; exact tb_n13.2.2⟩
theorem tb_k186 : iv_MOK 186 := ⟨tb_m186, by rw [tb_y186]; exact tb_i13, by rw [tb_y186]; exact tb_n13.1, by rw [tb_y186]; exact tb_n13.2.1, Nat.le_of_ble_eq_true rfl, by rw [tb_y186]; exact tb_n13.2.2⟩
theorem tb_k187 : iv_MOK 187 := ⟨tb_m187, by rw [tb_y187]; exact tb_i13, by rw [tb_y187]; exact tb_n13.1, by rw [tb_y187]; exact tb_n13.2.1, Nat.le_of_ble_eq_true rfl, by rw [tb_y187]; exact tb_n13.2.2⟩
theorem tb_k188 : iv_MOK 188 := ⟨tb_m188, by rw [tb_y188]; exact tb_i13, by rw [tb_y188]; exact tb_n13.1, by rw [tb_y188]; exact tb_n13.2.1, Nat.le_of_ble_eq_true rfl, by rw [tb_y188]; exact tb_n13.2.2⟩
theorem tb_k189 : iv_MOK 189 := ⟨tb_m189, by rw [tb_y189]; exact tb_i13, by rw [tb_y189]; exact tb_n13.1, by rw [tb_y189]; exact tb_n13.2.1, Nat.le_of_ble_eq_true rfl, by rw [tb_y189]; exact tb_n13.2.2⟩
theorem tb_k190 : iv_MOK 190 := ⟨tb_m190, by rw [tb_y190]; exact tb_i13, by rw [tb_y190]; exact tb_n13.1, by rw [tb_y190]; exact tb_n13.2.1, Nat.le_of_ble_eq_true rfl, by rw [tb_y190]; exact tb_n13.2.2⟩
theorem tb_k191 : iv_MOK 191 := ⟨tb_m191, by rw [tb_y191]; exact tb_i13, by rw [tb_y191]; exact tb_n13.1, by rw [tb_y191]; exact tb_n13.2.1, Nat.le_of_ble_eq_true rfl, by rw [tb_y191]; exact tb_n13.2.2⟩
theorem tb_k192 : iv_MOK 192 := ⟨tb_m192, by rw [tb_y192]; exact tb_i13, by rw [tb_y192]; exact tb_n13.1, by rw [tb_y192]; exact tb_n13.2.1, Nat.le_of_ble_eq_true rfl, by rw [tb_y192]; exact tb_n13.2.2⟩
theorem tb_k193 : iv_MOK 193 := ⟨tb_m193, by rw [tb_y193]; exact tb_i13, by rw [tb_y193]; exact tb_n13.1, by rw [tb_y193]; exact tb_n13.2.1, Nat.le_of_ble_eq_true rfl, by rw [tb_y193]; exact tb_n13.2.2⟩
theorem tb_k194 : iv_MOK 194 := ⟨tb_m194, by rw [tb_y194]; exact tb_i13, by rw [tb_y194]; exact tb_n13.1, by rw [tb_y194]; exact tb_n13.2.1, Nat.le_of_ble_eq_true rfl, by rw [tb_y194]; exact tb_n13.2.2⟩
theorem tb_k195 : iv_MOK 195 := ⟨tb_m195, by rw [tb_y195]; exact tb_i13, by rw [tb_y195]; exact tb_n13.1, by rw [tb_y195]; exact tb_n13.2.1, Nat.le_of_ble_eq_true rfl, by rw [tb_y195]; exact tb_n13.2.2⟩
theorem tb_k196 : iv_MOK 196 := ⟨tb_m196, by rw [tb_y196]; exact tb_i13, by rw [tb_y196]; exact tb_n13.1, by rw [tb_y196]; exact tb_n13.2.1, Nat.le_of_ble_eq_true rfl, by rw [tb_y196]; exact tb_n13.2.2⟩
theorem tb_k197 : iv_MOK 197 := ⟨tb_m197, by rw [tb_y197]; exact tb_i13, by rw [tb_y197]; exact tb_n13.1, by rw [tb_y197]; exact tb_n13.2.1, Nat.le_of_ble_eq_true rfl, by rw [tb_y197]; exact tb_n13.2.2⟩
theorem tb_k198 : iv_MOK 198 := ⟨tb_m198, by rw [tb_y198]; exact tb_i13, by rw [tb_y198]; exact tb_n13.1, by rw [tb_y198]; exact tb_n13.2.1, Nat.le_of_ble_eq_true rfl, by rw [tb_y198]; exact tb_n13.2.2⟩
theorem tb_k199 : iv_MOK 199 := ⟨tb_m199, by rw [tb_y199]; exact tb_i13, by rw [tb_y199]; exact tb_n13.1, by rw [tb_y199]; exact tb_n13.2.1, Nat.le_of_ble_eq_true rfl, by rw [tb_y199]; exact tb_n13.2.2⟩
theorem tb_k200 : iv_MOK 200 := ⟨tb_m200, by rw [tb_y200]; exact tb_i13, by rw [tb_y200]; exact tb_n13.1, by rw [tb_y200]; exact tb_n13.2.1, Nat.le_of_ble_eq_true rfl, by rw [tb_y200]; exact tb_n13.2.2⟩
theorem tb_k201 : iv_MOK 201 := ⟨tb_m201, by rw [tb_y201]; exact tb_i13, by rw [tb_y201]; exact tb_n13.1, by rw [tb_y201]; exact tb_n13.2.1, Nat.le_of_ble_eq_true rfl, by rw [tb_y201]; exact tb_n13.2.2⟩
theorem tb_k202 : iv_MOK 202 := ⟨tb_m202, by rw [tb_y202]; exact tb_i13, by rw [tb_y202]; exact tb_n13.1, by rw [tb_y202]; exact tb_n13.2.1, Nat.le_of_ble_eq_true rfl, by rw [tb_y202]; exact tb_n13.2.2⟩
theorem tb_k203 : iv_MOK 203 := ⟨tb_m203, by rw [tb_y203]; exact tb_i13, by rw [tb_y203]; exact tb_n13.1, by rw [tb_y203]; exact tb_n13.2.1, Nat.le_of_ble_eq_true rfl, by rw [tb_y203]; exact tb_n13.2.2⟩
theorem tb_k204 : iv_MOK 204 := ⟨tb_m204, by rw [tb_y204]; exact tb_i13, by rw [tb_y204]; exact tb_n13.1, by rw [tb_y204]; exact tb_n13.2.1, Nat.le_of_ble_eq_true rfl, by rw [tb_y204]; exact tb_n13.2.2⟩
theorem tb_k205 : iv_MOK 205 := ⟨tb_m205, by rw [tb_y205]; exact tb_i13, by rw [tb_y205]; exact tb_n13.1, by rw [tb_y205]; exact tb_n13.2.1, Nat.le_of_ble_eq_true rfl, by rw [tb_y205]; exact tb_n13.2.2⟩
theorem tb_k206 : iv_MOK 206 := ⟨tb_m206, by rw [tb_y206]; exact tb_i13, by rw [tb_y206]; exact tb_n13.1, by rw [tb_y206]; exact tb_n13.2.1, Nat.le_of_ble_eq_true rfl, by rw [tb_y206]; exact tb_n13.2.2⟩
theorem tb_k207 : iv_MOK 207 := ⟨tb_m207, by rw [tb_y207]; exact tb_i13, by rw [tb_y207]; exact tb_n13.1, by rw [tb_y207]; exact tb_n13.2.1, Nat.le_of_ble_eq_true rfl, by rw [tb_y207]; exact tb_n13.2.2⟩
theorem tb_k208 : iv_MOK 208 := ⟨tb_m208, by rw [tb_y208]; exact tb_i13, by rw [tb_y208]; exact tb_n13.1, by rw [tb_y208]; exact tb_n13.2.1, Nat.le_of_ble_eq_true rfl, by rw [tb_y208]; exact tb_n13.2.2⟩
theorem tb_k209 : iv_MOK 209 := ⟨tb_m209, by rw [tb_y209]; exact tb_i13, by rw [tb_y209]; exact tb_n13.1, by rw [tb_y209]; exact tb_n13.2.1, Nat.le_of_ble_eq_true rfl, by rw [tb_y209]; exact tb_n13.2.2⟩
theorem tb_k210 : iv_MOK 210 := ⟨tb_m210, by rw [tb_y210]; exact tb_i13, by rw [tb_y210]; exact tb_n13.1, by rw [tb_y210]; exact tb_n13.2.1, Nat.le_of_ble_eq_true rfl, by rw [tb_y210]; exact tb_n13.2.2⟩
theorem tb_k211 : iv_MOK 211 := ⟨tb_m211, by rw [tb_y211]; exact tb_i13, by rw [tb_y211]; exact tb_n13.1, by rw [tb_y211]; exact tb_n13.2.1, Nat.le_of_ble_eq_true rfl, by rw [tb_y211]; exact tb_n13.2.2⟩
theorem tb_k212 : iv_MOK 212 := ⟨tb_m212, by rw [tb_y212]; exact tb_i13, by rw [tb_y212]; exact tb_n13.1, by rw [tb_y212]; exact tb_n13.2.1, Nat.le_of_ble_eq_true rfl, by rw [tb_y212]; exact tb_n13.2.2⟩
theorem tb_k213 : iv_MOK 213 := ⟨tb_m213, by rw [tb_y213]; exact tb_i13, by rw [tb_y213]; exact tb_n13.1, by rw [tb_y213]; exact tb_n13.2.1, Nat.le_of_ble_eq_true rfl, by rw [tb_y213]; exact tb_n13.2.2⟩
theorem tb_k214 : iv_MOK 214 := ⟨tb_m214, by rw [tb_y214]; exact tb_i13, by rw [tb_y214]; exact tb_n13.1, by rw [tb_y214]; exact tb_n13.2.1, Nat.le_of_ble_eq_true rfl, by rw [tb_y214]; exact tb_n13.2.2⟩
theorem tb_k215 : iv_MOK 215 := ⟨tb_m215, by rw [tb_y215]; exact tb_i13, by rw [tb_y215]; exact tb_n13.1, by rw [tb_y215]; exact tb_n13.2.1, Nat.le_of_ble_eq_true rfl, by rw [tb_y215]; exact tb_n13.2.2⟩
theorem tb_k216 : iv_MOK 216 := ⟨tb_m216, by rw [tb_y216]; exact tb_i13, by rw [tb_y216]; exact tb_n13.1, by rw [tb_y216]; exact tb_n13.2.1, Nat.le_of_ble_eq_true rfl, by rw [tb_y216]; exact tb_n13.2.2⟩
theorem tb_k217 : iv_MOK 217 := ⟨tb_m217, by rw [tb_y217]; exact tb_i13, by rw [tb_y217]; exact tb_n13.1, by rw [tb_y217]; exact tb_n13.2.1, Nat.le_of_ble_eq_true rfl, by rw [tb_y217]; exact tb_n13.2.2⟩
theorem tb_k218 : iv_MOK 218 := ⟨tb_m218, by rw [tb_y218]; exact tb_i13, by rw [tb_y218]; exact tb_n13.1, by rw [tb_y218]; exact tb_n13.2.1, Nat.le_of_ble_eq_true rfl, by rw [tb_y218]; exact tb_n13.2.2⟩
theorem tb_k219 : iv_MOK 219 := ⟨tb_m219, by rw [tb_y219]; exact tb_i13, by rw [tb_y219]; exact tb_n13.1, by rw [tb_y219]; exact tb_n13.2.1, Nat.le_of_ble_eq_true rfl, by rw [tb_y219]; exact tb_n13.2.2⟩
theorem tb_k220 : iv_MOK 220 := ⟨tb_m220, by rw [tb_y220]; exact tb_i13, by rw [tb_y220]; exact tb_n13.1, by rw [tb_y220]; exact tb_n13.2.1, Nat.le_of_ble_eq_true rfl, by rw [tb_y220]; exact tb_n13.2.2⟩
theorem tb_k221 : iv_MOK 221 := ⟨tb_m221, by rw [tb_y221]; exact tb_i13, by rw [tb_y221]; exact tb_n13.1, by rw [tb_y221]; exact tb_n13.2.1, Nat.le_of_ble_eq_true rfl, by rw [tb_y221]; exact tb_n13.2.2⟩
theorem tb_k222 : iv_MOK 222 := ⟨tb_m222, by rw [tb_y222]; exact tb_i13, by rw [tb_y222]; exact tb_n13.1, by rw [tb_y222]; exact tb_n13.2.1, Nat.le_of_ble_eq_true rfl, by rw [tb_y222]; exact tb_n13.2.2⟩
theorem tb_k223 : iv_MOK 223 := ⟨tb_m223, by rw [tb_y223]; exact tb_i13, by rw [tb_y223]; exact tb_n13.1, by rw [tb_y223]; exact tb_n13.2.1, Nat.le_of_ble_eq_true rfl, by rw [tb_y223]; exact tb_n13.2.2⟩
theorem tb_k224 : iv_MOK 224 := ⟨tb_m224, by rw [tb_y224]; exact tb_i13, by rw [tb_y224]; exact tb_n13.1, by rw [tb_y224]; exact tb_n13.2.1, Nat.le_of_ble_eq_true rfl, by rw [tb_y224]; exact tb_n13.2.2⟩
theorem tb_k225 : iv_MOK 225 := ⟨tb_m225, by rw [tb_y225]; exact tb_i13, by rw [tb_y225]; exact tb_n13.1, by rw [tb_y225]; exact tb_n13.2.1, Nat.le_of_ble_eq_true rfl, by rw [tb_y225]; exact tb_n13.2.2⟩
theorem tb_k226 : iv_MOK 226 := ⟨tb_m226, by rw [tb_y226]; exact tb_i13, by rw [tb_y226]; exact tb_n13.1, by rw [tb_y226]; exact tb_n13.2.1, Nat.le_of_ble_eq_true rfl, by rw [tb_y226]; exact tb_n13.2.2⟩
theorem tb_k227 : iv_MOK 227 := ⟨tb_m227, by rw [tb_y227]; exact tb_i13, by rw [tb_y227]; exact tb_n13.1, by rw [tb_y227]; exact tb_n13.2.1, Nat.le_of_ble_eq_true rfl, by rw [tb_y227]; exact tb_n13.2.2⟩
theorem tb_k228 : iv_MOK 228 := ⟨tb_m228, by rw [tb_y228]; exact tb_i13, by rw [tb_y228]; exact tb_n13.1, by rw [tb_y228]; exact tb_n13.2.1, Nat.le_of_ble_eq_true rfl, by rw [tb_y228]; exact tb_n13.2.2⟩
theorem tb_k229 : iv_MOK 229 := ⟨tb_m229, by rw [tb_y229]; exact tb_i13, by rw [tb_y229]; exact tb_n13.1, by rw [tb_y229]; exact tb_n13.2.1, Nat.le_of_ble_eq_true rfl, by rw [tb_y229]; exact tb_n13.2.2⟩
theorem tb_k230 : iv_MOK 230 := ⟨tb_m230, by rw [tb_y230]; exact tb_i13, by rw [tb_y230]; exact tb_n13.1, by rw [tb_y230]; exact tb_n13.2.1, Nat.le_of_ble_eq_true rfl, by rw [tb_y230]; exact tb_n13.2.2⟩
theorem tb_k231 : iv_MOK 231 := ⟨tb_m231, by rw [tb_y231]; exact tb_i13, by rw [tb_y231]; exact tb_n13.1, by rw [tb_y231]; exact tb_n13.2.1, Nat.le_of_ble_eq_true rfl, by rw [tb_y231]; exact tb_n13.2.2⟩
theorem tb_k232 : iv_MOK 232 := ⟨tb_m232, by rw [tb_y232]; exact tb_i13, by rw [tb_y232]; exact tb_n13.1, by rw [tb_y232]; exact tb_n13.2.1, Nat.le_of_ble_eq_true rfl, by rw [tb_y232]; exact tb_n13.2.2⟩
theorem tb_k233 : iv_MOK 233 := ⟨tb_m233, by rw [tb_y233]; exact tb_i13, by rw [tb_y233]; exact tb_n13.1, by rw [tb_y233]; exact tb_n13.2.1, Nat.le_of_ble_eq_true rfl, by rw [tb_y233]; exact tb_n13.2.2⟩
theorem tb_k234 : iv_MOK 234 := ⟨tb_m234, by rw [tb_y234]; exact tb_i13, by rw [tb_y234]; exact tb_n13.1, by rw [tb_y234]; exact tb_n13.2.1, Nat.le_of_ble_eq_true rfl, by rw [tb_y234]; exact tb_n13.2.2⟩
theorem tb_k235 : iv_MOK 235 := ⟨tb_m235, by rw [tb_y235]; exact tb_i13, by rw [tb_y235]; exact tb_n13.1, by rw [tb_y235]; exact tb_n13.2.1, Nat.le_of_ble_eq_true rfl, by rw [tb_y235]; exact tb_n13.2.2⟩
theorem tb_k236 : iv_MOK 236 := ⟨tb_m236, by rw [tb_y236]; exact tb_i13, by rw [tb_y236]; exact tb_n13.1, by rw [tb_y236]; exact tb_n13.2.1, Nat.le_of_ble_eq_true rfl, by rw [tb_y236]; exact tb_n13.2.2⟩
theorem tb_k237 : iv_MOK 237 := ⟨tb_m237, by rw [tb_y237]; exact tb_i13, by rw [tb_y237]; exact tb_n13.1, by rw [tb_y237]; exact tb_n13.2.1, Nat.le_of_ble_eq_true rfl, by rw [tb_y237]; exact tb_n13.2.2⟩
theorem tb_k238 : iv_MOK 238 := ⟨tb_m238, by rw [tb_y238]; exact tb_i13, by rw [tb_y238]; exact tb_n13.1, by rw [tb_y238]; exact tb_n13.2.1, Nat.le_of_ble_eq_true rfl, by rw [tb_y238]; exact tb_n13.2.2⟩
theorem tb_k239 : iv_MOK 239 := ⟨tb_m239, by rw [tb_y239]; exact tb_i13, by rw [tb_y239]; exact tb_n13.1, by rw [tb_y239]; exact tb_n13.2.1, Nat.le_of_ble_eq_true rfl, by rw [tb_y239]; exact tb_n13.2.2⟩
theorem tb_k240 : iv_MOK 240 := ⟨tb_m240, by rw [tb_y240]; exact tb_i13, by rw [tb_y240]; exact tb_n13.1, by rw [tb_y240]; exact tb_n13.2.1, Nat.le_of_ble_eq_true rfl, by rw [tb_y240]; exact tb_n13.2.2⟩
theorem tb_k241 : iv_MOK 241 := ⟨tb_m241, by rw [tb_y241]; exact tb_i13, by rw [tb_y241]; exact tb_n13.1, by rw [tb_y241]; exact tb_n13.2.1, Nat.le_of_ble_eq_true rfl, by rw [tb_y241]; exact tb_n13.2.2⟩
theorem tb_k242 : iv_MOK 242 := ⟨tb_m242, by rw [tb_y242]; exact tb_i13, by rw [tb_y242]; exact tb_n13.1, by rw [tb_y242]; exact tb_n13.2.1, Nat.le_of_ble_eq_true rfl, by rw [tb_y242]; exact tb_n13.2.2⟩
theorem tb_k243 : iv_MOK 243 := ⟨tb_m243, by rw [tb_y243]; exact tb_i13, by rw [tb_y243]; exact tb_n13.1, by rw [tb_y243]; exact tb_n13.2.1, Nat.le_of_ble_eq_true rfl, by rw [tb_y243]; exact tb_n13.2.2⟩
theorem tb_k244 : iv_MOK 244 := ⟨tb_m244, by rw [tb_y244]; exact tb_i13, by rw [tb_y244]; exact tb_n13.1, by rw [tb_y244]; exact tb_n13.2.1, Nat.le_of_ble_eq_true rfl, by rw [tb_y244]; exact tb_n13.2.2⟩
theorem tb_k245 : iv_MOK 245 := ⟨tb_m245, by rw [tb_y245]; exact tb_i13, by rw [tb_y245]; exact tb_n13.1, by rw [tb_y245]; exact tb_n13.2.1, Nat.le_of_ble_eq_true rfl, by rw [tb_y245]; exact tb_n13.2.2⟩
theorem tb_k246 : iv_MOK 246 := ⟨tb_m246, by rw [tb_y246]; exact tb_i13, by rw [tb_y246]; exact tb_n13.1, by rw [tb_y246]; exact tb_n13.2.1, Nat.le_of_ble_eq_true rfl, by rw [tb_y246]; exact tb_n13.2.2⟩
theorem tb_k247 : iv_MOK 247 := ⟨tb_m247, by rw [tb_y247]; exact tb_i13, by rw [tb_y247]; exact tb_n13.1, by rw [tb_y247]; exact tb_n13.2.1, Nat.le_of_ble_eq_true rfl, by rw [tb_y247]; exact tb_n13.2.2⟩
theorem tb_k248 : iv_MOK 248 := ⟨tb_m248, by rw [tb_y248]; exact tb_i13, by rw [tb_y248]; exact tb_n13.1, by rw [tb_y248]; exact tb_n13.2.1, Nat.le_of_ble_eq_true rfl, by rw [tb_y248]; exact tb_n13.2.2⟩
theorem tb_k249 : iv_MOK 249 := ⟨tb_m249, by rw [tb_y249]; exact tb_i13, by rw [tb_y249]; exact tb_n13.1, by rw [tb_y249]; exact tb_n13.2.1, Nat.le_of_ble_eq_true rfl, by rw [tb_y249]; exact tb_n13.2.2⟩
theorem tb_k250 : iv_MOK 250 := ⟨tb_m250, by rw [tb_y250]; exact tb_i13, by rw [tb_y250]; exact tb_n13.1, by rw [tb_y250]; exact tb_n13.2.1, Nat.le_of_ble_eq_true rfl, by rw [tb_y250]; exact tb_n13.2.2⟩
theorem tb_k251 : iv_MOK 251 := ⟨tb_m251, by rw [tb_y251]; exact tb_i13, by rw [tb_y251]; exact tb_n13.1, by rw [tb_y251]; exact tb_n13.2.1, Nat.le_of_ble_eq_true rfl, by rw [tb_y251]; exact tb_n13.2.2⟩
theorem tb_k252 : iv_MOK 252 := ⟨tb_m252, by rw [tb_y252]; exact tb_i13, by rw [tb_y252]; exact tb_n13.1, by rw [tb_y252]; exact tb_n13.2.1, Nat.le_of_ble_eq_true rfl, by rw [tb_y252]; exact tb_n13.2.2⟩
theorem tb_k253 : iv_MOK 253 := ⟨tb_m253, by rw [tb_y253]; exact tb_i13, by rw [tb_y253]; exact tb_n13.1, by rw [tb_y253]; exact tb_n13.2.1, Nat.le_of_ble_eq_true rfl, by rw [tb_y253]; exact tb_n13.2.2⟩
theorem tb_k254 : iv_MOK 254 := ⟨tb_m254, by rw [tb_y254]; exact tb_i13, by rw [tb_y254]; exact tb_n13.1, by rw [tb_y254]; exact tb_n13.2.1, Nat.le_of_ble_eq_true rfl, by rw [tb_y254]; exact tb_n13.2.2⟩
theorem tb_k255 : iv_MOK 255 := ⟨tb_m255, by rw [tb_y255]; exact tb_i13, by rw [tb_y255]; exact tb_n13.1, by rw [tb_y255]; exact tb_n13.2.1, Nat.le_of_ble_eq_true rfl, by rw [tb_y255]; exact tb_n13.2.2⟩
theorem tb_k256 : iv_MOK 256 := ⟨tb_m256, by rw [tb_y256]; exact tb_i13, by rw [tb_y256]; exact tb_n13.1, by rw [tb_y256]; exact tb_n13.2.1, Nat.le_of_ble_eq_true rfl, by rw [tb_y256]; exact tb_n13.2.2⟩
theorem tb_k257 : iv_MOK 257 := ⟨tb_m257, by rw [tb_y257]; exact tb_i13, by rw [tb_y257]; exact tb_n13.1, by rw [tb_y257]; exact tb_n13.2.1, Nat.le_of_ble_eq_true rfl, by rw [tb_y257]; exact tb_n13.2.2⟩
theorem tb_k258 : iv_MOK 258 := ⟨tb_m258, by rw [tb_y258]; exact tb_i13, by rw [tb_y258]; exact tb_n13.1, by rw [tb_y258]; exact tb_n13.2.1, Nat.le_of_ble_eq_true rfl, by rw [tb_y258]; exact tb_n13.2.2⟩
theorem tb_k259 : iv_MOK 259 := ⟨tb_m259, by rw [tb_y259]; exact tb_i13, by rw [tb_y259]; exact tb_n13.1, by rw [tb_y259]; exact tb_n13.2.1, Nat.le_of_ble_eq_true rfl, by rw [tb_y259]; exact tb_n13.2.2⟩
theorem tb_k260 : iv_MOK 260 := ⟨tb_m260, by rw [tb_y260]; exact tb_i13, by rw [tb_y260]; exact tb_n13.1, by rw [tb_y260]; exact tb_n13.2.1, Nat.le_of_ble_eq_true rfl, by rw [tb_y260]; exact tb_n13.2.2⟩
theorem tb_k261 : iv_MOK 261 := ⟨tb_m261, by rw [tb_y261]; exact tb_i13, by rw [tb_y261]; exact tb_n13.1, by rw [tb_y261]; exact tb_n13.2.1, Nat.le_of_ble_eq_true rfl, by rw [tb_y261]; exact tb_n13.2.2⟩
theorem tb_k262 : iv_MOK 262 := ⟨tb_m262, by rw [tb_y262]; exact tb_i13, by rw [tb_y262]; exact tb_n13.1, by rw [tb_y262]; exact tb_n13.2.1, Nat.le_of_ble_eq_true rfl, by rw [tb_y262]; exact tb_n13.2.2⟩
theorem tb_k263 : iv_MOK 263 := ⟨tb_m263, by rw [tb_y263]; exact tb_i13, by rw [tb_y263]; exact tb_n13.1, by rw [tb_y263]; exact tb_n13.2.1, Nat.le_of_ble_eq_true rfl, by rw [tb_y263]; exact tb_n13.2.2⟩
theorem tb_k264 : iv_MOK 264 := ⟨tb_m264, by rw [tb_y264]; exact tb_i13, by rw [tb_y264]; exact tb_n13.1, by rw [tb_y264]; exact tb_n13.2.1, Nat.le_of_ble_eq_true rfl, by rw [tb_y264]; exact tb_n13.2.2⟩
theorem tb_k265 : iv_MOK 265 := ⟨tb_m265, by rw [tb_y265]; exact tb_i13, by rw [tb_y265]; exact tb_n13.1, by rw [tb_y265]; exact tb_n13.2.1, Nat.le_of_ble_eq_true rfl, by rw [tb_y265]; exact tb_n13.2.2⟩
theorem tb_k266 : iv_MOK 266 := ⟨tb_m266, by rw [tb_y266]; exact tb_i13, by rw [tb_y266]; exact tb_n13.1, by rw [tb_y266]; exact tb_n13.2.1, Nat.le_of_ble_eq_true rfl, by rw [tb_y266]; exact tb_n13.2.2⟩
theorem tb_k267 : iv_MOK 267 := ⟨tb_m267, by rw [tb_y267]; exact tb_i13, by rw [tb_y267]; exact tb_n13.1, by rw [tb_y267]; exact tb_n13.2.1, Nat.le_of_ble_eq_true rfl, by rw [tb_y267]; exact tb_n13.2.2⟩
theorem tb_k268 : iv_MOK 268 := ⟨tb_m268, by rw [tb_y268]; exact tb_i13, by rw [tb_y268]; exact tb_n13.1, by rw [tb_y268]; exact tb_n13.2.1, Nat.le_of_ble_eq_true rfl, by rw [tb_y268]; exact tb_n13.2.2⟩
theorem tb_k269 : iv_MOK 269 := ⟨tb_m269, by rw [tb_y269]; exact tb_i6, by rw [tb_y269]; exact tb_n6.1, by rw [tb_y269]; exact tb_n6.2.1, Nat.le_of_ble_eq_true rfl, by rw [tb_y269]; exact tb_n6.2.2⟩
theorem tb_k270 : iv_MOK 270 := ⟨tb_m270, by rw [tb_y270]; exact tb_i6, by rw [tb_y270]; exact tb_n6.1, by rw [tb_y270]; exact tb_n6.2.1, Nat.le_of_ble_eq_true rfl, by rw [tb_y270]; exact tb_n6.2.2⟩
theorem tb_k271 : iv_MOK 271 := ⟨tb_m271, by rw [tb_y271]; exact tb_i6, by rw [tb_y271]; exact tb_n6.1, by rw [tb_y271]; exact tb_n6.2.1, Nat.le_of_ble_eq_true rfl, by rw [tb_y271]; exact tb_n6.2.2⟩
theorem tb_k272 : iv_MOK 272 := ⟨tb_m272, by rw [tb_y272]; exact tb_i6, by rw [tb_y272]; exact tb_n6.1, by rw [tb_y272]; exact tb_n6.2.1, Nat.le_of_ble_eq_true rfl, by rw [tb_y272]; exact tb_n6.2.2⟩
theorem tb_k273 : iv_MOK 273 := ⟨tb_m273, by rw [tb_y273]; exact tb_i6, by rw [tb_y273]; exact tb_n6.1, by rw [tb_y273]; exact tb_n6.2.1, Nat.le_of_ble_eq_true rfl, by rw [tb_y273]; exact tb_n6.2.2⟩
theorem tb_k274 : iv_MOK 274 := ⟨tb_m274, by rw [tb_y274]; exact tb_i6, by rw [tb_y274]; exact tb_n6.1, by rw [tb_y274]; exact tb_n6.2.1, Nat.le_of_ble_eq_true rfl, by rw [tb_y274]; exact tb_n6.2.2⟩
theorem tb_k275 : iv_MOK 275 := ⟨tb_m275, by rw [tb_y275]; exact tb_i6, by rw [tb_y275]; exact tb_n6.1, by rw [tb_y275]; exact tb_n6.2.1, Nat.le_of_ble_eq_true rfl, by rw [tb_y275]; exact tb_n6.2.2⟩
theorem tb_k276 : iv_MOK 276 := ⟨tb_m276, by rw [tb_y276]; exact tb_i6, by rw [tb_y276]; exact tb_n6.1, by rw [tb_y276]; exact tb_n6.2.1, Nat.le_of_ble_eq_true rfl, by rw [tb_y276]; exact tb_n6.2.2⟩
theorem tb_k277 : iv_MOK 277 := ⟨tb_m277, by rw [tb_y277]; exact tb_i6, by rw [tb_y277]; exact tb_n6.1, by rw [tb_y277]; exact tb_n6.2.1, Nat.le_of_ble_eq_true rfl, by rw [tb_y277]; exact tb_n6.2.2⟩
theorem tb_k278 : iv_MOK 278 := ⟨tb_m278, by rw [tb_y278]; exact tb_i6, by rw [tb_y278]; exact tb_n6.1, by rw [tb_y278]; exact tb_n6.2.1, Nat.le_of_ble_eq_true rfl, by rw [tb_y278]; exact tb_n6.2.2⟩
theorem tb_k279 : iv_MOK 279 := ⟨tb_m279, by rw [tb_y279]; exact tb_i6, by rw [tb_y279]; exact tb_n6.1, by rw [tb_y279]; exact tb_n6.2.1, Nat.le_of_ble_eq_true rfl, by rw [tb_y279]; exact tb_n6.2.2⟩
theorem tb_k280 : iv_MOK 280 := ⟨tb_m280, by rw [tb_y280]; exact tb_i6, by rw [tb_y280]; exact tb_n6.1, by rw [tb_y280]; exact tb_n6.2.1, Nat.le_of_ble_eq_true rfl, by rw [tb_y280]; exact tb_n6.2.2⟩
theorem tb_k281 : iv_MOK 281 := ⟨tb_m281, by rw [tb_y281]; exact tb_i6, by rw [tb_y281]; exact tb_n6.1, by rw [tb_y281]; exact tb_n6.2.1, Nat.le_of_ble_eq_true rfl, by rw [tb_y281]; exact tb_n6.2.2⟩
theorem tb_k282 : iv_MOK 282 := ⟨tb_m282, by rw [tb_y282]; exact tb_i12, by rw [tb_y282]; exact tb_n12.1, by rw [tb_y282]; exact tb_n12.2.1, Nat.le_of_ble_eq_true rfl, by rw [tb_y282]; exact tb_n12.2.2⟩
theorem tb_k283 : iv_MOK 283 := ⟨tb_m283, by rw [tb_y283]; exact tb_i12, by rw [tb_y283]; exact tb_n12.1, by rw [tb_y283]; exact tb_n12.2.1, Nat.le_of_ble_eq_true rfl, by rw [tb_y283]; exact tb_n12.2.2⟩
theorem tb_k284 : iv_MOK 284 := ⟨tb_m284, by rw [tb_y284]; exact tb_i12, by rw [tb_y284]; exact tb_n12.1, by rw [tb_y284]; exact tb_n12.2.1, Nat.le_of_ble_eq_true rfl, by rw [tb_y284]; exact tb_n12.2.2⟩
theorem tb_k285 : iv_MOK 285 := ⟨tb_m285, by rw [tb_y285]; exact tb_i12, by rw [tb_y285]; exact tb_n12.1, by rw [tb_y285]; exact tb_n12.2.1, Nat.le_of_ble_eq_true rfl, by rw [tb_y285]; exact tb_n12.2.2⟩
theorem tb_k286 : iv_MOK 286 := ⟨tb_m286, by rw [tb_y286]; exact tb_i12, by rw [tb_y286]; exact tb_n12.1, by rw [tb_y286]; exact tb_n12.2.1, Nat.le_of_ble_eq_true rfl, by rw [tb_y286]; exact tb_n12.2.2⟩
theorem tb_k287 : iv_MOK 287 := ⟨tb_m287, by rw [tb_y287]; exact tb_i12, by rw [tb_y287]; exact tb_n12.1, by rw [tb_y287]; exact tb_n12.2.1, Nat.le_of_ble_eq_true rfl, by rw [tb_y287]; exact tb_n12.2.2⟩
theorem tb_k288 : iv_MOK 288 := ⟨tb_m288, by rw [tb_y288]; exact tb_i12, by rw [tb_y288]; exact tb_n12.1, by rw [tb_y288]; exact tb_n12.2.1, Nat.le_of_ble_eq_true rfl, by rw [tb_y288]; exact tb_n12.2.2⟩
theorem tb_k289 : iv_MOK 289 := ⟨tb_m289, by rw [tb_y289]; exact tb_i12, by rw [tb_y289]; exact tb_n12.1, by rw [tb_y289]; exact tb_n12.2.1, Nat.le_of_ble_eq_true rfl, by rw [tb_y289]; exact tb_n12.2.2⟩
theorem tb_k290 : iv_MOK 290 := ⟨tb_m290, by rw [tb_y290]; exact tb_i12, by rw [tb_y290]; exact tb_n12.1, by rw [tb_y290]; exact tb_n12.2.1, Nat.le_of_ble_eq_true rfl, by rw [tb_y290]; exact tb_n12.2.2⟩
theorem tb_k291 : iv_MOK 291 := ⟨tb_m291, by rw [tb_y291]; exact tb_i12, by rw [tb_y291]; exact tb_n12.1, by rw [tb_y291]; exact tb_n12.2.1, Nat.le_of_ble_eq_true rfl, by rw [tb_y291]; exact tb_n12.2.2⟩
theorem tb_k292 : iv_MOK 292 := ⟨tb_m292, by rw [tb_y292]; exact tb_i12, by rw [tb_y292]; exact tb_n12.1, by rw [tb_y292]; exact tb_n12.2.1, Nat.le_of_ble_eq_true rfl, by rw [tb_y292]; exact tb_n12.2.2⟩
theorem tb_k293 : iv_MOK 293 := ⟨tb_m293, by rw [tb_y293]; exact tb_i12, by rw [tb_y293]; exact tb_n12.1, by rw [tb_y293]; exact tb_n12.2.1, Nat.le_of_ble_eq_true rfl, by rw [tb_y293]; exact tb_n12.2.2⟩
theorem tb_k294 : iv_MOK 294 := ⟨tb_m294, by rw [tb_y294]; exact tb_i12, by rw [tb_y294]; exact tb_n12.1, by rw [tb_y294]; exact tb_n12.2.1, Nat.le_of_ble_eq_true rfl, by rw [tb_y294]; exact tb_n12.2.2⟩
theorem tb_k295 : iv_MOK 295 := ⟨tb_m295, by rw [tb_y295]; exact tb_i12, by rw [tb_y295]; exact tb_n12.1, by rw [tb_y295]; exact tb_n12.2.1, Nat.le_of_ble_eq_true rfl, by rw [tb_y295]; exact tb_n12.2.2⟩
theorem tb_k296 : iv_MOK 296 := ⟨tb_m296, by rw [tb_y296]; exact tb_i12, by rw [tb_y296]; exact tb_n12.1, by rw [tb_y296]; exact tb_n12.2.1, Nat.le_of_ble_eq_true rfl, by rw [tb_y296]; exact tb_n12.2.2⟩
theorem tb_k297 : iv_MOK 297 := ⟨tb_m297, by rw [tb_y297]; exact tb_i12, by rw [tb_y297]; exact tb_n12.1, by rw [tb_y297]; exact tb_n12.2.1, Nat.le_of_ble_eq_true rfl, by rw [tb_y297]; exact tb_n12.2.2⟩
theorem tb_k298 : iv_MOK 298 := ⟨tb_m298, by rw [tb_y298]; exact tb_i12, by rw [tb_y298]; exact tb_n12.1, by rw [tb_y298]; exact tb_n12.2.1, Nat.le_of_ble_eq_true rfl, by rw [tb_y298]; exact tb_n12.2.2⟩
theorem tb_k299 : iv_MOK 299 := ⟨tb_m299, by rw [tb_y299]; exact tb_i12, by rw [tb_y299]; exact tb_n12.1, by rw [tb_y299]; exact tb_n12.2.1, Nat.le_of_ble_eq_true rfl, by rw [tb_y299]; exact tb_n12.2.2⟩
theorem tb_k300 : iv_MOK 300 := ⟨tb_m300, by rw [tb_y300]; exact tb_i12, by rw [tb_y300]; exact tb_n12.1, by rw [tb_y300]; exact tb_n12.2.1, Nat.le_of_ble_eq_true rfl, by rw [tb_y300]; exact tb_n12.2.2⟩
theorem tb_k301 : iv_MOK 301 := ⟨tb_m301, by rw [tb_y301]; exact tb_i12, by rw [tb_y301]; exact tb_n12.1, by rw [tb_y301]; exact tb_n12.2.1, Nat.le_of_ble_eq_true rfl, by rw [tb_y301]; exact tb_n12.2.2⟩
theorem tb_k302 : iv_MOK 302 := ⟨tb_m302, by rw [tb_y302]; exact tb_i12, by rw [tb_y302]; exact tb_n12.1, by rw [tb_y302]; exact tb_n12.2.1, Nat.le_of_ble_eq_true rfl, by rw [tb_y302]; exact tb_n12.2.2⟩
theorem tb_k303 : iv_MOK 303 := ⟨tb_m303, by rw [tb_y303]; exact tb_i12, by rw [tb_y303]; exact tb_n12.1, by rw [tb_y303]; exact tb_n12.2.1, Nat.le_of_ble_eq_true rfl, by rw [tb_y303]; exact tb_n12.2.2⟩
theorem tb_k304 : iv_MOK 304 := ⟨tb_m304, by rw [tb_y304]; exact tb_i12, by rw [tb_y304]; exact tb_n12.1, by rw [tb_y304]; exact tb_n12.2.1, Nat.le_of_ble_eq_true rfl, by rw [tb_y304]; exact tb_n12.2.2⟩
theorem tb_k305 : iv_MOK 305 := ⟨tb_m305, by rw [tb_y305]; exact tb_i12, by rw [tb_y305]; exact tb_n12.1, by rw [tb_y305]; exact tb_n12.2.1, Nat.le_of_ble_eq_true rfl, by rw [tb_y305]; exact tb_n12.2.2⟩
theorem tb_k306 : iv_MOK 306 := ⟨tb_m306, by rw [tb_y306]; exact tb_i12, by rw [tb_y306]; exact tb_n12.1, by rw [tb_y306]; exact tb_n12.2.1, Nat.le_of_ble_eq_true rfl, by rw [tb_y306]; exact tb_n12.2.2⟩
theorem tb_k307 : iv_MOK 307 := ⟨tb_m307, by rw [tb_y307]; exact tb_i12, by rw [tb_y307]; exact tb_n12.1, by rw [tb_y307]; exact tb_n12.2.1, Nat.le_of_ble_eq_true rfl, by rw [tb_y307]; exact tb_n12.2.2⟩
theorem tb_k308 : iv_MOK 308 := ⟨tb_m308, by rw [tb_y308]; exact tb_i12, by rw [tb_y308]; exact tb_n12.1, by rw [tb_y308]; exact tb_n12.2.1, Nat.le_of_ble_eq_true rfl, by rw [tb_y308]; exact tb_n12.2.2⟩
theorem tb_k310 : iv_MOK 310 := ⟨tb_m310, by rw [tb_y310]; exact tb_i14, by rw [tb_y310]; exact tb_n14.1, by rw [tb_y310]; exact tb_n14.2.1, Nat.le_of_ble_eq_true rfl, by rw [tb_y310]; exact tb_n14.2.2⟩
theorem tb_k311 : iv_MOK 311 := ⟨tb_m311, by rw [tb_y311]; exact tb_i15, by rw [tb_y311]; exact tb_n15.1, by rw [tb_y311]; exact tb_n15.2.1, Nat.le_of_ble_eq_true rfl, by rw [tb_y311]; exact tb_n15.2.2⟩
theorem tb_k312 : iv_MOK 312 := ⟨tb_m312, by rw [tb_y312]; exact tb_i15, by rw [tb_y312]; exact tb_n15.1, by rw [tb_y312]; exact tb_n15.2.1, Nat.le_of_ble_eq_true rfl, by rw [tb_y312]; exact tb_n15.2.2⟩
theorem tb_k313 : iv_MOK 313 := ⟨tb_m313, by rw [tb_y313]; exact tb_i15, by rw [tb_y313]; exact tb_n15.1, by rw [tb_y313]; exact tb_n15.2.1, Nat.le_of_ble_eq_true rfl, by rw [tb_y313]; exact tb_n15.2.2⟩
theorem tb_k314 : iv_MOK 314 := ⟨tb_m314, by rw [tb_y314]; exact tb_i15, by rw [tb_y314]; exact tb_n15.1, by rw [tb_y314]; exact tb_n15.2.1, Nat.le_of_ble_eq_true rfl, by rw [tb_y314]; exact tb_n15.2.2⟩
theorem tb_k315 : iv_MOK 315 := ⟨tb_m315, by rw [tb_y315]; exact tb_i15, by rw [tb_y315]; exact tb_n15.1, by rw [tb_y315]; exact tb_n15.2.1, Nat.le_of_ble_eq_true rfl, by rw [tb_y315]; exact tb_n15.2.2⟩
theorem tb_k316 : iv_MOK 316 := ⟨tb_m316, by rw [tb_y316]; exact tb_i16, by rw [tb_y316]; exact tb_n16.1, by rw [tb_y316]; exact tb_n16.2.1, Nat.le_of_ble_eq_true rfl, by rw [tb_y316]; exact tb_n16.2.2⟩
theorem tb_k317 : iv_MOK 317 := ⟨tb_m317, by rw [tb_y317]; exact tb_i17, by rw [tb_y317]; exact tb_n17.1, by rw [tb_y317]; exact tb_n17.2.1, Nat.le_of_ble_eq_true rfl, by rw [tb_y317]; exact tb_n17.2.2⟩
