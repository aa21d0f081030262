/-! ===== cases ===== -/
set_option maxRecDepth 100000 in
theorem lc_39_0 : lw_g (6, 0xffffffff0000000000ffffffff0000000000ffffffff0000000000ffffffff0000000000ffffffff00000000050000000000000027) = true := by decide +kernel
theorem cv_39 (y1 y2 y3 y4 y5 : Nat) (h1 : y1 < 4294967296) (h2 : y2 < 4294967296) (h3 : y3 < 4294967296) (h4 : y4 < 4294967296) (h5 : y5 < 4294967296) : ∃ p, lw_g (6, p) = true ∧ iv_f6 39 y1 y2 y3 y4 y5 p := by
  exact ⟨0xffffffff0000000000ffffffff0000000000ffffffff0000000000ffffffff0000000000ffffffff00000000050000000000000027, lc_39_0, iv_lf (a1 := 0) (b1 := 4294967295) (a2 := 0) (b2 := 4294967295) (a3 := 0) (b3 := 4294967295) (a4 := 0) (b4 := 4294967295) (a5 := 0) (b5 := 4294967295) (by decide +kernel) (by omega)⟩
set_option maxRecDepth 100000 in
theorem lc_40_0 : lw_g (6, 0xffffffff0000000000ffffffff0000000000ffffffff0000000000ffffffff0000000000ffffffff00000000050000000000000028) = true := by decide +kernel
theorem cv_40 (y1 y2 y3 y4 y5 : Nat) (h1 : y1 < 4294967296) (h2 : y2 < 4294967296) (h3 : y3 < 4294967296) (h4 : y4 < 4294967296) (h5 : y5 < 4294967296) : ∃ p, lw_g (6, p) = true ∧ iv_f6 40 y1 y2 y3 y4 y5 p := by
  exact ⟨0xffffffff0000000000ffffffff0000000000ffffffff0000000000ffffffff0000000000ffffffff00000000050000000000000028, lc_40_0, iv_lf (a1 := 0) (b1 := 4294967295) (a2 := 0) (b2 := 4294967295) (a3 := 0) (b3 := 4294967295) (a4 := 0) (b4 := 4294967295) (a5 := 0) (b5 := 4294967295) (by decide +kernel) (by omega)⟩
set_option maxRecDepth 100000 in
theorem lc_41_0 : lw_g (6, 0xffffffff0000000000ffffffff0000000000ffffffff0000000000ffffffff0000000000ffffffff00000000050000000000000029) = true := by decide +kernel
theorem cv_41 (y1 y2 y3 y4 y5 : Nat) (h1 : y1 < 4294967296) (h2 : y2 < 4294967296) (h3 : y3 < 4294967296) (h4 : y4 < 4294967296) (h5 : y5 < 4294967296) : ∃ p, lw_g (6, p) = true ∧ iv_f6 41 y1 y2 y3 y4 y5 p := by
  exact ⟨0xffffffff0000000000ffffffff0000000000ffffffff0000000000ffffffff0000000000ffffffff00000000050000000000000029, lc_41_0, iv_lf (a1 := 0) (b1 := 4294967295) (a2 := 0) (b2 := 4294967295) (a3 := 0) (b3 := 4294967295) (a4 := 0) (b4 := 4294967295) (a5 := 0) (b5 := 4294967295) (by decide +kernel) (by omega)⟩
set_option maxRecDepth 100000 in
theorem lc_42_0 : lw_g (6, 0xffffffff0000000000ffffffff0000000000ffffffff0000000000ffffffff0000000000ffffffff0000000005000000000000002a) = true := by decide +kernel
theorem cv_42 (y1 y2 y3 y4 y5 : Nat) (h1 : y1 < 4294967296) (h2 : y2 < 4294967296) (h3 : y3 < 4294967296) (h4 : y4 < 4294967296) (h5 : y5 < 4294967296) : ∃ p, lw_g (6, p) = true ∧ iv_f6 42 y1 y2 y3 y4 y5 p := by
  exact ⟨0xffffffff0000000000ffffffff0000000000ffffffff0000000000ffffffff0000000000ffffffff0000000005000000000000002a, lc_42_0, iv_lf (a1 := 0) (b1 := 4294967295) (a2 := 0) (b2 := 4294967295) (a3 := 0) (b3 := 4294967295) (a4 := 0) (b4 := 4294967295) (a5 := 0) (b5 := 4294967295) (by decide +kernel) (by omega)⟩
set_option maxRecDepth 100000 in
theorem lc_43_0 : lw_g (6, 0xffffffff0000000000ffffffff0000000000ffffffff0000000000ffffffff0000000000ffffffff0000000005000000000000002b) = true := by decide +kernel
theorem cv_43 (y1 y2 y3 y4 y5 : Nat) (h1 : y1 < 4294967296) (h2 : y2 < 4294967296) (h3 : y3 < 4294967296) (h4 : y4 < 4294967296) (h5 : y5 < 4294967296) : ∃ p, lw_g (6, p) = true ∧ iv_f6 43 y1 y2 y3 y4 y5 p := by
  exact ⟨0xffffffff0000000000ffffffff0000000000ffffffff0000000000ffffffff0000000000ffffffff0000000005000000000000002b, lc_43_0, iv_lf (a1 := 0) (b1 := 4294967295) (a2 := 0) (b2 := 4294967295) (a3 := 0) (b3 := 4294967295) (a4 := 0) (b4 := 4294967295) (a5 := 0) (b5 := 4294967295) (by decide +kernel) (by omega)⟩
set_option maxRecDepth 100000 in
theorem lc_44_0 : lw_g (6, 0xffffffff0000000000ffffffff0000000000ffffffff0000000000ffffffff0000000000ffffffff0000000005000000000000002c) = true := by decide +kernel
theorem cv_44 (y1 y2 y3 y4 y5 : Nat) (h1 : y1 < 4294967296) (h2 : y2 < 4294967296) (h3 : y3 < 4294967296) (h4 : y4 < 4294967296) (h5 : y5 < 4294967296) : ∃ p, lw_g (6, p) = true ∧ iv_f6 44 y1 y2 y3 y4 y5 p := by
  exact ⟨0xffffffff0000000000ffffffff0000000000ffffffff0000000000ffffffff0000000000ffffffff0000000005000000000000002c, lc_44_0, iv_lf (a1 := 0) (b1 := 4294967295) (a2 := 0) (b2 := 4294967295) (a3 := 0) (b3 := 4294967295) (a4 := 0) (b4 := 4294967295) (a5 := 0) (b5 := 4294967295) (by decide +kernel) (by omega)⟩
set_option maxRecDepth 100000 in
theorem lc_45_0 : lw_g (6, 0xffffffff0000000000ffffffff0000000000ffffffff0000000000ffffffff0000000000ffffffff0000000005000000000000002d) = true := by decide +kernel
theorem cv_45 (y1 y2 y3 y4 y5 : Nat) (h1 : y1 < 4294967296) (h2 : y2 < 4294967296) (h3 : y3 < 4294967296) (h4 : y4 < 4294967296) (h5 : y5 < 4294967296) : ∃ p, lw_g (6, p) = true ∧ iv_f6 45 y1 y2 y3 y4 y5 p := by
  exact ⟨0xffffffff0000000000ffffffff0000000000ffffffff0000000000ffffffff0000000000ffffffff0000000005000000000000002d, lc_45_0, iv_lf (a1 := 0) (b1 := 4294967295) (a2 := 0) (b2 := 4294967295) (a3 := 0) (b3 := 4294967295) (a4 := 0) (b4 := 4294967295) (a5 := 0) (b5 := 4294967295) (by decide +kernel) (by omega)⟩
set_option maxRecDepth 100000 in
theorem lc_46_0 : lw_g (6, 0xffffffff0000000000ffffffff0000000000ffffffff0000000000ffffffff0000000000ffffffff0000000005000000000000002e) = true := by decide +kernel
theorem cv_46 (y1 y2 y3 y4 y5 : Nat) (h1 : y1 < 4294967296) (h2 : y2 < 4294967296) (h3 : y3 < 4294967296) (h4 : y4 < 4294967296) (h5 : y5 < 4294967296) : ∃ p, lw_g (6, p) = true ∧ iv_f6 46 y1 y2 y3 y4 y5 p := by
  exact ⟨0xffffffff0000000000ffffffff0000000000ffffffff0000000000ffffffff0000000000ffffffff0000000005000000000000002e, lc_46_0, iv_lf (a1 := 0) (b1 := 4294967295) (a2 := 0) (b2 := 4294967295) (a3 := 0) (b3 := 4294967295) (a4 := 0) (b4 := 4294967295) (a5 := 0) (b5 := 4294967295) (by decide +kernel) (by omega)⟩
set_option maxRecDepth 100000 in
theorem lc_47_0 : lw_g (6, 0xffffffff0000000000ffffffff0000000000ffffffff0000000000ffffffff0000000000ffffffff0000000005000000000000002f) = true := by decide +kernel
theorem cv_47 (y1 y2 y3 y4 y5 : Nat) (h1 : y1 < 4294967296) (h2 : y2 < 4294967296) (h3 : y3 < 4294967296) (h4 : y4 < 4294967296) (h5 : y5 < 4294967296) : ∃ p, lw_g (6, p) = true ∧ iv_f6 47 y1 y2 y3 y4 y5 p := by
  exact ⟨0xffffffff0000000000ffffffff0000000000ffffffff0000000000ffffffff0000000000ffffffff0000000005000000000000002f, lc_47_0, iv_lf (a1 := 0) (b1 := 4294967295) (a2 := 0) (b2 := 4294967295) (a3 := 0) (b3 := 4294967295) (a4 := 0) (b4 := 4294967295) (a5 := 0) (b5 := 4294967295) (by decide +kernel) (by omega)⟩
set_option maxRecDepth 100000 in
theorem lc_48_0 : lw_g (6, 0xffffffff0000000000ffffffff0000000000ffffffff0000000000ffffffff0000000000ffffffff00000000050000000000000030) = true := by decide +kernel
theorem cv_48 (y1 y2 y3 y4 y5 : Nat) (h1 : y1 < 4294967296) (h2 : y2 < 4294967296) (h3 : y3 < 4294967296) (h4 : y4 < 4294967296) (h5 : y5 < 4294967296) : ∃ p, lw_g (6, p) = true ∧ iv_f6 48 y1 y2 y3 y4 y5 p := by
  exact ⟨0xffffffff0000000000ffffffff0000000000ffffffff0000000000ffffffff0000000000ffffffff00000000050000000000000030, lc_48_0, iv_lf (a1 := 0) (b1 := 4294967295) (a2 := 0) (b2 := 4294967295) (a3 := 0) (b3 := 4294967295) (a4 := 0) (b4 := 4294967295) (a5 := 0) (b5 := 4294967295) (by decide +kernel) (by omega)⟩
set_option maxRecDepth 100000 in
theorem lc_49_0 : lw_g (6, 0xffffffff0000000000ffffffff0000000000ffffffff0000000000ffffffff0000000000ffffffff00000000050000000000000031) = true := by decide +kernel
theorem cv_49 (y1 y2 y3 y4 y5 : Nat) (h1 : y1 < 4294967296) (h2 : y2 < 4294967296) (h3 : y3 < 4294967296) (h4 : y4 < 4294967296) (h5 : y5 < 4294967296) : ∃ p, lw_g (6, p) = true ∧ iv_f6 49 y1 y2 y3 y4 y5 p := by
  exact ⟨0xffffffff0000000000ffffffff0000000000ffffffff0000000000ffffffff0000000000ffffffff00000000050000000000000031, lc_49_0, iv_lf (a1 := 0) (b1 := 4294967295) (a2 := 0) (b2 := 4294967295) (a3 := 0) (b3 := 4294967295) (a4 := 0) (b4 := 4294967295) (a5 := 0) (b5 := 4294967295) (by decide +kernel) (by omega)⟩
set_option maxRecDepth 100000 in
theorem lc_50_0 : lw_g (6, 0xffffffff0000000000ffffffff0000000000ffffffff0000000000ffffffff0000000000ffffffff00000000050000000000000032) = true := by decide +kernel
theorem cv_50 (y1 y2 y3 y4 y5 : Nat) (h1 : y1 < 4294967296) (h2 : y2 < 4294967296) (h3 : y3 < 4294967296) (h4 : y4 < 4294967296) (h5 : y5 < 4294967296) : ∃ p, lw_g (6, p) = true ∧ iv_f6 50 y1 y2 y3 y4 y5 p := by
  exact ⟨0xffffffff0000000000ffffffff0000000000ffffffff0000000000ffffffff0000000000ffffffff00000000050000000000000032, lc_50_0, iv_lf (a1 := 0) (b1 := 4294967295) (a2 := 0) (b2 := 4294967295) (a3 := 0) (b3 := 4294967295) (a4 := 0) (b4 := 4294967295) (a5 := 0) (b5 := 4294967295) (by decide +kernel) (by omega)⟩
set_option maxRecDepth 100000 in
theorem lc_51_0 : lw_g (6, 0xffffffff0000000000ffffffff0000000000ffffffff0000000000ffffffff0000000000ffffffff00000000050000000000000033) = true := by decide +kernel
theorem cv_51 (y1 y2 y3 y4 y5 : Nat) (h1 : y1 < 4294967296) (h2 : y2 < 4294967296) (h3 : y3 < 4294967296) (h4 : y4 < 4294967296) (h5 : y5 < 4294967296) : ∃ p, lw_g (6, p) = true ∧ iv_f6 51 y1 y2 y3 y4 y5 p := by
  exact ⟨0xffffffff0000000000ffffffff0000000000ffffffff0000000000ffffffff0000000000ffffffff00000000050000000000000033, lc_51_0, iv_lf (a1 := 0) (b1 := 4294967295) (a2 := 0) (b2 := 4294967295) (a3 := 0) (b3 := 4294967295) (a4 := 0) (b4 := 4294967295) (a5 := 0) (b5 := 4294967295) (by decide +kernel) (by omega)⟩
set_option maxRecDepth 100000 in
theorem lc_52_0 : lw_g (6, 0xffffffff0000000000ffffffff0000000000ffffffff0000000000ffffffff0000000000ffffffff00000000050000000000000034) = true := by decide +kernel
theorem cv_52 (y1 y2 y3 y4 y5 : Nat) (h1 : y1 < 4294967296) (h2 : y2 < 4294967296) (h3 : y3 < 4294967296) (h4 : y4 < 4294967296) (h5 : y5 < 4294967296) : ∃ p, lw_g (6, p) = true ∧ iv_f6 52 y1 y2 y3 y4 y5 p := by
  exact ⟨0xffffffff0000000000ffffffff0000000000ffffffff0000000000ffffffff0000000000ffffffff00000000050000000000000034, lc_52_0, iv_lf (a1 := 0) (b1 := 4294967295) (a2 := 0) (b2 := 4294967295) (a3 := 0) (b3 := 4294967295) (a4 := 0) (b4 := 4294967295) (a5 := 0) (b5 := 4294967295) (by decide +kernel) (by omega)⟩
set_option maxRecDepth 100000 in
theorem lc_53_0 : lw_g (6, 0xffffffff0000000000ffffffff0000000000ffffffff0000000000ffffffff0000000000ffffffff00000000050000000000000035) = true := by decide +kernel
theorem cv_53 (y1 y2 y3 y4 y5 : Nat) (h1 : y1 < 4294967296) (h2 : y2 < 4294967296) (h3 : y3 < 4294967296) (h4 : y4 < 4294967296) (h5 : y5 < 4294967296) : ∃ p, lw_g (6, p) = true ∧ iv_f6 53 y1 y2 y3 y4 y5 p := by
  exact ⟨0xffffffff0000000000ffffffff0000000000ffffffff0000000000ffffffff0000000000ffffffff00000000050000000000000035, lc_53_0, iv_lf (a1 := 0) (b1 := 4294967295) (a2 := 0) (b2 := 4294967295) (a3 := 0) (b3 := 4294967295) (a4 := 0) (b4 := 4294967295) (a5 := 0) (b5 := 4294967295) (by decide +kernel) (by omega)⟩
set_option maxRecDepth 100000 in
theorem lc_54_0 : lw_g (6, 0xffffffff0000000000ffffffff0000000000ffffffff0000000000ffffffff0000000000ffffffff00000000050000000000000036) = true := by decide +kernel
theorem cv_54 (y1 y2 y3 y4 y5 : Nat) (h1 : y1 < 4294967296) (h2 : y2 < 4294967296) (h3 : y3 < 4294967296) (h4 : y4 < 4294967296) (h5 : y5 < 4294967296) : ∃ p, lw_g (6, p) = true ∧ iv_f6 54 y1 y2 y3 y4 y5 p := by
  exact ⟨0xffffffff0000000000ffffffff0000000000ffffffff0000000000ffffffff0000000000ffffffff00000000050000000000000036, lc_54_0, iv_lf (a1 := 0) (b1 := 4294967295) (a2 := 0) (b2 := 4294967295) (a3 := 0) (b3 := 4294967295) (a4 := 0) (b4 := 4294967295) (a5 := 0) (b5 := 4294967295) (by decide +kernel) (by omega)⟩
set_option maxRecDepth 100000 in
theorem lc_55_0 : lw_g (6, 0xffffffff0000000000ffffffff0000000000ffffffff0000000000ffffffff0000000000ffffffff00000000050000000000000037) = true := by decide +kernel
theorem cv_55 (y1 y2 y3 y4 y5 : Nat) (h1 : y1 < 4294967296) (h2 : y2 < 4294967296) (h3 : y3 < 4294967296) (h4 : y4 < 4294967296) (h5 : y5 < 4294967296) : ∃ p, lw_g (6, p) = true ∧ iv_f6 55 y1 y2 y3 y4 y5 p := by
  exact ⟨0xffffffff0000000000ffffffff0000000000ffffffff0000000000ffffffff0000000000ffffffff00000000050000000000000037, lc_55_0, iv_lf (a1 := 0) (b1 := 4294967295) (a2 := 0) (b2 := 4294967295) (a3 := 0) (b3 := 4294967295) (a4 := 0) (b4 := 4294967295) (a5 := 0) (b5 := 4294967295) (by decide +kernel) (by omega)⟩
set_option maxRecDepth 100000 in
theorem lc_56_0 : lw_g (6, 0xffffffff0000000000ffffffff0000000000ffffffff0000000000ffffffff0000000000ffffffff00000000050000000000000038) = true := by decide +kernel
theorem cv_56 (y1 y2 y3 y4 y5 : Nat) (h1 : y1 < 4294967296) (h2 : y2 < 4294967296) (h3 : y3 < 4294967296) (h4 : y4 < 4294967296) (h5 : y5 < 4294967296) : ∃ p, lw_g (6, p) = true ∧ iv_f6 56 y1 y2 y3 y4 y5 p := by
  exact ⟨0xffffffff0000000000ffffffff0000000000ffffffff0000000000ffffffff0000000000ffffffff00000000050000000000000038, lc_56_0, iv_lf (a1 := 0) (b1 := 4294967295) (a2 := 0) (b2 := 4294967295) (a3 := 0) (b3 := 4294967295) (a4 := 0) (b4 := 4294967295) (a5 := 0) (b5 := 4294967295) (by decide +kernel) (by omega)⟩
set_option maxRecDepth 100000 in
theorem lc_57_0 : lw_g (6, 0xffffffff0000000000ffffffff0000000000ffffffff0000000000ffffffff0000000000ffffffff00000000050000000000000039) = true := by decide +kernel
theorem cv_57 (y1 y2 y3 y4 y5 : Nat) (h1 : y1 < 4294967296) (h2 : y2 < 4294967296) (h3 : y3 < 4294967296) (h4 : y4 < 4294967296) (h5 : y5 < 4294967296) : ∃ p, lw_g (6, p) = true ∧ iv_f6 57 y1 y2 y3 y4 y5 p := by
  exact ⟨0xffffffff0000000000ffffffff0000000000ffffffff0000000000ffffffff0000000000ffffffff00000000050000000000000039, lc_57_0, iv_lf (a1 := 0) (b1 := 4294967295) (a2 := 0) (b2 := 4294967295) (a3 := 0) (b3 := 4294967295) (a4 := 0) (b4 := 4294967295) (a5 := 0) (b5 := 4294967295) (by decide +kernel) (by omega)⟩
set_option maxRecDepth 100000 in
theorem lc_58_0 : lw_g (6, 0xffffffff0000000000ffffffff0000000000ffffffff0000000000ffffffff0000000000ffffffff0000000005000000000000003a) = true := by decide +kernel
theorem cv_58 (y1 y2 y3 y4 y5 : Nat) (h1 : y1 < 4294967296) (h2 : y2 < 4294967296) (h3 : y3 < 4294967296) (h4 : y4 < 4294967296) (h5 : y5 < 4294967296) : ∃ p, lw_g (6, p) = true ∧ iv_f6 58 y1 y2 y3 y4 y5 p := by
  exact ⟨0xffffffff0000000000ffffffff0000000000ffffffff0000000000ffffffff0000000000ffffffff0000000005000000000000003a, lc_58_0, iv_lf (a1 := 0) (b1 := 4294967295) (a2 := 0) (b2 := 4294967295) (a3 := 0) (b3 := 4294967295) (a4 := 0) (b4 := 4294967295) (a5 := 0) (b5 := 4294967295) (by decide +kernel) (by omega)⟩
set_option maxRecDepth 100000 in
theorem lc_59_0 : lw_g (6, 0xffffffff0000000000ffffffff0000000000ffffffff0000000000ffffffff0000000000ffffffff0000000005000000000000003b) = true := by decide +kernel
theorem cv_59 (y1 y2 y3 y4 y5 : Nat) (h1 : y1 < 4294967296) (h2 : y2 < 4294967296) (h3 : y3 < 4294967296) (h4 : y4 < 4294967296) (h5 : y5 < 4294967296) : ∃ p, lw_g (6, p) = true ∧ iv_f6 59 y1 y2 y3 y4 y5 p := by
  exact ⟨0xffffffff0000000000ffffffff0000000000ffffffff0000000000ffffffff0000000000ffffffff0000000005000000000000003b, lc_59_0, iv_lf (a1 := 0) (b1 := 4294967295) (a2 := 0) (b2 := 4294967295) (a3 := 0) (b3 := 4294967295) (a4 := 0) (b4 := 4294967295) (a5 := 0) (b5 := 4294967295) (by decide +kernel) (by omega)⟩
set_option maxRecDepth 100000 in
theorem lc_60_0 : lw_g (6, 0xffffffff0000000000ffffffff0000000000ffffffff0000000000ffffffff0000000000ffffffff0000000005000000000000003c) = true := by decide +kernel
theorem cv_60 (y1 y2 y3 y4 y5 : Nat) (h1 : y1 < 4294967296) (h2 : y2 < 4294967296) (h3 : y3 < 4294967296) (h4 : y4 < 4294967296) (h5 : y5 < 4294967296) : ∃ p, lw_g (6, p) = true ∧ iv_f6 60 y1 y2 y3 y4 y5 p := by
  exact ⟨0xffffffff0000000000ffffffff0000000000ffffffff0000000000ffffffff0000000000ffffffff0000000005000000000000003c, lc_60_0, iv_lf (a1 := 0) (b1 := 4294967295) (a2 := 0) (b2 := 4294967295) (a3 := 0) (b3 := 4294967295) (a4 := 0) (b4 := 4294967295) (a5 := 0) (b5 := 4294967295) (by decide +kernel) (by omega)⟩
set_option maxRecDepth 100000 in
theorem lc_61_0 : lw_g (6, 0xffffffff0000000000ffffffff0000000000ffffffff0000000000ffffffff0000000000ffffffff0000000005000000000000003d) = true := by decide +kernel
theorem cv_61 (y1 y2 y3 y4 y5 : Nat) (h1 : y1 < 4294967296) (h2 : y2 < 4294967296) (h3 : y3 < 4294967296) (h4 : y4 < 4294967296) (h5 : y5 < 4294967296) : ∃ p, lw_g (6, p) = true ∧ iv_f6 61 y1 y2 y3 y4 y5 p := by
  exact ⟨0xffffffff0000000000ffffffff0000000000ffffffff0000000000ffffffff0000000000ffffffff0000000005000000000000003d, lc_61_0, iv_lf (a1 := 0) (b1 := 4294967295) (a2 := 0) (b2 := 4294967295) (a3 := 0) (b3 := 4294967295) (a4 := 0) (b4 := 4294967295) (a5 := 0) (b5 := 4294967295) (by decide +kernel) (by omega)⟩
set_option maxRecDepth 100000 in
theorem lc_62_0 : lw_g (6, 0xffffffff0000000000ffffffff0000000000ffffffff0000000000ffffffff0000000000ffffffff0000000005000000000000003e) = true := by decide +kernel
theorem cv_62 (y1 y2 y3 y4 y5 : Nat) (h1 : y1 < 4294967296) (h2 : y2 < 4294967296) (h3 : y3 < 4294967296) (h4 : y4 < 4294967296) (h5 : y5 < 4294967296) : ∃ p, lw_g (6, p) = true ∧ iv_f6 62 y1 y2 y3 y4 y5 p := by
  exact ⟨0xffffffff0000000000ffffffff0000000000ffffffff0000000000ffffffff0000000000ffffffff0000000005000000000000003e, lc_62_0, iv_lf (a1 := 0) (b1 := 4294967295) (a2 := 0) (b2 := 4294967295) (a3 := 0) (b3 := 4294967295) (a4 := 0) (b4 := 4294967295) (a5 := 0) (b5 := 4294967295) (by decide +kernel) (by omega)⟩
set_option maxRecDepth 100000 in
theorem lc_63_0 : lw_g (6, 0xffffffff0000000000ffffffff0000000000ffffffff0000000000ffffffff0000000000ffffffff0000000005000000000000003f) = true := by decide +kernel
theorem cv_63 (y1 y2 y3 y4 y5 : Nat) (h1 : y1 < 4294967296) (h2 : y2 < 4294967296) (h3 : y3 < 4294967296) (h4 : y4 < 4294967296) (h5 : y5 < 4294967296) : ∃ p, lw_g (6, p) = true ∧ iv_f6 63 y1 y2 y3 y4 y5 p := by
  exact ⟨0xffffffff0000000000ffffffff0000000000ffffffff0000000000ffffffff0000000000ffffffff0000000005000000000000003f, lc_63_0, iv_lf (a1 := 0) (b1 := 4294967295) (a2 := 0) (b2 := 4294967295) (a3 := 0) (b3 := 4294967295) (a4 := 0) (b4 := 4294967295) (a5 := 0) (b5 := 4294967295) (by decide +kernel) (by omega)⟩
