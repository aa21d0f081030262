/-! ===== cases ===== -/
set_option maxRecDepth 100000 in
theorem lc_13_0 : lw_g (6, 0xffffffff0000000000ffffffff0000000000ffffffff00000000007fffffff00000000007fffffff0000000005000000000000000d) = true := by decide +kernel
set_option maxRecDepth 100000 in
theorem lc_13_1 : lw_g (6, 0xffffffff0000000000ffffffff0000000000ffffffff00000000007fffffff0000000000800000038000000005000000000000000d) = true := by decide +kernel
set_option maxRecDepth 100000 in
theorem lc_13_2 : lw_g (6, 0xffffffff0000000000ffffffff0000000000ffffffff00000000007fffffff0000000000ffffffff8000000405000000000000000d) = true := by decide +kernel
set_option maxRecDepth 100000 in
theorem lc_13_3 : lw_g (6, 0xffffffff0000000000ffffffff0000000000ffffffff00000000008000000080000000007fffffff0000000005000000000000000d) = true := by decide +kernel
set_option maxRecDepth 100000 in
theorem lc_13_4 : lw_g (6, 0xffffffff0000000000ffffffff0000000000ffffffff0000000000800000008000000000800000038000000005000000000000000d) = true := by decide +kernel
set_option maxRecDepth 100000 in
theorem lc_13_5 : lw_g (6, 0xffffffff0000000000ffffffff0000000000ffffffff0000000000800000008000000000ffffffff8000000405000000000000000d) = true := by decide +kernel
set_option maxRecDepth 100000 in
theorem lc_13_6 : lw_g (6, 0xffffffff0000000000ffffffff0000000000ffffffff0000000000ffffffff80000001007fffffff0000000005000000000000000d) = true := by decide +kernel
set_option maxRecDepth 100000 in
theorem lc_13_7 : lw_g (6, 0xffffffff0000000000ffffffff0000000000ffffffff0000000000ffffffff8000000100800000038000000005000000000000000d) = true := by decide +kernel
set_option maxRecDepth 100000 in
theorem lc_13_8 : lw_g (6, 0xffffffff0000000000ffffffff0000000000ffffffff0000000000ffffffff8000000100ffffffff8000000405000000000000000d) = true := by decide +kernel
theorem cv_13 (y1 y2 y3 y4 y5 : Nat) (h1 : y1 < 4294967296) (h2 : y2 < 4294967296) (h3 : y3 < 4294967296) (h4 : y4 < 4294967296) (h5 : y5 < 4294967296) : ∃ p, lw_g (6, p) = true ∧ iv_f6 13 y1 y2 y3 y4 y5 p := by
  rcases Nat.lt_or_ge y2 2147483648 with g | g
  · rcases Nat.lt_or_ge y1 2147483648 with g | g
    · exact ⟨0xffffffff0000000000ffffffff0000000000ffffffff00000000007fffffff00000000007fffffff0000000005000000000000000d, lc_13_0, iv_lf (a1 := 0) (b1 := 2147483647) (a2 := 0) (b2 := 2147483647) (a3 := 0) (b3 := 4294967295) (a4 := 0) (b4 := 4294967295) (a5 := 0) (b5 := 4294967295) (by decide +kernel) (by omega)⟩
    · rcases Nat.lt_or_ge y1 2147483652 with g | g
      · exact ⟨0xffffffff0000000000ffffffff0000000000ffffffff00000000007fffffff0000000000800000038000000005000000000000000d, lc_13_1, iv_lf (a1 := 2147483648) (b1 := 2147483651) (a2 := 0) (b2 := 2147483647) (a3 := 0) (b3 := 4294967295) (a4 := 0) (b4 := 4294967295) (a5 := 0) (b5 := 4294967295) (by decide +kernel) (by omega)⟩
      · exact ⟨0xffffffff0000000000ffffffff0000000000ffffffff00000000007fffffff0000000000ffffffff8000000405000000000000000d, lc_13_2, iv_lf (a1 := 2147483652) (b1 := 4294967295) (a2 := 0) (b2 := 2147483647) (a3 := 0) (b3 := 4294967295) (a4 := 0) (b4 := 4294967295) (a5 := 0) (b5 := 4294967295) (by decide +kernel) (by omega)⟩
  · rcases Nat.lt_or_ge y2 2147483649 with g | g
    · rcases Nat.lt_or_ge y1 2147483648 with g | g
      · exact ⟨0xffffffff0000000000ffffffff0000000000ffffffff00000000008000000080000000007fffffff0000000005000000000000000d, lc_13_3, iv_lf (a1 := 0) (b1 := 2147483647) (a2 := 2147483648) (b2 := 2147483648) (a3 := 0) (b3 := 4294967295) (a4 := 0) (b4 := 4294967295) (a5 := 0) (b5 := 4294967295) (by decide +kernel) (by omega)⟩
      · rcases Nat.lt_or_ge y1 2147483652 with g | g
        · exact ⟨0xffffffff0000000000ffffffff0000000000ffffffff0000000000800000008000000000800000038000000005000000000000000d, lc_13_4, iv_lf (a1 := 2147483648) (b1 := 2147483651) (a2 := 2147483648) (b2 := 2147483648) (a3 := 0) (b3 := 4294967295) (a4 := 0) (b4 := 4294967295) (a5 := 0) (b5 := 4294967295) (by decide +kernel) (by omega)⟩
        · exact ⟨0xffffffff0000000000ffffffff0000000000ffffffff0000000000800000008000000000ffffffff8000000405000000000000000d, lc_13_5, iv_lf (a1 := 2147483652) (b1 := 4294967295) (a2 := 2147483648) (b2 := 2147483648) (a3 := 0) (b3 := 4294967295) (a4 := 0) (b4 := 4294967295) (a5 := 0) (b5 := 4294967295) (by decide +kernel) (by omega)⟩
    · rcases Nat.lt_or_ge y1 2147483648 with g | g
      · exact ⟨0xffffffff0000000000ffffffff0000000000ffffffff0000000000ffffffff80000001007fffffff0000000005000000000000000d, lc_13_6, iv_lf (a1 := 0) (b1 := 2147483647) (a2 := 2147483649) (b2 := 4294967295) (a3 := 0) (b3 := 4294967295) (a4 := 0) (b4 := 4294967295) (a5 := 0) (b5 := 4294967295) (by decide +kernel) (by omega)⟩
      · rcases Nat.lt_or_ge y1 2147483652 with g | g
        · exact ⟨0xffffffff0000000000ffffffff0000000000ffffffff0000000000ffffffff8000000100800000038000000005000000000000000d, lc_13_7, iv_lf (a1 := 2147483648) (b1 := 2147483651) (a2 := 2147483649) (b2 := 4294967295) (a3 := 0) (b3 := 4294967295) (a4 := 0) (b4 := 4294967295) (a5 := 0) (b5 := 4294967295) (by decide +kernel) (by omega)⟩
        · exact ⟨0xffffffff0000000000ffffffff0000000000ffffffff0000000000ffffffff8000000100ffffffff8000000405000000000000000d, lc_13_8, iv_lf (a1 := 2147483652) (b1 := 4294967295) (a2 := 2147483649) (b2 := 4294967295) (a3 := 0) (b3 := 4294967295) (a4 := 0) (b4 := 4294967295) (a5 := 0) (b5 := 4294967295) (by decide +kernel) (by omega)⟩
set_option maxRecDepth 100000 in
theorem lc_14_0 : lw_g (6, 0xffffffff0000000000ffffffff0000000000ffffffff0000000000ffffffff00000000007fffffff0000000005000000000000000e) = true := by decide +kernel
set_option maxRecDepth 100000 in
theorem lc_14_1 : lw_g (6, 0xffffffff0000000000ffffffff0000000000ffffffff0000000000ffffffff0000000000ffffffff8000000005000000000000000e) = true := by decide +kernel
theorem cv_14 (y1 y2 y3 y4 y5 : Nat) (h1 : y1 < 4294967296) (h2 : y2 < 4294967296) (h3 : y3 < 4294967296) (h4 : y4 < 4294967296) (h5 : y5 < 4294967296) : ∃ p, lw_g (6, p) = true ∧ iv_f6 14 y1 y2 y3 y4 y5 p := by
  rcases Nat.lt_or_ge y1 2147483648 with g | g
  · exact ⟨0xffffffff0000000000ffffffff0000000000ffffffff0000000000ffffffff00000000007fffffff0000000005000000000000000e, lc_14_0, iv_lf (a1 := 0) (b1 := 2147483647) (a2 := 0) (b2 := 4294967295) (a3 := 0) (b3 := 4294967295) (a4 := 0) (b4 := 4294967295) (a5 := 0) (b5 := 4294967295) (by decide +kernel) (by omega)⟩
  · exact ⟨0xffffffff0000000000ffffffff0000000000ffffffff0000000000ffffffff0000000000ffffffff8000000005000000000000000e, lc_14_1, iv_lf (a1 := 2147483648) (b1 := 4294967295) (a2 := 0) (b2 := 4294967295) (a3 := 0) (b3 := 4294967295) (a4 := 0) (b4 := 4294967295) (a5 := 0) (b5 := 4294967295) (by decide +kernel) (by omega)⟩
set_option maxRecDepth 100000 in
theorem lc_15_0 : lw_g (6, 0xffffffff0000000000ffffffff0000000000ffffffff0000000000ffffffff00000000007fffffff0000000005000000000000000f) = true := by decide +kernel
set_option maxRecDepth 100000 in
theorem lc_15_1 : lw_g (6, 0xffffffff0000000000ffffffff0000000000ffffffff0000000000ffffffff0000000000ffffffff8000000005000000000000000f) = true := by decide +kernel
theorem cv_15 (y1 y2 y3 y4 y5 : Nat) (h1 : y1 < 4294967296) (h2 : y2 < 4294967296) (h3 : y3 < 4294967296) (h4 : y4 < 4294967296) (h5 : y5 < 4294967296) : ∃ p, lw_g (6, p) = true ∧ iv_f6 15 y1 y2 y3 y4 y5 p := by
  rcases Nat.lt_or_ge y1 2147483648 with g | g
  · exact ⟨0xffffffff0000000000ffffffff0000000000ffffffff0000000000ffffffff00000000007fffffff0000000005000000000000000f, lc_15_0, iv_lf (a1 := 0) (b1 := 2147483647) (a2 := 0) (b2 := 4294967295) (a3 := 0) (b3 := 4294967295) (a4 := 0) (b4 := 4294967295) (a5 := 0) (b5 := 4294967295) (by decide +kernel) (by omega)⟩
  · exact ⟨0xffffffff0000000000ffffffff0000000000ffffffff0000000000ffffffff0000000000ffffffff8000000005000000000000000f, lc_15_1, iv_lf (a1 := 2147483648) (b1 := 4294967295) (a2 := 0) (b2 := 4294967295) (a3 := 0) (b3 := 4294967295) (a4 := 0) (b4 := 4294967295) (a5 := 0) (b5 := 4294967295) (by decide +kernel) (by omega)⟩
set_option maxRecDepth 100000 in
theorem lc_16_0 : lw_g (6, 0xffffffff0000000000ffffffff0000000000ffffffff0000000000ffffffff00000000007fffffff00000000050000000000000010) = true := by decide +kernel
set_option maxRecDepth 100000 in
theorem lc_16_1 : lw_g (6, 0xffffffff0000000000ffffffff0000000000ffffffff0000000000ffffffff00000000008000000380000000050000000000000010) = true := by decide +kernel
set_option maxRecDepth 100000 in
theorem lc_16_2 : lw_g (6, 0xffffffff0000000000ffffffff0000000000ffffffff0000000000ffffffff0000000000ffffffff80000004050000000000000010) = true := by decide +kernel
theorem cv_16 (y1 y2 y3 y4 y5 : Nat) (h1 : y1 < 4294967296) (h2 : y2 < 4294967296) (h3 : y3 < 4294967296) (h4 : y4 < 4294967296) (h5 : y5 < 4294967296) : ∃ p, lw_g (6, p) = true ∧ iv_f6 16 y1 y2 y3 y4 y5 p := by
  rcases Nat.lt_or_ge y1 2147483648 with g | g
  · exact ⟨0xffffffff0000000000ffffffff0000000000ffffffff0000000000ffffffff00000000007fffffff00000000050000000000000010, lc_16_0, iv_lf (a1 := 0) (b1 := 2147483647) (a2 := 0) (b2 := 4294967295) (a3 := 0) (b3 := 4294967295) (a4 := 0) (b4 := 4294967295) (a5 := 0) (b5 := 4294967295) (by decide +kernel) (by omega)⟩
  · rcases Nat.lt_or_ge y1 2147483652 with g | g
    · exact ⟨0xffffffff0000000000ffffffff0000000000ffffffff0000000000ffffffff00000000008000000380000000050000000000000010, lc_16_1, iv_lf (a1 := 2147483648) (b1 := 2147483651) (a2 := 0) (b2 := 4294967295) (a3 := 0) (b3 := 4294967295) (a4 := 0) (b4 := 4294967295) (a5 := 0) (b5 := 4294967295) (by decide +kernel) (by omega)⟩
    · exact ⟨0xffffffff0000000000ffffffff0000000000ffffffff0000000000ffffffff0000000000ffffffff80000004050000000000000010, lc_16_2, iv_lf (a1 := 2147483652) (b1 := 4294967295) (a2 := 0) (b2 := 4294967295) (a3 := 0) (b3 := 4294967295) (a4 := 0) (b4 := 4294967295) (a5 := 0) (b5 := 4294967295) (by decide +kernel) (by omega)⟩
set_option maxRecDepth 100000 in
theorem lc_17_0 : lw_g (6, 0xffffffff0000000000ffffffff0000000000ffffffff0000000000ffffffff0000000000ffffffff00000000050000000000000011) = true := by decide +kernel
theorem cv_17 (y1 y2 y3 y4 y5 : Nat) (h1 : y1 < 4294967296) (h2 : y2 < 4294967296) (h3 : y3 < 4294967296) (h4 : y4 < 4294967296) (h5 : y5 < 4294967296) : ∃ p, lw_g (6, p) = true ∧ iv_f6 17 y1 y2 y3 y4 y5 p := by
  exact ⟨0xffffffff0000000000ffffffff0000000000ffffffff0000000000ffffffff0000000000ffffffff00000000050000000000000011, lc_17_0, iv_lf (a1 := 0) (b1 := 4294967295) (a2 := 0) (b2 := 4294967295) (a3 := 0) (b3 := 4294967295) (a4 := 0) (b4 := 4294967295) (a5 := 0) (b5 := 4294967295) (by decide +kernel) (by omega)⟩
set_option maxRecDepth 100000 in
theorem lc_18_0 : lw_g (6, 0xffffffff0000000000ffffffff0000000000ffffffff0000000000ffffffff00000000007fffffff00000000050000000000000012) = true := by decide +kernel
set_option maxRecDepth 100000 in
theorem lc_18_1 : lw_g (6, 0xffffffff0000000000ffffffff0000000000ffffffff00000000007fffffff00000000008000000380000000050000000000000012) = true := by decide +kernel
set_option maxRecDepth 100000 in
theorem lc_18_2 : lw_g (6, 0xffffffff0000000000ffffffff0000000000ffffffff00000000008000270f80000000008000000080000000050000000000000012) = true := by decide +kernel
set_option maxRecDepth 100000 in
theorem lc_18_3 : lw_g (6, 0xffffffff0000000000ffffffff0000000000ffffffff00000000008000270f80000000008000000180000001050000000000000012) = true := by decide +kernel
set_option maxRecDepth 100000 in
theorem lc_18_4 : lw_g (6, 0xffffffff0000000000ffffffff0000000000ffffffff00000000008000270f80000000008000000280000002050000000000000012) = true := by decide +kernel
set_option maxRecDepth 100000 in
theorem lc_18_5 : lw_g (6, 0xffffffff0000000000ffffffff0000000000ffffffff00000000008000270f80000000008000000380000003050000000000000012) = true := by decide +kernel
set_option maxRecDepth 100000 in
theorem lc_18_6 : lw_g (6, 0xffffffff0000000000ffffffff0000000000ffffffff0000000000ffffffff80002710008000000380000000050000000000000012) = true := by decide +kernel
set_option maxRecDepth 100000 in
theorem lc_18_7 : lw_g (6, 0xffffffff0000000000ffffffff0000000000ffffffff0000000000ffffffff0000000000ffffffff80000004050000000000000012) = true := by decide +kernel
theorem cv_18 (y1 y2 y3 y4 y5 : Nat) (h1 : y1 < 4294967296) (h2 : y2 < 4294967296) (h3 : y3 < 4294967296) (h4 : y4 < 4294967296) (h5 : y5 < 4294967296) : ∃ p, lw_g (6, p) = true ∧ iv_f6 18 y1 y2 y3 y4 y5 p := by
  rcases Nat.lt_or_ge y1 2147483648 with g | g
  · exact ⟨0xffffffff0000000000ffffffff0000000000ffffffff0000000000ffffffff00000000007fffffff00000000050000000000000012, lc_18_0, iv_lf (a1 := 0) (b1 := 2147483647) (a2 := 0) (b2 := 4294967295) (a3 := 0) (b3 := 4294967295) (a4 := 0) (b4 := 4294967295) (a5 := 0) (b5 := 4294967295) (by decide +kernel) (by omega)⟩
  · rcases Nat.lt_or_ge y1 2147483652 with g | g
    · rcases Nat.lt_or_ge y2 2147483648 with g | g
      · exact ⟨0xffffffff0000000000ffffffff0000000000ffffffff00000000007fffffff00000000008000000380000000050000000000000012, lc_18_1, iv_lf (a1 := 2147483648) (b1 := 2147483651) (a2 := 0) (b2 := 2147483647) (a3 := 0) (b3 := 4294967295) (a4 := 0) (b4 := 4294967295) (a5 := 0) (b5 := 4294967295) (by decide +kernel) (by omega)⟩
      · rcases Nat.lt_or_ge y2 2147493648 with g | g
        · rcases Nat.lt_or_ge y1 2147483649 with g | g
          · exact ⟨0xffffffff0000000000ffffffff0000000000ffffffff00000000008000270f80000000008000000080000000050000000000000012, lc_18_2, iv_lf (a1 := 2147483648) (b1 := 2147483648) (a2 := 2147483648) (b2 := 2147493647) (a3 := 0) (b3 := 4294967295) (a4 := 0) (b4 := 4294967295) (a5 := 0) (b5 := 4294967295) (by decide +kernel) (by omega)⟩
          · rcases Nat.lt_or_ge y1 2147483650 with g | g
            · exact ⟨0xffffffff0000000000ffffffff0000000000ffffffff00000000008000270f80000000008000000180000001050000000000000012, lc_18_3, iv_lf (a1 := 2147483649) (b1 := 2147483649) (a2 := 2147483648) (b2 := 2147493647) (a3 := 0) (b3 := 4294967295) (a4 := 0) (b4 := 4294967295) (a5 := 0) (b5 := 4294967295) (by decide +kernel) (by omega)⟩
            · rcases Nat.lt_or_ge y1 2147483651 with g | g
              · exact ⟨0xffffffff0000000000ffffffff0000000000ffffffff00000000008000270f80000000008000000280000002050000000000000012, lc_18_4, iv_lf (a1 := 2147483650) (b1 := 2147483650) (a2 := 2147483648) (b2 := 2147493647) (a3 := 0) (b3 := 4294967295) (a4 := 0) (b4 := 4294967295) (a5 := 0) (b5 := 4294967295) (by decide +kernel) (by omega)⟩
              · exact ⟨0xffffffff0000000000ffffffff0000000000ffffffff00000000008000270f80000000008000000380000003050000000000000012, lc_18_5, iv_lf (a1 := 2147483651) (b1 := 2147483651) (a2 := 2147483648) (b2 := 2147493647) (a3 := 0) (b3 := 4294967295) (a4 := 0) (b4 := 4294967295) (a5 := 0) (b5 := 4294967295) (by decide +kernel) (by omega)⟩
        · exact ⟨0xffffffff0000000000ffffffff0000000000ffffffff0000000000ffffffff80002710008000000380000000050000000000000012, lc_18_6, iv_lf (a1 := 2147483648) (b1 := 2147483651) (a2 := 2147493648) (b2 := 4294967295) (a3 := 0) (b3 := 4294967295) (a4 := 0) (b4 := 4294967295) (a5 := 0) (b5 := 4294967295) (by decide +kernel) (by omega)⟩
    · exact ⟨0xffffffff0000000000ffffffff0000000000ffffffff0000000000ffffffff0000000000ffffffff80000004050000000000000012, lc_18_7, iv_lf (a1 := 2147483652) (b1 := 4294967295) (a2 := 0) (b2 := 4294967295) (a3 := 0) (b3 := 4294967295) (a4 := 0) (b4 := 4294967295) (a5 := 0) (b5 := 4294967295) (by decide +kernel) (by omega)⟩
set_option maxRecDepth 100000 in
theorem lc_19_0 : lw_g (6, 0xffffffff0000000000ffffffff0000000000ffffffff0000000000ffffffff00000000007fffffff00000000050000000000000013) = true := by decide +kernel
set_option maxRecDepth 100000 in
theorem lc_19_1 : lw_g (6, 0xffffffff0000000000ffffffff0000000000ffffffff0000000000ffffffff00000000008000000380000000050000000000000013) = true := by decide +kernel
set_option maxRecDepth 100000 in
theorem lc_19_2 : lw_g (6, 0xffffffff0000000000ffffffff0000000000ffffffff0000000000ffffffff0000000000ffffffff80000004050000000000000013) = true := by decide +kernel
theorem cv_19 (y1 y2 y3 y4 y5 : Nat) (h1 : y1 < 4294967296) (h2 : y2 < 4294967296) (h3 : y3 < 4294967296) (h4 : y4 < 4294967296) (h5 : y5 < 4294967296) : ∃ p, lw_g (6, p) = true ∧ iv_f6 19 y1 y2 y3 y4 y5 p := by
  rcases Nat.lt_or_ge y1 2147483648 with g | g
  · exact ⟨0xffffffff0000000000ffffffff0000000000ffffffff0000000000ffffffff00000000007fffffff00000000050000000000000013, lc_19_0, iv_lf (a1 := 0) (b1 := 2147483647) (a2 := 0) (b2 := 4294967295) (a3 := 0) (b3 := 4294967295) (a4 := 0) (b4 := 4294967295) (a5 := 0) (b5 := 4294967295) (by decide +kernel) (by omega)⟩
  · rcases Nat.lt_or_ge y1 2147483652 with g | g
    · exact ⟨0xffffffff0000000000ffffffff0000000000ffffffff0000000000ffffffff00000000008000000380000000050000000000000013, lc_19_1, iv_lf (a1 := 2147483648) (b1 := 2147483651) (a2 := 0) (b2 := 4294967295) (a3 := 0) (b3 := 4294967295) (a4 := 0) (b4 := 4294967295) (a5 := 0) (b5 := 4294967295) (by decide +kernel) (by omega)⟩
    · exact ⟨0xffffffff0000000000ffffffff0000000000ffffffff0000000000ffffffff0000000000ffffffff80000004050000000000000013, lc_19_2, iv_lf (a1 := 2147483652) (b1 := 4294967295) (a2 := 0) (b2 := 4294967295) (a3 := 0) (b3 := 4294967295) (a4 := 0) (b4 := 4294967295) (a5 := 0) (b5 := 4294967295) (by decide +kernel) (by omega)⟩
set_option maxRecDepth 100000 in
theorem lc_20_0 : lw_g (6, 0xffffffff0000000000ffffffff0000000000ffffffff0000000000ffffffff0000000000ffffffff00000000050000000000000014) = true := by decide +kernel
theorem cv_20 (y1 y2 y3 y4 y5 : Nat) (h1 : y1 < 4294967296) (h2 : y2 < 4294967296) (h3 : y3 < 4294967296) (h4 : y4 < 4294967296) (h5 : y5 < 4294967296) : ∃ p, lw_g (6, p) = true ∧ iv_f6 20 y1 y2 y3 y4 y5 p := by
  exact ⟨0xffffffff0000000000ffffffff0000000000ffffffff0000000000ffffffff0000000000ffffffff00000000050000000000000014, lc_20_0, iv_lf (a1 := 0) (b1 := 4294967295) (a2 := 0) (b2 := 4294967295) (a3 := 0) (b3 := 4294967295) (a4 := 0) (b4 := 4294967295) (a5 := 0) (b5 := 4294967295) (by decide +kernel) (by omega)⟩
set_option maxRecDepth 100000 in
theorem lc_21_0 : lw_g (6, 0xffffffff0000000000ffffffff0000000000ffffffff0000000000ffffffff00000000007fffffff00000000050000000000000015) = true := by decide +kernel
set_option maxRecDepth 100000 in
theorem lc_21_1 : lw_g (6, 0xffffffff0000000000ffffffff0000000000ffffffff0000000000ffffffff0000000000ffffffff80000000050000000000000015) = true := by decide +kernel
theorem cv_21 (y1 y2 y3 y4 y5 : Nat) (h1 : y1 < 4294967296) (h2 : y2 < 4294967296) (h3 : y3 < 4294967296) (h4 : y4 < 4294967296) (h5 : y5 < 4294967296) : ∃ p, lw_g (6, p) = true ∧ iv_f6 21 y1 y2 y3 y4 y5 p := by
  rcases Nat.lt_or_ge y1 2147483648 with g | g
  · exact ⟨0xffffffff0000000000ffffffff0000000000ffffffff0000000000ffffffff00000000007fffffff00000000050000000000000015, lc_21_0, iv_lf (a1 := 0) (b1 := 2147483647) (a2 := 0) (b2 := 4294967295) (a3 := 0) (b3 := 4294967295) (a4 := 0) (b4 := 4294967295) (a5 := 0) (b5 := 4294967295) (by decide +kernel) (by omega)⟩
  · exact ⟨0xffffffff0000000000ffffffff0000000000ffffffff0000000000ffffffff0000000000ffffffff80000000050000000000000015, lc_21_1, iv_lf (a1 := 2147483648) (b1 := 4294967295) (a2 := 0) (b2 := 4294967295) (a3 := 0) (b3 := 4294967295) (a4 := 0) (b4 := 4294967295) (a5 := 0) (b5 := 4294967295) (by decide +kernel) (by omega)⟩
set_option maxRecDepth 100000 in
theorem lc_22_0 : lw_g (6, 0xffffffff0000000000ffffffff0000000000ffffffff00000000007fffffff00000000007fffffff00000000050000000000000016) = true := by decide +kernel
set_option maxRecDepth 100000 in
theorem lc_22_1 : lw_g (6, 0xffffffff0000000000ffffffff0000000000ffffffff00000000007fffffff00000000008000000080000000050000000000000016) = true := by decide +kernel
set_option maxRecDepth 100000 in
theorem lc_22_2 : lw_g (6, 0xffffffff0000000000ffffffff0000000000ffffffff00000000007fffffff00000000008000000180000001050000000000000016) = true := by decide +kernel
set_option maxRecDepth 100000 in
theorem lc_22_3 : lw_g (6, 0xffffffff0000000000ffffffff0000000000ffffffff00000000007fffffff00000000008000000280000002050000000000000016) = true := by decide +kernel
set_option maxRecDepth 100000 in
theorem lc_22_4 : lw_g (6, 0xffffffff0000000000ffffffff0000000000ffffffff00000000007fffffff00000000008000000380000003050000000000000016) = true := by decide +kernel
set_option maxRecDepth 100000 in
theorem lc_22_5 : lw_g (6, 0xffffffff0000000000ffffffff0000000000ffffffff00000000007fffffff0000000000ffffffff80000004050000000000000016) = true := by decide +kernel
set_option maxRecDepth 100000 in
theorem lc_22_6 : lw_g (6, 0xffffffff0000000000ffffffff0000000000ffffffff00000000008000000080000000007fffffff00000000050000000000000016) = true := by decide +kernel
set_option maxRecDepth 100000 in
theorem lc_22_7 : lw_g (6, 0xffffffff0000000000ffffffff0000000000ffffffff00000000008000000080000000008000000080000000050000000000000016) = true := by decide +kernel
set_option maxRecDepth 100000 in
theorem lc_22_8 : lw_g (6, 0xffffffff0000000000ffffffff0000000000ffffffff00000000008000000080000000008000000180000001050000000000000016) = true := by decide +kernel
set_option maxRecDepth 100000 in
theorem lc_22_9 : lw_g (6, 0xffffffff0000000000ffffffff0000000000ffffffff00000000008000000080000000008000000280000002050000000000000016) = true := by decide +kernel
set_option maxRecDepth 100000 in
theorem lc_22_10 : lw_g (6, 0xffffffff0000000000ffffffff0000000000ffffffff00000000008000000080000000008000000380000003050000000000000016) = true := by decide +kernel
set_option maxRecDepth 100000 in
theorem lc_22_11 : lw_g (6, 0xffffffff0000000000ffffffff0000000000ffffffff0000000000800000008000000000ffffffff80000004050000000000000016) = true := by decide +kernel
set_option maxRecDepth 100000 in
theorem lc_22_12 : lw_g (6, 0xffffffff0000000000ffffffff0000000000ffffffff0000000000ffffffff80000001007fffffff00000000050000000000000016) = true := by decide +kernel
set_option maxRecDepth 100000 in
theorem lc_22_13 : lw_g (6, 0xffffffff0000000000ffffffff0000000000ffffffff0000000000ffffffff80000001008000000080000000050000000000000016) = true := by decide +kernel
set_option maxRecDepth 100000 in
theorem lc_22_14 : lw_g (6, 0xffffffff0000000000ffffffff0000000000ffffffff0000000000ffffffff80000001008000000180000001050000000000000016) = true := by decide +kernel
set_option maxRecDepth 100000 in
theorem lc_22_15 : lw_g (6, 0xffffffff0000000000ffffffff0000000000ffffffff0000000000ffffffff80000001008000000280000002050000000000000016) = true := by decide +kernel
set_option maxRecDepth 100000 in
theorem lc_22_16 : lw_g (6, 0xffffffff0000000000ffffffff0000000000ffffffff0000000000ffffffff80000001008000000380000003050000000000000016) = true := by decide +kernel
set_option maxRecDepth 100000 in
theorem lc_22_17 : lw_g (6, 0xffffffff0000000000ffffffff0000000000ffffffff0000000000ffffffff8000000100ffffffff80000004050000000000000016) = true := by decide +kernel
theorem cv_22 (y1 y2 y3 y4 y5 : Nat) (h1 : y1 < 4294967296) (h2 : y2 < 4294967296) (h3 : y3 < 4294967296) (h4 : y4 < 4294967296) (h5 : y5 < 4294967296) : ∃ p, lw_g (6, p) = true ∧ iv_f6 22 y1 y2 y3 y4 y5 p := by
  rcases Nat.lt_or_ge y2 2147483648 with g | g
  · rcases Nat.lt_or_ge y1 2147483648 with g | g
    · exact ⟨0xffffffff0000000000ffffffff0000000000ffffffff00000000007fffffff00000000007fffffff00000000050000000000000016, lc_22_0, iv_lf (a1 := 0) (b1 := 2147483647) (a2 := 0) (b2 := 2147483647) (a3 := 0) (b3 := 4294967295) (a4 := 0) (b4 := 4294967295) (a5 := 0) (b5 := 4294967295) (by decide +kernel) (by omega)⟩
    · rcases Nat.lt_or_ge y1 2147483652 with g | g
      · rcases Nat.lt_or_ge y1 2147483649 with g | g
        · exact ⟨0xffffffff0000000000ffffffff0000000000ffffffff00000000007fffffff00000000008000000080000000050000000000000016, lc_22_1, iv_lf (a1 := 2147483648) (b1 := 2147483648) (a2 := 0) (b2 := 2147483647) (a3 := 0) (b3 := 4294967295) (a4 := 0) (b4 := 4294967295) (a5 := 0) (b5 := 4294967295) (by decide +kernel) (by omega)⟩
        · rcases Nat.lt_or_ge y1 2147483650 with g | g
          · exact ⟨0xffffffff0000000000ffffffff0000000000ffffffff00000000007fffffff00000000008000000180000001050000000000000016, lc_22_2, iv_lf (a1 := 2147483649) (b1 := 2147483649) (a2 := 0) (b2 := 2147483647) (a3 := 0) (b3 := 4294967295) (a4 := 0) (b4 := 4294967295) (a5 := 0) (b5 := 4294967295) (by decide +kernel) (by omega)⟩
          · rcases Nat.lt_or_ge y1 2147483651 with g | g
            · exact ⟨0xffffffff0000000000ffffffff0000000000ffffffff00000000007fffffff00000000008000000280000002050000000000000016, lc_22_3, iv_lf (a1 := 2147483650) (b1 := 2147483650) (a2 := 0) (b2 := 2147483647) (a3 := 0) (b3 := 4294967295) (a4 := 0) (b4 := 4294967295) (a5 := 0) (b5 := 4294967295) (by decide +kernel) (by omega)⟩
            · exact ⟨0xffffffff0000000000ffffffff0000000000ffffffff00000000007fffffff00000000008000000380000003050000000000000016, lc_22_4, iv_lf (a1 := 2147483651) (b1 := 2147483651) (a2 := 0) (b2 := 2147483647) (a3 := 0) (b3 := 4294967295) (a4 := 0) (b4 := 4294967295) (a5 := 0) (b5 := 4294967295) (by decide +kernel) (by omega)⟩
      · exact ⟨0xffffffff0000000000ffffffff0000000000ffffffff00000000007fffffff0000000000ffffffff80000004050000000000000016, lc_22_5, iv_lf (a1 := 2147483652) (b1 := 4294967295) (a2 := 0) (b2 := 2147483647) (a3 := 0) (b3 := 4294967295) (a4 := 0) (b4 := 4294967295) (a5 := 0) (b5 := 4294967295) (by decide +kernel) (by omega)⟩
  · rcases Nat.lt_or_ge y2 2147483649 with g | g
    · rcases Nat.lt_or_ge y1 2147483648 with g | g
      · exact ⟨0xffffffff0000000000ffffffff0000000000ffffffff00000000008000000080000000007fffffff00000000050000000000000016, lc_22_6, iv_lf (a1 := 0) (b1 := 2147483647) (a2 := 2147483648) (b2 := 2147483648) (a3 := 0) (b3 := 4294967295) (a4 := 0) (b4 := 4294967295) (a5 := 0) (b5 := 4294967295) (by decide +kernel) (by omega)⟩
      · rcases Nat.lt_or_ge y1 2147483652 with g | g
        · rcases Nat.lt_or_ge y1 2147483649 with g | g
          · exact ⟨0xffffffff0000000000ffffffff0000000000ffffffff00000000008000000080000000008000000080000000050000000000000016, lc_22_7, iv_lf (a1 := 2147483648) (b1 := 2147483648) (a2 := 2147483648) (b2 := 2147483648) (a3 := 0) (b3 := 4294967295) (a4 := 0) (b4 := 4294967295) (a5 := 0) (b5 := 4294967295) (by decide +kernel) (by omega)⟩
          · rcases Nat.lt_or_ge y1 2147483650 with g | g
            · exact ⟨0xffffffff0000000000ffffffff0000000000ffffffff00000000008000000080000000008000000180000001050000000000000016, lc_22_8, iv_lf (a1 := 2147483649) (b1 := 2147483649) (a2 := 2147483648) (b2 := 2147483648) (a3 := 0) (b3 := 4294967295) (a4 := 0) (b4 := 4294967295) (a5 := 0) (b5 := 4294967295) (by decide +kernel) (by omega)⟩
            · rcases Nat.lt_or_ge y1 2147483651 with g | g
              · exact ⟨0xffffffff0000000000ffffffff0000000000ffffffff00000000008000000080000000008000000280000002050000000000000016, lc_22_9, iv_lf (a1 := 2147483650) (b1 := 2147483650) (a2 := 2147483648) (b2 := 2147483648) (a3 := 0) (b3 := 4294967295) (a4 := 0) (b4 := 4294967295) (a5 := 0) (b5 := 4294967295) (by decide +kernel) (by omega)⟩
              · exact ⟨0xffffffff0000000000ffffffff0000000000ffffffff00000000008000000080000000008000000380000003050000000000000016, lc_22_10, iv_lf (a1 := 2147483651) (b1 := 2147483651) (a2 := 2147483648) (b2 := 2147483648) (a3 := 0) (b3 := 4294967295) (a4 := 0) (b4 := 4294967295) (a5 := 0) (b5 := 4294967295) (by decide +kernel) (by omega)⟩
        · exact ⟨0xffffffff0000000000ffffffff0000000000ffffffff0000000000800000008000000000ffffffff80000004050000000000000016, lc_22_11, iv_lf (a1 := 2147483652) (b1 := 4294967295) (a2 := 2147483648) (b2 := 2147483648) (a3 := 0) (b3 := 4294967295) (a4 := 0) (b4 := 4294967295) (a5 := 0) (b5 := 4294967295) (by decide +kernel) (by omega)⟩
    · rcases Nat.lt_or_ge y1 2147483648 with g | g
      · exact ⟨0xffffffff0000000000ffffffff0000000000ffffffff0000000000ffffffff80000001007fffffff00000000050000000000000016, lc_22_12, iv_lf (a1 := 0) (b1 := 2147483647) (a2 := 2147483649) (b2 := 4294967295) (a3 := 0) (b3 := 4294967295) (a4 := 0) (b4 := 4294967295) (a5 := 0) (b5 := 4294967295) (by decide +kernel) (by omega)⟩
      · rcases Nat.lt_or_ge y1 2147483652 with g | g
        · rcases Nat.lt_or_ge y1 2147483649 with g | g
          · exact ⟨0xffffffff0000000000ffffffff0000000000ffffffff0000000000ffffffff80000001008000000080000000050000000000000016, lc_22_13, iv_lf (a1 := 2147483648) (b1 := 2147483648) (a2 := 2147483649) (b2 := 4294967295) (a3 := 0) (b3 := 4294967295) (a4 := 0) (b4 := 4294967295) (a5 := 0) (b5 := 4294967295) (by decide +kernel) (by omega)⟩
          · rcases Nat.lt_or_ge y1 2147483650 with g | g
            · exact ⟨0xffffffff0000000000ffffffff0000000000ffffffff0000000000ffffffff80000001008000000180000001050000000000000016, lc_22_14, iv_lf (a1 := 2147483649) (b1 := 2147483649) (a2 := 2147483649) (b2 := 4294967295) (a3 := 0) (b3 := 4294967295) (a4 := 0) (b4 := 4294967295) (a5 := 0) (b5 := 4294967295) (by decide +kernel) (by omega)⟩
            · rcases Nat.lt_or_ge y1 2147483651 with g | g
              · exact ⟨0xffffffff0000000000ffffffff0000000000ffffffff0000000000ffffffff80000001008000000280000002050000000000000016, lc_22_15, iv_lf (a1 := 2147483650) (b1 := 2147483650) (a2 := 2147483649) (b2 := 4294967295) (a3 := 0) (b3 := 4294967295) (a4 := 0) (b4 := 4294967295) (a5 := 0) (b5 := 4294967295) (by decide +kernel) (by omega)⟩
              · exact ⟨0xffffffff0000000000ffffffff0000000000ffffffff0000000000ffffffff80000001008000000380000003050000000000000016, lc_22_16, iv_lf (a1 := 2147483651) (b1 := 2147483651) (a2 := 2147483649) (b2 := 4294967295) (a3 := 0) (b3 := 4294967295) (a4 := 0) (b4 := 4294967295) (a5 := 0) (b5 := 4294967295) (by decide +kernel) (by omega)⟩
        · exact ⟨0xffffffff0000000000ffffffff0000000000ffffffff0000000000ffffffff8000000100ffffffff80000004050000000000000016, lc_22_17, iv_lf (a1 := 2147483652) (b1 := 4294967295) (a2 := 2147483649) (b2 := 4294967295) (a3 := 0) (b3 := 4294967295) (a4 := 0) (b4 := 4294967295) (a5 := 0) (b5 := 4294967295) (by decide +kernel) (by omega)⟩
set_option maxRecDepth 100000 in
theorem lc_23_0 : lw_g (6, 0xffffffff0000000000ffffffff0000000000ffffffff0000000000ffffffff0000000000ffffffff00000000050000000000000017) = true := by decide +kernel
theorem cv_23 (y1 y2 y3 y4 y5 : Nat) (h1 : y1 < 4294967296) (h2 : y2 < 4294967296) (h3 : y3 < 4294967296) (h4 : y4 < 4294967296) (h5 : y5 < 4294967296) : ∃ p, lw_g (6, p) = true ∧ iv_f6 23 y1 y2 y3 y4 y5 p := by
  exact ⟨0xffffffff0000000000ffffffff0000000000ffffffff0000000000ffffffff0000000000ffffffff00000000050000000000000017, lc_23_0, iv_lf (a1 := 0) (b1 := 4294967295) (a2 := 0) (b2 := 4294967295) (a3 := 0) (b3 := 4294967295) (a4 := 0) (b4 := 4294967295) (a5 := 0) (b5 := 4294967295) (by decide +kernel) (by omega)⟩
set_option maxRecDepth 100000 in
theorem lc_24_0 : lw_g (6, 0xffffffff0000000000ffffffff0000000000ffffffff0000000000ffffffff00000000007fffffff00000000050000000000000018) = true := by decide +kernel
set_option maxRecDepth 100000 in
theorem lc_24_1 : lw_g (6, 0xffffffff0000000000ffffffff0000000000ffffffff0000000000ffffffff0000000000ffffffff80000000050000000000000018) = true := by decide +kernel
theorem cv_24 (y1 y2 y3 y4 y5 : Nat) (h1 : y1 < 4294967296) (h2 : y2 < 4294967296) (h3 : y3 < 4294967296) (h4 : y4 < 4294967296) (h5 : y5 < 4294967296) : ∃ p, lw_g (6, p) = true ∧ iv_f6 24 y1 y2 y3 y4 y5 p := by
  rcases Nat.lt_or_ge y1 2147483648 with g | g
  · exact ⟨0xffffffff0000000000ffffffff0000000000ffffffff0000000000ffffffff00000000007fffffff00000000050000000000000018, lc_24_0, iv_lf (a1 := 0) (b1 := 2147483647) (a2 := 0) (b2 := 4294967295) (a3 := 0) (b3 := 4294967295) (a4 := 0) (b4 := 4294967295) (a5 := 0) (b5 := 4294967295) (by decide +kernel) (by omega)⟩
  · exact ⟨0xffffffff0000000000ffffffff0000000000ffffffff0000000000ffffffff0000000000ffffffff80000000050000000000000018, lc_24_1, iv_lf (a1 := 2147483648) (b1 := 4294967295) (a2 := 0) (b2 := 4294967295) (a3 := 0) (b3 := 4294967295) (a4 := 0) (b4 := 4294967295) (a5 := 0) (b5 := 4294967295) (by decide +kernel) (by omega)⟩
set_option maxRecDepth 100000 in
theorem lc_25_0 : lw_g (6, 0xffffffff0000000000ffffffff0000000000ffffffff0000000000ffffffff0000000000ffffffff00000000050000000000000019) = true := by decide +kernel
theorem cv_25 (y1 y2 y3 y4 y5 : Nat) (h1 : y1 < 4294967296) (h2 : y2 < 4294967296) (h3 : y3 < 4294967296) (h4 : y4 < 4294967296) (h5 : y5 < 4294967296) : ∃ p, lw_g (6, p) = true ∧ iv_f6 25 y1 y2 y3 y4 y5 p := by
  exact ⟨0xffffffff0000000000ffffffff0000000000ffffffff0000000000ffffffff0000000000ffffffff00000000050000000000000019, lc_25_0, iv_lf (a1 := 0) (b1 := 4294967295) (a2 := 0) (b2 := 4294967295) (a3 := 0) (b3 := 4294967295) (a4 := 0) (b4 := 4294967295) (a5 := 0) (b5 := 4294967295) (by decide +kernel) (by omega)⟩
set_option maxRecDepth 100000 in
theorem lc_26_0 : lw_g (6, 0xffffffff0000000000ffffffff0000000000ffffffff0000000000ffffffff00000000007fffffff0000000005000000000000001a) = true := by decide +kernel
set_option maxRecDepth 100000 in
theorem lc_26_1 : lw_g (6, 0xffffffff0000000000ffffffff0000000000ffffffff00000000007ffffffe00000000008000000c8000000005000000000000001a) = true := by decide +kernel
set_option maxRecDepth 100000 in
theorem lc_26_2 : lw_g (6, 0xffffffff0000000000ffffffff0000000000ffffffff00000000007fffffff7fffffff00800000008000000005000000000000001a) = true := by decide +kernel
set_option maxRecDepth 100000 in
theorem lc_26_3 : lw_g (6, 0xffffffff0000000000ffffffff0000000000ffffffff0000000000ffffffff8000000000800000008000000005000000000000001a) = true := by decide +kernel
set_option maxRecDepth 100000 in
theorem lc_26_4 : lw_g (6, 0xffffffff0000000000ffffffff0000000000ffffffff00000000007fffffff7fffffff008000000c8000000105000000000000001a) = true := by decide +kernel
set_option maxRecDepth 100000 in
theorem lc_26_5 : lw_g (6, 0xffffffff0000000000ffffffff0000000000ffffffff0000000000ffffffff80000000008000000c8000000105000000000000001a) = true := by decide +kernel
set_option maxRecDepth 100000 in
theorem lc_26_6 : lw_g (6, 0xffffffff0000000000ffffffff0000000000ffffffff0000000000ffffffff0000000000ffffffff8000000d05000000000000001a) = true := by decide +kernel
theorem cv_26 (y1 y2 y3 y4 y5 : Nat) (h1 : y1 < 4294967296) (h2 : y2 < 4294967296) (h3 : y3 < 4294967296) (h4 : y4 < 4294967296) (h5 : y5 < 4294967296) : ∃ p, lw_g (6, p) = true ∧ iv_f6 26 y1 y2 y3 y4 y5 p := by
  rcases Nat.lt_or_ge y1 2147483648 with g | g
  · exact ⟨0xffffffff0000000000ffffffff0000000000ffffffff0000000000ffffffff00000000007fffffff0000000005000000000000001a, lc_26_0, iv_lf (a1 := 0) (b1 := 2147483647) (a2 := 0) (b2 := 4294967295) (a3 := 0) (b3 := 4294967295) (a4 := 0) (b4 := 4294967295) (a5 := 0) (b5 := 4294967295) (by decide +kernel) (by omega)⟩
  · rcases Nat.lt_or_ge y1 2147483661 with g | g
    · rcases Nat.lt_or_ge y2 2147483647 with g | g
      · exact ⟨0xffffffff0000000000ffffffff0000000000ffffffff00000000007ffffffe00000000008000000c8000000005000000000000001a, lc_26_1, iv_lf (a1 := 2147483648) (b1 := 2147483660) (a2 := 0) (b2 := 2147483646) (a3 := 0) (b3 := 4294967295) (a4 := 0) (b4 := 4294967295) (a5 := 0) (b5 := 4294967295) (by decide +kernel) (by omega)⟩
      · rcases Nat.lt_or_ge y1 2147483649 with g | g
        · rcases Nat.lt_or_ge y2 2147483648 with g | g
          · exact ⟨0xffffffff0000000000ffffffff0000000000ffffffff00000000007fffffff7fffffff00800000008000000005000000000000001a, lc_26_2, iv_lf (a1 := 2147483648) (b1 := 2147483648) (a2 := 2147483647) (b2 := 2147483647) (a3 := 0) (b3 := 4294967295) (a4 := 0) (b4 := 4294967295) (a5 := 0) (b5 := 4294967295) (by decide +kernel) (by omega)⟩
          · exact ⟨0xffffffff0000000000ffffffff0000000000ffffffff0000000000ffffffff8000000000800000008000000005000000000000001a, lc_26_3, iv_lf (a1 := 2147483648) (b1 := 2147483648) (a2 := 2147483648) (b2 := 4294967295) (a3 := 0) (b3 := 4294967295) (a4 := 0) (b4 := 4294967295) (a5 := 0) (b5 := 4294967295) (by decide +kernel) (by omega)⟩
        · rcases Nat.lt_or_ge y2 2147483648 with g | g
          · exact ⟨0xffffffff0000000000ffffffff0000000000ffffffff00000000007fffffff7fffffff008000000c8000000105000000000000001a, lc_26_4, iv_lf (a1 := 2147483649) (b1 := 2147483660) (a2 := 2147483647) (b2 := 2147483647) (a3 := 0) (b3 := 4294967295) (a4 := 0) (b4 := 4294967295) (a5 := 0) (b5 := 4294967295) (by decide +kernel) (by omega)⟩
          · exact ⟨0xffffffff0000000000ffffffff0000000000ffffffff0000000000ffffffff80000000008000000c8000000105000000000000001a, lc_26_5, iv_lf (a1 := 2147483649) (b1 := 2147483660) (a2 := 2147483648) (b2 := 4294967295) (a3 := 0) (b3 := 4294967295) (a4 := 0) (b4 := 4294967295) (a5 := 0) (b5 := 4294967295) (by decide +kernel) (by omega)⟩
    · exact ⟨0xffffffff0000000000ffffffff0000000000ffffffff0000000000ffffffff0000000000ffffffff8000000d05000000000000001a, lc_26_6, iv_lf (a1 := 2147483661) (b1 := 4294967295) (a2 := 0) (b2 := 4294967295) (a3 := 0) (b3 := 4294967295) (a4 := 0) (b4 := 4294967295) (a5 := 0) (b5 := 4294967295) (by decide +kernel) (by omega)⟩
set_option maxRecDepth 100000 in
theorem lc_27_0 : lw_g (6, 0xffffffff0000000000ffffffff0000000000ffffffff0000000000ffffffff0000000000ffffffff0000000005000000000000001b) = true := by decide +kernel
theorem cv_27 (y1 y2 y3 y4 y5 : Nat) (h1 : y1 < 4294967296) (h2 : y2 < 4294967296) (h3 : y3 < 4294967296) (h4 : y4 < 4294967296) (h5 : y5 < 4294967296) : ∃ p, lw_g (6, p) = true ∧ iv_f6 27 y1 y2 y3 y4 y5 p := by
  exact ⟨0xffffffff0000000000ffffffff0000000000ffffffff0000000000ffffffff0000000000ffffffff0000000005000000000000001b, lc_27_0, iv_lf (a1 := 0) (b1 := 4294967295) (a2 := 0) (b2 := 4294967295) (a3 := 0) (b3 := 4294967295) (a4 := 0) (b4 := 4294967295) (a5 := 0) (b5 := 4294967295) (by decide +kernel) (by omega)⟩
set_option maxRecDepth 100000 in
theorem lc_28_0 : lw_g (6, 0xffffffff0000000000ffffffff0000000000ffffffff0000000000ffffffff00000000007fffffff0000000005000000000000001c) = true := by decide +kernel
set_option maxRecDepth 100000 in
theorem lc_28_1 : lw_g (6, 0xffffffff0000000000ffffffff0000000000ffffffff0000000000ffffffff0000000000ffffffff8000000005000000000000001c) = true := by decide +kernel
theorem cv_28 (y1 y2 y3 y4 y5 : Nat) (h1 : y1 < 4294967296) (h2 : y2 < 4294967296) (h3 : y3 < 4294967296) (h4 : y4 < 4294967296) (h5 : y5 < 4294967296) : ∃ p, lw_g (6, p) = true ∧ iv_f6 28 y1 y2 y3 y4 y5 p := by
  rcases Nat.lt_or_ge y1 2147483648 with g | g
  · exact ⟨0xffffffff0000000000ffffffff0000000000ffffffff0000000000ffffffff00000000007fffffff0000000005000000000000001c, lc_28_0, iv_lf (a1 := 0) (b1 := 2147483647) (a2 := 0) (b2 := 4294967295) (a3 := 0) (b3 := 4294967295) (a4 := 0) (b4 := 4294967295) (a5 := 0) (b5 := 4294967295) (by decide +kernel) (by omega)⟩
  · exact ⟨0xffffffff0000000000ffffffff0000000000ffffffff0000000000ffffffff0000000000ffffffff8000000005000000000000001c, lc_28_1, iv_lf (a1 := 2147483648) (b1 := 4294967295) (a2 := 0) (b2 := 4294967295) (a3 := 0) (b3 := 4294967295) (a4 := 0) (b4 := 4294967295) (a5 := 0) (b5 := 4294967295) (by decide +kernel) (by omega)⟩
set_option maxRecDepth 100000 in
theorem lc_29_0 : lw_g (6, 0xffffffff0000000000ffffffff0000000000ffffffff0000000000ffffffff00000000007fffffff0000000005000000000000001d) = true := by decide +kernel
set_option maxRecDepth 100000 in
theorem lc_29_1 : lw_g (6, 0xffffffff0000000000ffffffff0000000000ffffffff00000000007ffffffd00000000008000000b8000000005000000000000001d) = true := by decide +kernel
set_option maxRecDepth 100000 in
theorem lc_29_2 : lw_g (6, 0xffffffff0000000000ffffffff0000000000ffffffff00000000007ffffffe7ffffffe008000000b8000000005000000000000001d) = true := by decide +kernel
set_option maxRecDepth 100000 in
theorem lc_29_3 : lw_g (6, 0xffffffff0000000000ffffffff0000000000ffffffff00000000007fffffff7fffffff008000000b8000000005000000000000001d) = true := by decide +kernel
set_option maxRecDepth 100000 in
theorem lc_29_4 : lw_g (6, 0xffffffff0000000000ffffffff0000000000ffffffff0000000000ffffffff80000000008000000b8000000005000000000000001d) = true := by decide +kernel
set_option maxRecDepth 100000 in
theorem lc_29_5 : lw_g (6, 0xffffffff0000000000ffffffff0000000000ffffffff0000000000ffffffff0000000000ffffffff8000000c05000000000000001d) = true := by decide +kernel
theorem cv_29 (y1 y2 y3 y4 y5 : Nat) (h1 : y1 < 4294967296) (h2 : y2 < 4294967296) (h3 : y3 < 4294967296) (h4 : y4 < 4294967296) (h5 : y5 < 4294967296) : ∃ p, lw_g (6, p) = true ∧ iv_f6 29 y1 y2 y3 y4 y5 p := by
  rcases Nat.lt_or_ge y1 2147483648 with g | g
  · exact ⟨0xffffffff0000000000ffffffff0000000000ffffffff0000000000ffffffff00000000007fffffff0000000005000000000000001d, lc_29_0, iv_lf (a1 := 0) (b1 := 2147483647) (a2 := 0) (b2 := 4294967295) (a3 := 0) (b3 := 4294967295) (a4 := 0) (b4 := 4294967295) (a5 := 0) (b5 := 4294967295) (by decide +kernel) (by omega)⟩
  · rcases Nat.lt_or_ge y1 2147483660 with g | g
    · rcases Nat.lt_or_ge y2 2147483646 with g | g
      · exact ⟨0xffffffff0000000000ffffffff0000000000ffffffff00000000007ffffffd00000000008000000b8000000005000000000000001d, lc_29_1, iv_lf (a1 := 2147483648) (b1 := 2147483659) (a2 := 0) (b2 := 2147483645) (a3 := 0) (b3 := 4294967295) (a4 := 0) (b4 := 4294967295) (a5 := 0) (b5 := 4294967295) (by decide +kernel) (by omega)⟩
      · rcases Nat.lt_or_ge y2 2147483647 with g | g
        · exact ⟨0xffffffff0000000000ffffffff0000000000ffffffff00000000007ffffffe7ffffffe008000000b8000000005000000000000001d, lc_29_2, iv_lf (a1 := 2147483648) (b1 := 2147483659) (a2 := 2147483646) (b2 := 2147483646) (a3 := 0) (b3 := 4294967295) (a4 := 0) (b4 := 4294967295) (a5 := 0) (b5 := 4294967295) (by decide +kernel) (by omega)⟩
        · rcases Nat.lt_or_ge y2 2147483648 with g | g
          · exact ⟨0xffffffff0000000000ffffffff0000000000ffffffff00000000007fffffff7fffffff008000000b8000000005000000000000001d, lc_29_3, iv_lf (a1 := 2147483648) (b1 := 2147483659) (a2 := 2147483647) (b2 := 2147483647) (a3 := 0) (b3 := 4294967295) (a4 := 0) (b4 := 4294967295) (a5 := 0) (b5 := 4294967295) (by decide +kernel) (by omega)⟩
          · exact ⟨0xffffffff0000000000ffffffff0000000000ffffffff0000000000ffffffff80000000008000000b8000000005000000000000001d, lc_29_4, iv_lf (a1 := 2147483648) (b1 := 2147483659) (a2 := 2147483648) (b2 := 4294967295) (a3 := 0) (b3 := 4294967295) (a4 := 0) (b4 := 4294967295) (a5 := 0) (b5 := 4294967295) (by decide +kernel) (by omega)⟩
    · exact ⟨0xffffffff0000000000ffffffff0000000000ffffffff0000000000ffffffff0000000000ffffffff8000000c05000000000000001d, lc_29_5, iv_lf (a1 := 2147483660) (b1 := 4294967295) (a2 := 0) (b2 := 4294967295) (a3 := 0) (b3 := 4294967295) (a4 := 0) (b4 := 4294967295) (a5 := 0) (b5 := 4294967295) (by decide +kernel) (by omega)⟩
